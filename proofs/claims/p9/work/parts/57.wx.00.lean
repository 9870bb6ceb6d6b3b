set_option maxHeartbeats 4000000 in
set_option maxRecDepth 100000 in
theorem x_wanderXN (l : Launch) (G : g5_G) (a_o a_rf a_k a_h a_g a_gn a_b a_bn a_p a_pn a_bb a_j a_as a_sk a_l a_pt a_wa a_bo a_wd a_im a_ke a_th a_ha a_wk a_r a_x a_s a_w : Nat) (sz : Nat) (e_tl : Int32) (e_fd : Int32) (e_fpl : Int32) (e_wn : Int32) (e_lr : Int32) (e_le : Int32) (e_st : Int32) (e_fo : Int32) (e_lc : Int32) (e_g : Int32) (e_b : Int32) (e_p : Int32) (e_ln : Int32) (e_se : Int32) (e_lh : Int32) (e_br : Int32) (e_we : Int32) (e_me : Int32) (e_ce : Int32) (e_wy : Int32) (e_ho : Int32) (e_ov : Int32) (p_s : Int32) (p_c : Int32) (e_wa : Int64) (e_gb : Int64) (f_rf : Nat → Int32) (f_g : Nat → Int32) (f_b : Nat → Int32) (f_p : Nat → Int32) (f_bb : Nat → Int64) (f_as : Nat → Int32) (f_sk : Nat → Int64) (f_l : Nat → Option Nat) (f_pt : Nat → Int32) (f_bo : Nat → Int64) (f_wd : Nat → Int32) (f_ro : Nat → Int32) (h_e_tl : 0 ≤ e_tl.toInt ∧ e_tl.toInt ≤ 400) (h_e_wn : 0 ≤ e_wn.toInt ∧ e_wn.toInt ≤ 1) (h_e_g : 0 ≤ e_g.toInt ∧ e_g.toInt ≤ 6) (h_e_b : 0 ≤ e_b.toInt ∧ e_b.toInt ≤ 5) (h_e_p : 0 ≤ e_p.toInt ∧ e_p.toInt ≤ 8) (h_e_ov : 0 ≤ e_ov.toInt ∧ e_ov.toInt ≤ 1) (e_gk : gOK f_g e_g.toInt) (e_pk : gOK f_p e_p.toInt) (e_gi : inT e_gb f_g e_g.toInt) (e_f : e_fo.toInt < 0 ∨ e_lc.toInt ≤ e_fo.toInt) (e_hh : QH e_wa e_le e_st f_ro) : Met l yX11_wander (wsG yX11_wander cX11_wander 9 (some .int)) ({ frames := 15, cells := 0, slots := 0, locals := 580 }) (va_Pc [.ref a_o, .int p_s, .int p_c] (g5_P G [(a_o, (oc11 a_h a_im a_ke a_k a_wa a_th a_ha a_wk a_r a_x e_tl e_fd e_fpl a_wd e_wn a_rf e_lr)), (a_rf, (arI G 5 f_rf)), (a_k, (oc5 a_h a_j a_pt e_ln e_se e_lh e_br e_we e_me e_ce e_wy e_ho e_ov)), (a_h, (oc1 e_wa e_le e_st e_fo e_lc a_l a_g a_b a_s a_p a_w e_gb a_bb)), (a_g, (oc6 6 5 a_gn e_g)), (a_gn, (arI G 30 f_g)), (a_b, (oc6 5 24 a_bn e_b)), (a_bn, (arI G 120 f_b)), (a_p, (oc6 8 5 a_pn e_p)), (a_pn, (arI G 40 f_p)), (a_bb, (arJ G 24 f_bb)), (a_j, (oc2 a_as a_sk)), (a_as, (arI G 8 f_as)), (a_sk, (arJ G 50 f_sk)), (a_l, (arW G 6 f_l)), (a_pt, (arI G 200 f_pt)), (a_wa, (oc10 a_h a_k a_bo)), (a_bo, (arJ G 24 f_bo)), (a_wd, (arI G 24 f_wd))] sz)) (va_Qi (fun (r : Int32) (u : va_W) => (∃ (o_r : Int32) (o_lr : Int32) (o_rf : Nat → Int32) (o_wn : Int32) (o_ln : Int32) (o_se : Int32) (o_lh : Int32) (o_br : Int32) (o_we : Int32) (o_me : Int32) (o_ce : Int32) (o_wy : Int32) (o_ho : Int32) (o_ov : Int32) (o_pt : Nat → Int32) (o_as : Nat → Int32) (o_sk : Nat → Int64) (o_bo : Nat → Int64) (o_wd : Nat → Int32), (0 ≤ o_ov.toInt ∧ o_ov.toInt ≤ 1) ∧ (0 ≤ o_wn.toInt ∧ o_wn.toInt ≤ 1) ∧ (o_wd = swand f_ro f_wd p_s p_c) ∧ (o_wn = swanf f_ro e_wn p_s p_c) ∧ (r = o_r) ∧ (u = [(a_o, (oc11 a_h a_im a_ke a_k a_wa a_th a_ha a_wk a_r a_x e_tl e_fd e_fpl a_wd o_wn a_rf o_lr)), (a_rf, (arI G 5 o_rf)), (a_k, (oc5 a_h a_j a_pt o_ln o_se o_lh o_br o_we o_me o_ce o_wy o_ho o_ov)), (a_h, (oc1 e_wa e_le e_st e_fo e_lc a_l a_g a_b a_s a_p a_w e_gb a_bb)), (a_g, (oc6 6 5 a_gn e_g)), (a_gn, (arI G 30 f_g)), (a_b, (oc6 5 24 a_bn e_b)), (a_bn, (arI G 120 f_b)), (a_p, (oc6 8 5 a_pn e_p)), (a_pn, (arI G 40 f_p)), (a_bb, (arJ G 24 f_bb)), (a_j, (oc2 a_as a_sk)), (a_as, (arI G 8 o_as)), (a_sk, (arJ G 50 o_sk)), (a_l, (arW G 6 f_l)), (a_pt, (arI G 200 o_pt)), (a_wa, (oc10 a_h a_k a_bo)), (a_bo, (arJ G 24 o_bo)), (a_wd, (arI G 24 o_wd))]))) (g5_B G (va_A [(a_o, (oc11 a_h a_im a_ke a_k a_wa a_th a_ha a_wk a_r a_x e_tl e_fd e_fpl a_wd e_wn a_rf e_lr)), (a_rf, (arI G 5 f_rf)), (a_k, (oc5 a_h a_j a_pt e_ln e_se e_lh e_br e_we e_me e_ce e_wy e_ho e_ov)), (a_h, (oc1 e_wa e_le e_st e_fo e_lc a_l a_g a_b a_s a_p a_w e_gb a_bb)), (a_g, (oc6 6 5 a_gn e_g)), (a_gn, (arI G 30 f_g)), (a_b, (oc6 5 24 a_bn e_b)), (a_bn, (arI G 120 f_b)), (a_p, (oc6 8 5 a_pn e_p)), (a_pn, (arI G 40 f_p)), (a_bb, (arJ G 24 f_bb)), (a_j, (oc2 a_as a_sk)), (a_as, (arI G 8 f_as)), (a_sk, (arJ G 50 f_sk)), (a_l, (arW G 6 f_l)), (a_pt, (arI G 200 f_pt)), (a_wa, (oc10 a_h a_k a_bo)), (a_bo, (arJ G 24 f_bo)), (a_wd, (arI G 24 f_wd))] sz)) (va_A [(a_o, (oc11 a_h a_im a_ke a_k a_wa a_th a_ha a_wk a_r a_x e_tl e_fd e_fpl a_wd e_wn a_rf e_lr)), (a_rf, (arI G 5 f_rf)), (a_k, (oc5 a_h a_j a_pt e_ln e_se e_lh e_br e_we e_me e_ce e_wy e_ho e_ov)), (a_h, (oc1 e_wa e_le e_st e_fo e_lc a_l a_g a_b a_s a_p a_w e_gb a_bb)), (a_g, (oc6 6 5 a_gn e_g)), (a_gn, (arI G 30 f_g)), (a_b, (oc6 5 24 a_bn e_b)), (a_bn, (arI G 120 f_b)), (a_p, (oc6 8 5 a_pn e_p)), (a_pn, (arI G 40 f_p)), (a_bb, (arJ G 24 f_bb)), (a_j, (oc2 a_as a_sk)), (a_as, (arI G 8 f_as)), (a_sk, (arJ G 50 f_sk)), (a_l, (arW G 6 f_l)), (a_pt, (arI G 200 f_pt)), (a_wa, (oc10 a_h a_k a_bo)), (a_bo, (arJ G 24 f_bo)), (a_wd, (arI G 24 f_wd))] sz)) 0 0 (va_A [(a_o, (oc11 a_h a_im a_ke a_k a_wa a_th a_ha a_wk a_r a_x e_tl e_fd e_fpl a_wd e_wn a_rf e_lr)), (a_rf, (arI G 5 f_rf)), (a_k, (oc5 a_h a_j a_pt e_ln e_se e_lh e_br e_we e_me e_ce e_wy e_ho e_ov)), (a_h, (oc1 e_wa e_le e_st e_fo e_lc a_l a_g a_b a_s a_p a_w e_gb a_bb)), (a_g, (oc6 6 5 a_gn e_g)), (a_gn, (arI G 30 f_g)), (a_b, (oc6 5 24 a_bn e_b)), (a_bn, (arI G 120 f_b)), (a_p, (oc6 8 5 a_pn e_p)), (a_pn, (arI G 40 f_p)), (a_bb, (arJ G 24 f_bb)), (a_j, (oc2 a_as a_sk)), (a_as, (arI G 8 f_as)), (a_sk, (arJ G 50 f_sk)), (a_l, (arW G 6 f_l)), (a_pt, (arI G 200 f_pt)), (a_wa, (oc10 a_h a_k a_bo)), (a_bo, (arJ G 24 f_bo)), (a_wd, (arI G 24 f_wd))] sz) := by
  refine Met.ofW (cc := cX11_wander) (maxL := 9) (ret := (some .int)) (by decide) rfl ?_
  intro p e s m args below meth c s₁ B hml hv
  obtain ⟨rfl, hsz, hP, hK, hD0, hN, hT⟩ := hv
  have hx := B.exec
  have hb := B.bytes
  have hr := B.returns
  have hts : ∀ w ∈ tblG, w.before _ s = true := fun w h => atoms_spec (ws := (wsG yX11_wander cX11_wander 9 (some .int))) B.pre w (List.mem_cons_of_mem _ h)
  have hown : s.vm.findClass RX11 = some m.cls := findClass_of_methodNamed B.named
  have hlocks := B.notSynchronized
  subst hsz
  have hD := hD0.self (sz := s.heap.size)
  generalize hAe : va_A [(a_o, (oc11 a_h a_im a_ke a_k a_wa a_th a_ha a_wk a_r a_x e_tl e_fd e_fpl a_wd e_wn a_rf e_lr)), (a_rf, (arI G 5 f_rf)), (a_k, (oc5 a_h a_j a_pt e_ln e_se e_lh e_br e_we e_me e_ce e_wy e_ho e_ov)), (a_h, (oc1 e_wa e_le e_st e_fo e_lc a_l a_g a_b a_s a_p a_w e_gb a_bb)), (a_g, (oc6 6 5 a_gn e_g)), (a_gn, (arI G 30 f_g)), (a_b, (oc6 5 24 a_bn e_b)), (a_bn, (arI G 120 f_b)), (a_p, (oc6 8 5 a_pn e_p)), (a_pn, (arI G 40 f_p)), (a_bb, (arJ G 24 f_bb)), (a_j, (oc2 a_as a_sk)), (a_as, (arI G 8 f_as)), (a_sk, (arJ G 50 f_sk)), (a_l, (arW G 6 f_l)), (a_pt, (arI G 200 f_pt)), (a_wa, (oc10 a_h a_k a_bo)), (a_bo, (arJ G 24 f_bo)), (a_wd, (arI G 24 f_wd))] s.heap.size = A at hD hT ⊢
  have hA : ∀ q : Nat, s.heap.size ≤ q → A q := fun q h => by rw [← hAe]; exact Or.inr h
  have hS : va_S A s.heap s.heap [] := va_S.rf
  have hP : va_P G.1 vwCl [(a_o, (oc11 a_h a_im a_ke a_k a_wa a_th a_ha a_wk a_r a_x e_tl e_fd e_fpl a_wd e_wn a_rf e_lr)), (a_rf, (arI G 5 f_rf)), (a_k, (oc5 a_h a_j a_pt e_ln e_se e_lh e_br e_we e_me e_ce e_wy e_ho e_ov)), (a_h, (oc1 e_wa e_le e_st e_fo e_lc a_l a_g a_b a_s a_p a_w e_gb a_bb)), (a_g, (oc6 6 5 a_gn e_g)), (a_gn, (arI G 30 f_g)), (a_b, (oc6 5 24 a_bn e_b)), (a_bn, (arI G 120 f_b)), (a_p, (oc6 8 5 a_pn e_p)), (a_pn, (arI G 40 f_p)), (a_bb, (arJ G 24 f_bb)), (a_j, (oc2 a_as a_sk)), (a_as, (arI G 8 f_as)), (a_sk, (arJ G 50 f_sk)), (a_l, (arW G 6 f_l)), (a_pt, (arI G 200 f_pt)), (a_wa, (oc10 a_h a_k a_bo)), (a_bo, (arJ G 24 f_bo)), (a_wd, (arI G 24 f_wd))] s.heap := hP
  have hl := lv_entry ([.ref a_o, .int p_s, .int p_c]) (n := 9) (Nat.le_of_ble_eq_true rfl)
  rw [lg_entry_eq]
  generalize (lg_sl ([.ref a_o, .int p_s, .int p_c]) ++ List.replicate (9 - (lg_sl ([.ref a_o, .int p_s, .int p_c])).length) Slot.unset).toArray = ls at hl ⊢
  have hl : lv_has ls 9 [(0, .ref a_o), (1, .int p_s), (2, .int p_c)] := hl
  refine lv_iload_n hx hb dX11_wander_0 rfl (lv_at hl 1 rfl) ?_
  refine lv_if_lt (tgt := 17) hx hb dX11_wander_1 (by decide) (fun c_1 => ?_) (fun c_1 => ?_)
  ·
    have i_1 : p_s.toInt < 0 := by have z := g5_lt (a := p_s.toInt) (b := 0) (by rfl) (by decide) c_1; omega
    refine lv_aload_n hx hb dX11_wander_17 rfl (lv_at hl 0 rfl) ?_
    refine lv_iconst (v := (-1)) hx hb dX11_wander_18 (by decide) ?_
    obtain ⟨hPc, hDc, hFc⟩ := g5_sub3 (wc := [(a_o, (oc11 a_h a_im a_ke a_k a_wa a_th a_ha a_wk a_r a_x e_tl e_fd e_fpl a_wd e_wn a_rf e_lr)), (a_rf, (arI G 5 f_rf))]) hP hD hS hA [0, 1] (by decide) rfl
    refine va_calli (va_runV (As := [.int (-1)]) (rest := []) ⟨hx, hb, hml, hown, hts⟩ (x_refuse1 l G a_o a_rf a_h a_im a_ke a_k a_wa a_th a_ha a_wk a_r a_x a_wd s.heap.size e_tl e_fd e_fpl e_wn e_lr f_rf h_e_tl h_e_wn) (cwV 1 hts gV_X11_104 rfl rfl rfl hv_X11_refuse ⟨Nat.le_of_ble_eq_true rfl, Nat.le_of_ble_eq_true rfl⟩) (g5_preV hPc hK hDc hN hT hS hFc (ci := 11) (q0 := 0) rfl rfl) rfl rfl hl.1 rfl (lv_room (Nat.le_of_ble_eq_true rfl)) dX11_wander_19 ⟨Nat.le_of_ble_eq_true rfl, Nat.le_of_ble_eq_true rfl⟩) hS (fun q _ h => hFc q h) hFc (fun r u t H1 locs ht hvm hw hB hz1 hk1 hS => ?_)
    obtain ⟨hP1, hD1⟩ := hB
    rw [ht] at hP1
    obtain ⟨z2, rfl, rfl⟩ := hw
    obtain ⟨hP, hD⟩ := va_join (wr := [(a_k, (oc5 a_h a_j a_pt e_ln e_se e_lh e_br e_we e_me e_ce e_wy e_ho e_ov)), (a_h, (oc1 e_wa e_le e_st e_fo e_lc a_l a_g a_b a_s a_p a_w e_gb a_bb)), (a_g, (oc6 6 5 a_gn e_g)), (a_gn, (arI G 30 f_g)), (a_b, (oc6 5 24 a_bn e_b)), (a_bn, (arI G 120 f_b)), (a_p, (oc6 8 5 a_pn e_p)), (a_pn, (arI G 40 f_p)), (a_bb, (arJ G 24 f_bb)), (a_j, (oc2 a_as a_sk)), (a_as, (arI G 8 f_as)), (a_sk, (arJ G 50 f_sk)), (a_l, (arW G 6 f_l)), (a_pt, (arI G 200 f_pt)), (a_wa, (oc10 a_h a_k a_bo)), (a_bo, (arJ G 24 f_bo)), (a_wd, (arI G 24 f_wd))]) hP hD [0, 1] [2, 3, 4, 5, 6, 7, 8, 9, 10, 11, 12, 13, 14, 15, 16, 17, 18] rfl rfl (by decide) (by decide) hk1 hFc hP1 hD1
    generalize H1 = H at hP hS ⊢
    refine g5_rs [(a_k, (oc5 a_h a_j a_pt e_ln e_se e_lh e_br e_we e_me e_ce e_wy e_ho e_ov)), (a_h, (oc1 e_wa e_le e_st e_fo e_lc a_l a_g a_b a_s a_p a_w e_gb a_bb)), (a_g, (oc6 6 5 a_gn e_g)), (a_gn, (arI G 30 f_g)), (a_b, (oc6 5 24 a_bn e_b)), (a_bn, (arI G 120 f_b)), (a_p, (oc6 8 5 a_pn e_p)), (a_pn, (arI G 40 f_p)), (a_bb, (arJ G 24 f_bb)), (a_j, (oc2 a_as a_sk)), (a_as, (arI G 8 f_as)), (a_sk, (arJ G 50 f_sk)), (a_l, (arW G 6 f_l)), (a_pt, (arI G 200 f_pt)), (a_wa, (oc10 a_h a_k a_bo)), (a_bo, (arJ G 24 f_bo)), (a_wd, (arI G 24 f_wd)), (a_o, (oc11 a_h a_im a_ke a_k a_wa a_th a_ha a_wk a_r a_x e_tl e_fd e_fpl a_wd e_wn a_rf (-1))), (a_rf, (arI G 5 z2))] hP hD (fun hP hD => ?_)
    exact W.iret (v := (-1)) hx hb hr (fun t ht hW => ⟨⟨(-1), [(a_o, (oc11 a_h a_im a_ke a_k a_wa a_th a_ha a_wk a_r a_x e_tl e_fd e_fpl a_wd e_wn a_rf (-1))), (a_rf, (arI G 5 z2)), (a_k, (oc5 a_h a_j a_pt e_ln e_se e_lh e_br e_we e_me e_ce e_wy e_ho e_ov)), (a_h, (oc1 e_wa e_le e_st e_fo e_lc a_l a_g a_b a_s a_p a_w e_gb a_bb)), (a_g, (oc6 6 5 a_gn e_g)), (a_gn, (arI G 30 f_g)), (a_b, (oc6 5 24 a_bn e_b)), (a_bn, (arI G 120 f_b)), (a_p, (oc6 8 5 a_pn e_p)), (a_pn, (arI G 40 f_p)), (a_bb, (arJ G 24 f_bb)), (a_j, (oc2 a_as a_sk)), (a_as, (arI G 8 f_as)), (a_sk, (arJ G 50 f_sk)), (a_l, (arW G 6 f_l)), (a_pt, (arI G 200 f_pt)), (a_wa, (oc10 a_h a_k a_bo)), (a_bo, (arJ G 24 f_bo)), (a_wd, (arI G 24 f_wd))], rfl, ⟨(-1), (-1), z2, e_wn, e_ln, e_se, e_lh, e_br, e_we, e_me, e_ce, e_wy, e_ho, e_ov, f_pt, f_as, f_sk, f_bo, f_wd, h_e_ov, h_e_wn, (wand_1 (f := f_ro) (g := f_wd) (n := e_wn) (s := p_s) (c := p_c) (fun q => by unfold okD at q; omega)).1.symm, (wand_1 (f := f_ro) (g := f_wd) (n := e_wn) (s := p_s) (c := p_c) (fun q => by unfold okD at q; omega)).2.symm, rfl, rfl⟩, by rw [ht]; exact hP.sub [17, 18, 0, 1, 2, 3, 4, 5, 6, 7, 8, 9, 10, 11, 12, 13, 14, 15, 16] rfl, hD.sub [17, 18, 0, 1, 2, 3, 4, 5, 6, 7, 8, 9, 10, 11, 12, 13, 14, 15, 16] (by decide) rfl⟩, hS.F ht⟩) hS.2.2 dX11_wander_22
  ·
    have i_1 : p_s.toInt ≥ 0 := by have z := g5_ltN (a := p_s.toInt) (b := 0) (by rfl) (by decide) c_1; omega
    refine lv_iload_n hx hb dX11_wander_4 rfl (lv_at hl 1 rfl) ?_
    refine lv_ldc (v := 1000000) hx hb hown (hts _ ki_X11_181) dX11_wander_5 ?_
    refine lv_icmp_gt (tgt := 17) hx hb dX11_wander_7 (by decide) (fun c_3 => ?_) (fun c_3 => ?_)
    ·
      have i_3 : p_s.toInt > 1000000 := by have z := g5_gt (a := p_s.toInt) (b := 1000000) (by rfl) (by decide) c_3; omega
      refine lv_aload_n hx hb dX11_wander_17 rfl (lv_at hl 0 rfl) ?_
      refine lv_iconst (v := (-1)) hx hb dX11_wander_18 (by decide) ?_
      obtain ⟨hPc, hDc, hFc⟩ := g5_sub3 (wc := [(a_o, (oc11 a_h a_im a_ke a_k a_wa a_th a_ha a_wk a_r a_x e_tl e_fd e_fpl a_wd e_wn a_rf e_lr)), (a_rf, (arI G 5 f_rf))]) hP hD hS hA [0, 1] (by decide) rfl
      refine va_calli (va_runV (As := [.int (-1)]) (rest := []) ⟨hx, hb, hml, hown, hts⟩ (x_refuse1 l G a_o a_rf a_h a_im a_ke a_k a_wa a_th a_ha a_wk a_r a_x a_wd s.heap.size e_tl e_fd e_fpl e_wn e_lr f_rf h_e_tl h_e_wn) (cwV 1 hts gV_X11_104 rfl rfl rfl hv_X11_refuse ⟨Nat.le_of_ble_eq_true rfl, Nat.le_of_ble_eq_true rfl⟩) (g5_preV hPc hK hDc hN hT hS hFc (ci := 11) (q0 := 0) rfl rfl) rfl rfl hl.1 rfl (lv_room (Nat.le_of_ble_eq_true rfl)) dX11_wander_19 ⟨Nat.le_of_ble_eq_true rfl, Nat.le_of_ble_eq_true rfl⟩) hS (fun q _ h => hFc q h) hFc (fun r u t H1 locs ht hvm hw hB hz1 hk1 hS => ?_)
      obtain ⟨hP1, hD1⟩ := hB
      rw [ht] at hP1
      obtain ⟨z4, rfl, rfl⟩ := hw
      obtain ⟨hP, hD⟩ := va_join (wr := [(a_k, (oc5 a_h a_j a_pt e_ln e_se e_lh e_br e_we e_me e_ce e_wy e_ho e_ov)), (a_h, (oc1 e_wa e_le e_st e_fo e_lc a_l a_g a_b a_s a_p a_w e_gb a_bb)), (a_g, (oc6 6 5 a_gn e_g)), (a_gn, (arI G 30 f_g)), (a_b, (oc6 5 24 a_bn e_b)), (a_bn, (arI G 120 f_b)), (a_p, (oc6 8 5 a_pn e_p)), (a_pn, (arI G 40 f_p)), (a_bb, (arJ G 24 f_bb)), (a_j, (oc2 a_as a_sk)), (a_as, (arI G 8 f_as)), (a_sk, (arJ G 50 f_sk)), (a_l, (arW G 6 f_l)), (a_pt, (arI G 200 f_pt)), (a_wa, (oc10 a_h a_k a_bo)), (a_bo, (arJ G 24 f_bo)), (a_wd, (arI G 24 f_wd))]) hP hD [0, 1] [2, 3, 4, 5, 6, 7, 8, 9, 10, 11, 12, 13, 14, 15, 16, 17, 18] rfl rfl (by decide) (by decide) hk1 hFc hP1 hD1
      generalize H1 = H at hP hS ⊢
      refine g5_rs [(a_k, (oc5 a_h a_j a_pt e_ln e_se e_lh e_br e_we e_me e_ce e_wy e_ho e_ov)), (a_h, (oc1 e_wa e_le e_st e_fo e_lc a_l a_g a_b a_s a_p a_w e_gb a_bb)), (a_g, (oc6 6 5 a_gn e_g)), (a_gn, (arI G 30 f_g)), (a_b, (oc6 5 24 a_bn e_b)), (a_bn, (arI G 120 f_b)), (a_p, (oc6 8 5 a_pn e_p)), (a_pn, (arI G 40 f_p)), (a_bb, (arJ G 24 f_bb)), (a_j, (oc2 a_as a_sk)), (a_as, (arI G 8 f_as)), (a_sk, (arJ G 50 f_sk)), (a_l, (arW G 6 f_l)), (a_pt, (arI G 200 f_pt)), (a_wa, (oc10 a_h a_k a_bo)), (a_bo, (arJ G 24 f_bo)), (a_wd, (arI G 24 f_wd)), (a_o, (oc11 a_h a_im a_ke a_k a_wa a_th a_ha a_wk a_r a_x e_tl e_fd e_fpl a_wd e_wn a_rf (-1))), (a_rf, (arI G 5 z4))] hP hD (fun hP hD => ?_)
      exact W.iret (v := (-1)) hx hb hr (fun t ht hW => ⟨⟨(-1), [(a_o, (oc11 a_h a_im a_ke a_k a_wa a_th a_ha a_wk a_r a_x e_tl e_fd e_fpl a_wd e_wn a_rf (-1))), (a_rf, (arI G 5 z4)), (a_k, (oc5 a_h a_j a_pt e_ln e_se e_lh e_br e_we e_me e_ce e_wy e_ho e_ov)), (a_h, (oc1 e_wa e_le e_st e_fo e_lc a_l a_g a_b a_s a_p a_w e_gb a_bb)), (a_g, (oc6 6 5 a_gn e_g)), (a_gn, (arI G 30 f_g)), (a_b, (oc6 5 24 a_bn e_b)), (a_bn, (arI G 120 f_b)), (a_p, (oc6 8 5 a_pn e_p)), (a_pn, (arI G 40 f_p)), (a_bb, (arJ G 24 f_bb)), (a_j, (oc2 a_as a_sk)), (a_as, (arI G 8 f_as)), (a_sk, (arJ G 50 f_sk)), (a_l, (arW G 6 f_l)), (a_pt, (arI G 200 f_pt)), (a_wa, (oc10 a_h a_k a_bo)), (a_bo, (arJ G 24 f_bo)), (a_wd, (arI G 24 f_wd))], rfl, ⟨(-1), (-1), z4, e_wn, e_ln, e_se, e_lh, e_br, e_we, e_me, e_ce, e_wy, e_ho, e_ov, f_pt, f_as, f_sk, f_bo, f_wd, h_e_ov, h_e_wn, (wand_1 (f := f_ro) (g := f_wd) (n := e_wn) (s := p_s) (c := p_c) (fun q => by unfold okD at q; omega)).1.symm, (wand_1 (f := f_ro) (g := f_wd) (n := e_wn) (s := p_s) (c := p_c) (fun q => by unfold okD at q; omega)).2.symm, rfl, rfl⟩, by rw [ht]; exact hP.sub [17, 18, 0, 1, 2, 3, 4, 5, 6, 7, 8, 9, 10, 11, 12, 13, 14, 15, 16] rfl, hD.sub [17, 18, 0, 1, 2, 3, 4, 5, 6, 7, 8, 9, 10, 11, 12, 13, 14, 15, 16] (by decide) rfl⟩, hS.F ht⟩) hS.2.2 dX11_wander_22
    ·
      have i_3 : p_s.toInt ≤ 1000000 := by have z := g5_gtN (a := p_s.toInt) (b := 1000000) (by rfl) (by decide) c_3; omega
      refine lv_iload_n hx hb dX11_wander_10 rfl (lv_at hl 2 rfl) ?_
      obtain ⟨hPc, hDc, hFc⟩ := g5_sub3 (wc := []) hP hD hS hA [] (by decide) rfl
      refine va_calli (va_runS (As := [.int p_c]) (rest := []) ⟨hx, hb, hml, hown, hts⟩ (x_isCellX l G s.heap.size p_c) (va_cwS 1 hts gS_X11_97 rfl rfl rfl hs_X11_isCell ⟨Nat.le_of_ble_eq_true rfl, Nat.le_of_ble_eq_true rfl⟩) (g5_preS hPc hK hDc hN hT hS hFc) rfl rfl hl.1 rfl (lv_room (Nat.le_of_ble_eq_true rfl)) dX11_wander_11 ⟨Nat.le_of_ble_eq_true rfl, Nat.le_of_ble_eq_true rfl⟩) hS (fun q _ h => hFc q h) hFc (fun r u t H1 locs ht hvm hw hB hz1 hk1 hS => ?_)
      obtain ⟨hP1, hD1⟩ := hB
      rw [ht] at hP1
      rcases hw with ⟨i_5, rfl, rfl⟩ | ⟨i_6, rfl, rfl⟩
      ·
        have i_5 : 0 ≤ p_c.toInt ∧ p_c.toInt ≤ 63 := i_5
        have hP := g5_same hP hk1
        generalize H1 = H at hP hS ⊢
        refine lv_if_ne (tgt := 23) hx hb dX11_wander_14 (by decide) (fun c_7 => ?_) (fun c_7 => ?_)
        ·
          refine lv_aload_n hx hb dX11_wander_23 rfl (lv_at hl 0 rfl) ?_
          refine va_get (D := G.1) (ci := 11) (v := .ref a_h) (C := RX11) (T := TX11) (N := 17) hx hb hts inG_X11 hown hK hP 0 rfl rfl 0 (by decide) (hts _ fl_X11_12) (fun _ h9 => h9) rfl dX11_wander_24 ?_
          refine va_get (D := G.1) (ci := 1) (v := .long e_wa) (C := RX1) (T := TX1) (N := 13) hx hb hts inG_X1 hown hK hP 3 rfl rfl 0 (by decide) (hts _ fl_X11_111) (fun _ h9 => h9) rfl dX11_wander_27 ?_
          refine lv_iload_n hx hb dX11_wander_30 rfl (lv_at hl 2 rfl) ?_
          obtain ⟨hPc, hDc, hFc⟩ := g5_sub3 (wc := []) hP hD hS hA [] (by decide) rfl
          refine va_calli (va_runS (As := [.long e_wa, .int p_c]) (rest := []) ⟨hx, hb, hml, hown, hts⟩ (k_isOn l G H.size p_c e_wa i_5) (va_cwS 2 hts gS_X11_115 rfl rfl rfl hs_X11_isOn ⟨Nat.le_of_ble_eq_true rfl, Nat.le_of_ble_eq_true rfl⟩) (g5_preS hPc hK hDc hN hT hS hFc) rfl rfl hl.1 rfl (lv_room (Nat.le_of_ble_eq_true rfl)) dX11_wander_31 ⟨Nat.le_of_ble_eq_true rfl, Nat.le_of_ble_eq_true rfl⟩) hS (fun q _ h => hFc q h) hFc (fun r u t H1 locs ht hvm hw hB hz1 hk1 hS => ?_)
          obtain ⟨hP1, hD1⟩ := hB
          rw [ht] at hP1
          rcases hw with ⟨i_8, rfl, rfl⟩ | ⟨i_9, rfl, rfl⟩
          ·
            have i_8 : onB e_wa p_c.toInt = false := i_8
            have hP := g5_same hP hk1
            generalize H1 = H at hP hS ⊢
            refine lv_if_eq (tgt := 44) hx hb dX11_wander_34 (by decide) (fun c_10 => ?_) (fun c_10 => ?_)
            ·
              refine lv_aload_n hx hb dX11_wander_44 rfl (lv_at hl 0 rfl) ?_
              refine va_get (D := G.1) (ci := 11) (v := .ref a_wa) (C := RX11) (T := TX11) (N := 17) hx hb hts inG_X11 hown hK hP 0 rfl rfl 4 (by decide) (hts _ fl_X11_38) (fun _ h9 => h9) rfl dX11_wander_45 ?_
              obtain ⟨hPc, hDc, hFc⟩ := g5_sub3 (wc := [(a_k, (oc5 a_h a_j a_pt e_ln e_se e_lh e_br e_we e_me e_ce e_wy e_ho e_ov)), (a_h, (oc1 e_wa e_le e_st e_fo e_lc a_l a_g a_b a_s a_p a_w e_gb a_bb)), (a_g, (oc6 6 5 a_gn e_g)), (a_gn, (arI G 30 f_g)), (a_b, (oc6 5 24 a_bn e_b)), (a_bn, (arI G 120 f_b)), (a_p, (oc6 8 5 a_pn e_p)), (a_pn, (arI G 40 f_p)), (a_bb, (arJ G 24 f_bb)), (a_j, (oc2 a_as a_sk)), (a_as, (arI G 8 f_as)), (a_sk, (arJ G 50 f_sk)), (a_l, (arW G 6 f_l)), (a_pt, (arI G 200 f_pt)), (a_wa, (oc10 a_h a_k a_bo)), (a_bo, (arJ G 24 f_bo))]) hP hD hS hA [2, 3, 4, 5, 6, 7, 8, 9, 10, 11, 12, 13, 14, 15, 16, 17] (by decide) rfl
              refine va_callv (va_runV (As := []) (rest := []) ⟨hx, hb, hml, hown, hts⟩ (w_lookAroundN l G a_k a_h a_g a_gn a_b a_bn a_p a_pn a_bb a_j a_as a_sk a_l a_pt a_wa a_bo a_s a_w H.size e_le e_st e_fo e_lc e_g e_b e_p e_ln e_se e_lh e_br e_we e_me e_ce e_wy e_ho e_ov e_wa e_gb f_g f_b f_p f_bb f_as f_sk f_l f_pt f_bo h_e_g h_e_b h_e_p h_e_ov (e_gk) (e_pk) (e_gi) (e_f)) (cwV 0 hts gV_X11_254 rfl rfl rfl hv_X10_lookAround ⟨Nat.le_of_ble_eq_true rfl, Nat.le_of_ble_eq_true rfl⟩) (g5_preV hPc hK hDc hN hT hS hFc (ci := 10) (q0 := 14) rfl rfl) rfl rfl hl.1 rfl (lv_room (Nat.le_of_ble_eq_true rfl)) dX11_wander_48 ⟨Nat.le_of_ble_eq_true rfl, Nat.le_of_ble_eq_true rfl⟩) hS (fun q _ h => hFc q h) hFc (fun u t H1 locs ht hvm hw hB hz1 hk1 hS => ?_)
              obtain ⟨hP1, hD1⟩ := hB
              rw [ht] at hP1
              obtain ⟨z12, z13, z14, z15, z16, z17, z18, z19, z20, z21, z22, z23, z24, z25, i_11, rfl⟩ := hw
              have i_11 : 0 ≤ z21.toInt ∧ z21.toInt ≤ 1 := i_11
              obtain ⟨hP, hD⟩ := va_join (wr := [(a_o, (oc11 a_h a_im a_ke a_k a_wa a_th a_ha a_wk a_r a_x e_tl e_fd e_fpl a_wd e_wn a_rf e_lr)), (a_rf, (arI G 5 f_rf)), (a_wd, (arI G 24 f_wd))]) hP hD [2, 3, 4, 5, 6, 7, 8, 9, 10, 11, 12, 13, 14, 15, 16, 17] [0, 1, 18] rfl rfl (by decide) (by decide) hk1 hFc hP1 hD1
              generalize H1 = H at hP hS ⊢
              refine g5_rs [(a_o, (oc11 a_h a_im a_ke a_k a_wa a_th a_ha a_wk a_r a_x e_tl e_fd e_fpl a_wd e_wn a_rf e_lr)), (a_rf, (arI G 5 f_rf)), (a_wd, (arI G 24 f_wd)), (a_k, (oc5 a_h a_j a_pt z12 z13 z14 z15 z16 z17 z18 z19 z20 z21)), (a_h, (oc1 e_wa e_le e_st e_fo e_lc a_l a_g a_b a_s a_p a_w e_gb a_bb)), (a_g, (oc6 6 5 a_gn e_g)), (a_gn, (arI G 30 f_g)), (a_b, (oc6 5 24 a_bn e_b)), (a_bn, (arI G 120 f_b)), (a_p, (oc6 8 5 a_pn e_p)), (a_pn, (arI G 40 f_p)), (a_bb, (arJ G 24 f_bb)), (a_j, (oc2 a_as a_sk)), (a_as, (arI G 8 z23)), (a_sk, (arJ G 50 z24)), (a_l, (arW G 6 f_l)), (a_pt, (arI G 200 z22)), (a_wa, (oc10 a_h a_k a_bo)), (a_bo, (arJ G 24 z25))] hP hD (fun hP hD => ?_)
              refine lv_aload_n hx hb dX11_wander_51 rfl (lv_at hl 0 rfl) ?_
              refine lv_iconst (v := 1) hx hb dX11_wander_52 (by decide) ?_
              refine va_put (D := G.1) (ci := 11) (v := .int 1) (ty := .boolean) (C := RX11) (T := TX11) (N := 17) hx hb hts inG_X11 tyX11 tyX11_ok nmX11 hown hK hP hD hS 0 rfl rfl 14 (by decide) (hts _ fl_X11_87) (fun _ h9 => h9) rfl (by decide +kernel) rfl rfl (Nat.le_of_ble_eq_true rfl) dX11_wander_53 (fun H locs hP hD hS => ?_)
              refine g5_rs [(a_o, (oc11 a_h a_im a_ke a_k a_wa a_th a_ha a_wk a_r a_x e_tl e_fd e_fpl a_wd 1 a_rf e_lr)), (a_rf, (arI G 5 f_rf)), (a_wd, (arI G 24 f_wd)), (a_k, (oc5 a_h a_j a_pt z12 z13 z14 z15 z16 z17 z18 z19 z20 z21)), (a_h, (oc1 e_wa e_le e_st e_fo e_lc a_l a_g a_b a_s a_p a_w e_gb a_bb)), (a_g, (oc6 6 5 a_gn e_g)), (a_gn, (arI G 30 f_g)), (a_b, (oc6 5 24 a_bn e_b)), (a_bn, (arI G 120 f_b)), (a_p, (oc6 8 5 a_pn e_p)), (a_pn, (arI G 40 f_p)), (a_bb, (arJ G 24 f_bb)), (a_j, (oc2 a_as a_sk)), (a_as, (arI G 8 z23)), (a_sk, (arJ G 50 z24)), (a_l, (arW G 6 f_l)), (a_pt, (arI G 200 z22)), (a_wa, (oc10 a_h a_k a_bo)), (a_bo, (arJ G 24 z25))] hP hD (fun hP hD => ?_)
              refine lv_iload_n hx hb dX11_wander_56 rfl (lv_at hl 1 rfl) ?_
              refine lv_i2l (v := p_s.toInt64) hx hb dX11_wander_57 rfl ?_
              refine lv_lstore_n (lv' := [(3, .long p_s.toInt64), (0, .ref a_o), (1, .int p_s), (2, .int p_c)]) hx hb dX11_wander_58 rfl hl (by decide) rfl (fun ls hl => ?_)
              refine lv_iload_n hx hb dX11_wander_59 rfl (lv_at hl 3 rfl) ?_
              refine lv_istore (lv' := [(5, .int p_c), (3, .long p_s.toInt64), (0, .ref a_o), (1, .int p_s), (2, .int p_c)]) hx hb dX11_wander_60 hl (by decide) rfl (fun ls hl => ?_)
              refine lv_iconst (v := 0) hx hb dX11_wander_62 (by decide) ?_
              refine lv_istore (lv' := [(6, .int 0), (5, .int p_c), (3, .long p_s.toInt64), (0, .ref a_o), (1, .int p_s), (2, .int p_c)]) hx hb dX11_wander_63 hl (by decide) rfl (fun ls hl => ?_)
              refine lv_iconst (v := 0) hx hb dX11_wander_65 (by decide) ?_
              refine lv_istore (lv' := [(7, .int 0), (6, .int 0), (5, .int p_c), (3, .long p_s.toInt64), (0, .ref a_o), (1, .int p_s), (2, .int p_c)]) hx hb dX11_wander_66 hl (by decide) rfl (fun ls hl => ?_)
              refine g5_loop (α := (Int64) × (Int32) × (Int32) × (Int32) × (Nat → Int32)) (fun (q : (Int64) × (Int32) × (Int32) × (Int32) × (Nat → Int32)) (ls : Array Slot) (H : Heap) (locs : List Loc) => match q with | (k_d, k_a, k_n, k_i, k_wd) => lv_has ls 9 [(3, .long k_d), (5, .int k_a), (6, .int k_n), (7, .int k_i), (0, .ref a_o), (1, .int p_s), (2, .int p_c)] ∧ va_P G.1 vwCl [(a_o, (oc11 a_h a_im a_ke a_k a_wa a_th a_ha a_wk a_r a_x e_tl e_fd e_fpl a_wd 1 a_rf e_lr)), (a_rf, (arI G 5 f_rf)), (a_wd, (arI G 24 k_wd)), (a_k, (oc5 a_h a_j a_pt z12 z13 z14 z15 z16 z17 z18 z19 z20 z21)), (a_h, (oc1 e_wa e_le e_st e_fo e_lc a_l a_g a_b a_s a_p a_w e_gb a_bb)), (a_g, (oc6 6 5 a_gn e_g)), (a_gn, (arI G 30 f_g)), (a_b, (oc6 5 24 a_bn e_b)), (a_bn, (arI G 120 f_b)), (a_p, (oc6 8 5 a_pn e_p)), (a_pn, (arI G 40 f_p)), (a_bb, (arJ G 24 f_bb)), (a_j, (oc2 a_as a_sk)), (a_as, (arI G 8 z23)), (a_sk, (arJ G 50 z24)), (a_l, (arW G 6 f_l)), (a_pt, (arI G 200 z22)), (a_wa, (oc10 a_h a_k a_bo)), (a_bo, (arJ G 24 z25))] H ∧ va_D A [(a_o, (oc11 a_h a_im a_ke a_k a_wa a_th a_ha a_wk a_r a_x e_tl e_fd e_fpl a_wd 1 a_rf e_lr)), (a_rf, (arI G 5 f_rf)), (a_wd, (arI G 24 k_wd)), (a_k, (oc5 a_h a_j a_pt z12 z13 z14 z15 z16 z17 z18 z19 z20 z21)), (a_h, (oc1 e_wa e_le e_st e_fo e_lc a_l a_g a_b a_s a_p a_w e_gb a_bb)), (a_g, (oc6 6 5 a_gn e_g)), (a_gn, (arI G 30 f_g)), (a_b, (oc6 5 24 a_bn e_b)), (a_bn, (arI G 120 f_b)), (a_p, (oc6 8 5 a_pn e_p)), (a_pn, (arI G 40 f_p)), (a_bb, (arJ G 24 f_bb)), (a_j, (oc2 a_as a_sk)), (a_as, (arI G 8 z23)), (a_sk, (arJ G 50 z24)), (a_l, (arW G 6 f_l)), (a_pt, (arI G 200 z22)), (a_wa, (oc10 a_h a_k a_bo)), (a_bo, (arJ G 24 z25))] ∧ va_S A s.heap H locs ∧ (0 ≤ k_a.toInt ∧ k_a.toInt ≤ 63) ∧ (0 ≤ k_i.toInt ∧ k_i.toInt ≤ 24) ∧ (k_d = wdS p_s.toInt64 (k_i.toInt.toNat - 1)) ∧ (k_a.toInt = wdC f_ro p_s.toInt64 p_c.toInt (k_i.toInt.toNat - 1)) ∧ (k_wd = wdR f_ro p_s.toInt64 p_c.toInt f_wd k_i.toInt.toNat)) (fun (q : (Int64) × (Int32) × (Int32) × (Int32) × (Nat → Int32)) => match q with | (k_d, k_a, k_n, k_i, k_wd) => Int.toNat (24 - k_i.toInt)) (p_s.toInt64, p_c, 0, 0, f_wd) ⟨lv_sub hl [3, 2, 1, 0, 4, 5, 6] rfl, hP, hD, hS, i_5, ⟨by decide, by decide⟩, by rw [show (0 : Int32).toInt.toNat = 0 from by decide]; rfl, by rw [show (0 : Int32).toInt.toNat = 0 from by decide]; rfl, by rw [show (0 : Int32).toInt.toNat = 0 from by decide]; rfl⟩ ?_
              rintro ⟨k_d, k_a, k_n, k_i, k_wd⟩ ls H locs ⟨hl, hP, hD, hS, i_26, i_27, i_28, i_29, i_30⟩ ih_68_31
              have hl : lv_has ls 9 [(3, .long k_d), (5, .int k_a), (6, .int k_n), (7, .int k_i), (0, .ref a_o), (1, .int p_s), (2, .int p_c)] := hl
              have i_26 : 0 ≤ k_a.toInt ∧ k_a.toInt ≤ 63 := i_26
              have i_27 : 0 ≤ k_i.toInt ∧ k_i.toInt ≤ 24 := i_27
              have i_28 : k_d = wdS p_s.toInt64 (k_i.toInt.toNat - 1) := i_28
              have i_29 : k_a.toInt = wdC f_ro p_s.toInt64 p_c.toInt (k_i.toInt.toNat - 1) := i_29
              have i_30 : k_wd = wdR f_ro p_s.toInt64 p_c.toInt f_wd k_i.toInt.toNat := i_30
              refine g5_rs [(a_o, (oc11 a_h a_im a_ke a_k a_wa a_th a_ha a_wk a_r a_x e_tl e_fd e_fpl a_wd 1 a_rf e_lr)), (a_rf, (arI G 5 f_rf)), (a_wd, (arI G 24 k_wd)), (a_k, (oc5 a_h a_j a_pt z12 z13 z14 z15 z16 z17 z18 z19 z20 z21)), (a_h, (oc1 e_wa e_le e_st e_fo e_lc a_l a_g a_b a_s a_p a_w e_gb a_bb)), (a_g, (oc6 6 5 a_gn e_g)), (a_gn, (arI G 30 f_g)), (a_b, (oc6 5 24 a_bn e_b)), (a_bn, (arI G 120 f_b)), (a_p, (oc6 8 5 a_pn e_p)), (a_pn, (arI G 40 f_p)), (a_bb, (arJ G 24 f_bb)), (a_j, (oc2 a_as a_sk)), (a_as, (arI G 8 z23)), (a_sk, (arJ G 50 z24)), (a_l, (arW G 6 f_l)), (a_pt, (arI G 200 z22)), (a_wa, (oc10 a_h a_k a_bo)), (a_bo, (arJ G 24 z25))] hP hD (fun hP hD => ?_)
              refine lv_iload hx hb dX11_wander_68 (lv_at hl 3 rfl) ?_
              refine lv_bipush (v := 24) hx hb dX11_wander_70 (by decide) ?_
              refine lv_icmp_ge (tgt := 173) hx hb dX11_wander_72 (by decide) (fun c_32 => ?_) (fun c_32 => ?_)
              ·
                have i_32 : k_i.toInt ≥ 24 := by have z := g5_ge (a := k_i.toInt) (b := 24) (by rfl) (by decide) c_32; omega
                refine lv_aload_n hx hb dX11_wander_173 rfl (lv_at hl 4 rfl) ?_
                refine lv_iload hx hb dX11_wander_174 (lv_at hl 2 rfl) ?_
                obtain ⟨hPc, hDc, hFc⟩ := g5_sub3 (wc := [(a_o, (oc11 a_h a_im a_ke a_k a_wa a_th a_ha a_wk a_r a_x e_tl e_fd e_fpl a_wd 1 a_rf e_lr))]) hP hD hS hA [0] (by decide) rfl
                refine va_calli (va_runV (As := [.int k_n]) (rest := []) ⟨hx, hb, hml, hown, hts⟩ (x_done l G a_o a_h a_im a_ke a_k a_wa a_th a_ha a_wk a_r a_x a_wd a_rf H.size e_tl e_fd e_fpl 1 e_lr k_n h_e_tl ⟨by decide, by decide⟩) (cwV 1 hts gV_X11_121 rfl rfl rfl hv_X11_done ⟨Nat.le_of_ble_eq_true rfl, Nat.le_of_ble_eq_true rfl⟩) (g5_preV hPc hK hDc hN hT hS hFc (ci := 11) (q0 := 0) rfl rfl) rfl rfl hl.1 rfl (lv_room (Nat.le_of_ble_eq_true rfl)) dX11_wander_176 ⟨Nat.le_of_ble_eq_true rfl, Nat.le_of_ble_eq_true rfl⟩) hS (fun q _ h => hFc q h) hFc (fun r u t H1 locs ht hvm hw hB hz1 hk1 hS => ?_)
                obtain ⟨hP1, hD1⟩ := hB
                rw [ht] at hP1
                obtain ⟨y33, rfl⟩ := hw
                obtain ⟨hP, hD⟩ := va_join (wr := [(a_rf, (arI G 5 f_rf)), (a_wd, (arI G 24 k_wd)), (a_k, (oc5 a_h a_j a_pt z12 z13 z14 z15 z16 z17 z18 z19 z20 z21)), (a_h, (oc1 e_wa e_le e_st e_fo e_lc a_l a_g a_b a_s a_p a_w e_gb a_bb)), (a_g, (oc6 6 5 a_gn e_g)), (a_gn, (arI G 30 f_g)), (a_b, (oc6 5 24 a_bn e_b)), (a_bn, (arI G 120 f_b)), (a_p, (oc6 8 5 a_pn e_p)), (a_pn, (arI G 40 f_p)), (a_bb, (arJ G 24 f_bb)), (a_j, (oc2 a_as a_sk)), (a_as, (arI G 8 z23)), (a_sk, (arJ G 50 z24)), (a_l, (arW G 6 f_l)), (a_pt, (arI G 200 z22)), (a_wa, (oc10 a_h a_k a_bo)), (a_bo, (arJ G 24 z25))]) hP hD [0] [1, 2, 3, 4, 5, 6, 7, 8, 9, 10, 11, 12, 13, 14, 15, 16, 17, 18] rfl rfl (by decide) (by decide) hk1 hFc hP1 hD1
                generalize H1 = H at hP hS ⊢
                refine g5_rs [(a_rf, (arI G 5 f_rf)), (a_wd, (arI G 24 k_wd)), (a_k, (oc5 a_h a_j a_pt z12 z13 z14 z15 z16 z17 z18 z19 z20 z21)), (a_h, (oc1 e_wa e_le e_st e_fo e_lc a_l a_g a_b a_s a_p a_w e_gb a_bb)), (a_g, (oc6 6 5 a_gn e_g)), (a_gn, (arI G 30 f_g)), (a_b, (oc6 5 24 a_bn e_b)), (a_bn, (arI G 120 f_b)), (a_p, (oc6 8 5 a_pn e_p)), (a_pn, (arI G 40 f_p)), (a_bb, (arJ G 24 f_bb)), (a_j, (oc2 a_as a_sk)), (a_as, (arI G 8 z23)), (a_sk, (arJ G 50 z24)), (a_l, (arW G 6 f_l)), (a_pt, (arI G 200 z22)), (a_wa, (oc10 a_h a_k a_bo)), (a_bo, (arJ G 24 z25)), (a_o, (oc11 a_h a_im a_ke a_k a_wa a_th a_ha a_wk a_r a_x e_tl e_fd e_fpl a_wd 1 a_rf 0))] hP hD (fun hP hD => ?_)
                refine g5_ti (v := k_n) y33 ?_
                exact W.iret (v := k_n) hx hb hr (fun t ht hW => ⟨⟨k_n, [(a_o, (oc11 a_h a_im a_ke a_k a_wa a_th a_ha a_wk a_r a_x e_tl e_fd e_fpl a_wd 1 a_rf 0)), (a_rf, (arI G 5 f_rf)), (a_k, (oc5 a_h a_j a_pt z12 z13 z14 z15 z16 z17 z18 z19 z20 z21)), (a_h, (oc1 e_wa e_le e_st e_fo e_lc a_l a_g a_b a_s a_p a_w e_gb a_bb)), (a_g, (oc6 6 5 a_gn e_g)), (a_gn, (arI G 30 f_g)), (a_b, (oc6 5 24 a_bn e_b)), (a_bn, (arI G 120 f_b)), (a_p, (oc6 8 5 a_pn e_p)), (a_pn, (arI G 40 f_p)), (a_bb, (arJ G 24 f_bb)), (a_j, (oc2 a_as a_sk)), (a_as, (arI G 8 z23)), (a_sk, (arJ G 50 z24)), (a_l, (arW G 6 f_l)), (a_pt, (arI G 200 z22)), (a_wa, (oc10 a_h a_k a_bo)), (a_bo, (arJ G 24 z25)), (a_wd, (arI G 24 k_wd))], rfl, ⟨k_n, 0, f_rf, 1, z12, z13, z14, z15, z16, z17, z18, z19, z20, z21, z22, z23, z24, z25, k_wd, i_11, ⟨by have zc_o_wn : (1 : Int32).toInt = 1 := (by decide); omega, by have zc_o_wn : (1 : Int32).toInt = 1 := (by decide); omega⟩, by rw [(wand_0 (f := f_ro) (g := f_wd) (n := e_wn) (s := p_s) (c := p_c) (by unfold okD; omega) (wl_n e_hh (by omega) (Or.inr i_8))).1, i_30, show k_i.toInt.toNat = 24 by omega], (wand_0 (f := f_ro) (g := f_wd) (n := e_wn) (s := p_s) (c := p_c) (by unfold okD; omega) (wl_n e_hh (by omega) (Or.inr i_8))).2.symm, rfl, rfl⟩, by rw [ht]; exact hP.sub [18, 0, 2, 3, 4, 5, 6, 7, 8, 9, 10, 11, 12, 13, 14, 15, 16, 17, 1] rfl, hD.sub [18, 0, 2, 3, 4, 5, 6, 7, 8, 9, 10, 11, 12, 13, 14, 15, 16, 17, 1] (by decide) rfl⟩, hS.F ht⟩) hS.2.2 dX11_wander_179
              ·
                have i_32 : k_i.toInt < 24 := by have z := g5_geN (a := k_i.toInt) (b := 24) (by rfl) (by decide) c_32; omega
                refine lv_iload hx hb dX11_wander_75 (lv_at hl 3 rfl) ?_
                refine lv_if_le (tgt := 137) hx hb dX11_wander_77 (by decide) (fun c_34 => ?_) (fun c_34 => ?_)
                ·
                  have i_34 : k_i.toInt ≤ 0 := by have z := g5_le (a := k_i.toInt) (b := 0) (by rfl) (by decide) c_34; omega
                  refine lv_aload_n hx hb dX11_wander_137 rfl (lv_at hl 4 rfl) ?_
                  refine va_get (D := G.1) (ci := 11) (v := .ref a_wd) (C := RX11) (T := TX11) (N := 17) hx hb hts inG_X11 hown hK hP 0 rfl rfl 13 (by decide) (hts _ fl_X11_84) (fun _ h9 => h9) rfl dX11_wander_138 ?_
                  refine lv_iload hx hb dX11_wander_141 (lv_at hl 3 rfl) ?_
                  refine lv_iload hx hb dX11_wander_143 (lv_at hl 1 rfl) ?_
                  refine va_iast hx hb hK hP hD hS 2 0 rfl rfl (i := k_i) (x := k_a) (vp_in_iff.mpr ⟨by omega, by omega⟩) dX11_wander_145 (fun H locs hP hD hS => ?_)
                  refine g5_rs [(a_o, (oc11 a_h a_im a_ke a_k a_wa a_th a_ha a_wk a_r a_x e_tl e_fd e_fpl a_wd 1 a_rf e_lr)), (a_rf, (arI G 5 f_rf)), (a_wd, (arI G 24 (upd k_wd k_i.toNatClampNeg k_a))), (a_k, (oc5 a_h a_j a_pt z12 z13 z14 z15 z16 z17 z18 z19 z20 z21)), (a_h, (oc1 e_wa e_le e_st e_fo e_lc a_l a_g a_b a_s a_p a_w e_gb a_bb)), (a_g, (oc6 6 5 a_gn e_g)), (a_gn, (arI G 30 f_g)), (a_b, (oc6 5 24 a_bn e_b)), (a_bn, (arI G 120 f_b)), (a_p, (oc6 8 5 a_pn e_p)), (a_pn, (arI G 40 f_p)), (a_bb, (arJ G 24 f_bb)), (a_j, (oc2 a_as a_sk)), (a_as, (arI G 8 z23)), (a_sk, (arJ G 50 z24)), (a_l, (arW G 6 f_l)), (a_pt, (arI G 200 z22)), (a_wa, (oc10 a_h a_k a_bo)), (a_bo, (arJ G 24 z25))] hP hD (fun hP hD => ?_)
                  refine lv_aload_n hx hb dX11_wander_146 rfl (lv_at hl 4 rfl) ?_
                  refine va_get (D := G.1) (ci := 11) (v := .ref a_wa) (C := RX11) (T := TX11) (N := 17) hx hb hts inG_X11 hown hK hP 0 rfl rfl 4 (by decide) (hts _ fl_X11_38) (fun _ h9 => h9) rfl dX11_wander_147 ?_
                  refine va_get (D := G.1) (ci := 10) (v := .ref a_bo) (C := RX10) (T := TX10) (N := 3) hx hb hts inG_X10 hown hK hP 17 rfl rfl 2 (by decide) (hts _ fl_X11_257) (fun _ h9 => h9) rfl dX11_wander_150 ?_
                  refine lv_iload hx hb dX11_wander_153 (lv_at hl 3 rfl) ?_
                  refine va_lald hx hb hK hP 18 1 rfl rfl (i := k_i) (vp_in_iff.mpr ⟨by omega, by omega⟩) dX11_wander_155 ?_
                  refine lv_iload hx hb dX11_wander_156 (lv_at hl 1 rfl) ?_
                  obtain ⟨hPc, hDc, hFc⟩ := g5_sub3 (wc := []) hP hD hS hA [] (by decide) rfl
                  refine va_calli (va_runS (As := [.long (z25 k_i.toNatClampNeg), .int k_a]) (rest := []) ⟨hx, hb, hml, hown, hts⟩ (k_isOn l G H.size k_a (z25 k_i.toNatClampNeg) i_26) (va_cwS 2 hts gS_X11_115 rfl rfl rfl hs_X11_isOn ⟨Nat.le_of_ble_eq_true rfl, Nat.le_of_ble_eq_true rfl⟩) (g5_preS hPc hK hDc hN hT hS hFc) rfl rfl hl.1 rfl (lv_room (Nat.le_of_ble_eq_true rfl)) dX11_wander_158 ⟨Nat.le_of_ble_eq_true rfl, Nat.le_of_ble_eq_true rfl⟩) hS (fun q _ h => hFc q h) hFc (fun r u t H1 locs ht hvm hw hB hz1 hk1 hS => ?_)
                  obtain ⟨hP1, hD1⟩ := hB
                  rw [ht] at hP1
                  rcases hw with ⟨i_35, rfl, rfl⟩ | ⟨i_36, rfl, rfl⟩
                  ·
                    have i_35 : onB (z25 k_i.toNatClampNeg) k_a.toInt = false := i_35
                    have hP := g5_same hP hk1
                    generalize H1 = H at hP hS ⊢
                    refine lv_if_eq (tgt := 167) hx hb dX11_wander_161 (by decide) (fun c_37 => ?_) (fun c_37 => ?_)
                    ·
                      refine lv_iinc (v := (k_i + 1)) (lv' := [(7, .int (k_i + 1)), (3, .long k_d), (5, .int k_a), (6, .int k_n), (0, .ref a_o), (1, .int p_s), (2, .int p_c)]) hx hb dX11_wander_167 hl (k := 3) rfl rfl (by decide) rfl (fun ls hl => ?_)
                      have t_38 : (k_i + 1).toInt = k_i.toInt + 1 := g5_iadd (a := k_i.toInt) (b := 1) rfl (by decide) (by omega) (by omega)
                      refine lv_goto (tgt := 68) hx hb dX11_wander_170 (by decide) ?_
                      exact ih_68_31 (k_d, k_a, k_n, (k_i + 1), (upd k_wd k_i.toNatClampNeg k_a)) ls H locs (show Int.toNat (24 - (k_i + 1).toInt) < Int.toNat (24 - k_i.toInt) from g_up (show k_i.toInt < (k_i + 1).toInt by omega) (show k_i.toInt < 24 by omega)) ⟨lv_sub hl [1, 2, 3, 0, 4, 5, 6] rfl, hP, hD, hS, i_26, ⟨by omega, by omega⟩, by rw [show (k_i + 1).toInt.toNat - 1 = k_i.toInt.toNat - 1 by omega]; exact i_28, by rw [show (k_i + 1).toInt.toNat - 1 = k_i.toInt.toNat - 1 by omega]; exact i_29, by rw [show (k_i + 1).toInt.toNat = k_i.toInt.toNat + 1 by omega]; exact wdR_S i_30 rfl (by rw [show k_i.toInt.toNat = k_i.toInt.toNat - 1 by omega]; exact i_29)⟩
                    ·
                      exact absurd c_37 (by decide)
                  ·
                    have i_36 : onB (z25 k_i.toNatClampNeg) k_a.toInt = true := i_36
                    have hP := g5_same hP hk1
                    generalize H1 = H at hP hS ⊢
                    refine lv_if_eq (tgt := 167) hx hb dX11_wander_161 (by decide) (fun c_39 => ?_) (fun c_39 => ?_)
                    ·
                      exact absurd c_39 (by decide)
                    ·
                      refine lv_iinc (v := (k_n + 1)) (lv' := [(6, .int (k_n + 1)), (3, .long k_d), (5, .int k_a), (7, .int k_i), (0, .ref a_o), (1, .int p_s), (2, .int p_c)]) hx hb dX11_wander_164 hl (k := 2) rfl rfl (by decide) rfl (fun ls hl => ?_)
                      refine lv_iinc (v := (k_i + 1)) (lv' := [(7, .int (k_i + 1)), (6, .int (k_n + 1)), (3, .long k_d), (5, .int k_a), (0, .ref a_o), (1, .int p_s), (2, .int p_c)]) hx hb dX11_wander_167 hl (k := 3) rfl rfl (by decide) rfl (fun ls hl => ?_)
                      have t_40 : (k_i + 1).toInt = k_i.toInt + 1 := g5_iadd (a := k_i.toInt) (b := 1) rfl (by decide) (by omega) (by omega)
                      refine lv_goto (tgt := 68) hx hb dX11_wander_170 (by decide) ?_
                      exact ih_68_31 (k_d, k_a, (k_n + 1), (k_i + 1), (upd k_wd k_i.toNatClampNeg k_a)) ls H locs (show Int.toNat (24 - (k_i + 1).toInt) < Int.toNat (24 - k_i.toInt) from g_up (show k_i.toInt < (k_i + 1).toInt by omega) (show k_i.toInt < 24 by omega)) ⟨lv_sub hl [2, 3, 1, 0, 4, 5, 6] rfl, hP, hD, hS, i_26, ⟨by omega, by omega⟩, by rw [show (k_i + 1).toInt.toNat - 1 = k_i.toInt.toNat - 1 by omega]; exact i_28, by rw [show (k_i + 1).toInt.toNat - 1 = k_i.toInt.toNat - 1 by omega]; exact i_29, by rw [show (k_i + 1).toInt.toNat = k_i.toInt.toNat + 1 by omega]; exact wdR_S i_30 rfl (by rw [show k_i.toInt.toNat = k_i.toInt.toNat - 1 by omega]; exact i_29)⟩
                ·
                  have i_34 : k_i.toInt > 0 := by have z := g5_leN (a := k_i.toInt) (b := 0) (by rfl) (by decide) c_34; omega
                  refine lv_lload_n hx hb dX11_wander_80 rfl (lv_at hl 0 rfl) ?_
                  refine lv_ldc2 (v := 1103) hx hb hown (hts _ kl_X11_340) dX11_wander_81 ?_
                  refine lv_lmul hx hb dX11_wander_84 ?_
                  refine lv_ldc2 (v := 12345) hx hb hown (hts _ kl_X11_342) dX11_wander_85 ?_
                  refine lv_ladd hx hb dX11_wander_88 ?_
                  refine lv_ldc2 (v := 1000003) hx hb hown (hts _ kl_X11_344) dX11_wander_89 ?_
                  refine lv_lrem hx hb dX11_wander_92 (by decide) ?_
                  refine lv_lstore_n (lv' := [(3, .long (((k_d * 1103) + 12345) - ((k_d * 1103) + 12345) / 1000003 * 1000003)), (5, .int k_a), (6, .int k_n), (7, .int k_i), (0, .ref a_o), (1, .int p_s), (2, .int p_c)]) hx hb dX11_wander_93 rfl hl (by decide) rfl (fun ls hl => ?_)
                  refine lv_iload hx hb dX11_wander_94 (lv_at hl 1 rfl) ?_
                  refine lv_lload_n hx hb dX11_wander_96 rfl (lv_at hl 0 rfl) ?_
                  refine lv_ldc2 (v := 5) hx hb hown (hts _ kl_X11_346) dX11_wander_97 ?_
                  refine lv_lrem hx hb dX11_wander_100 (by decide) ?_
                  refine lv_l2i (v := ((((k_d * 1103) + 12345) - ((k_d * 1103) + 12345) / 1000003 * 1000003) - (((k_d * 1103) + 12345) - ((k_d * 1103) + 12345) / 1000003 * 1000003) / 5 * 5).toInt32) hx hb dX11_wander_101 rfl ?_
                  obtain ⟨y41, hy_41⟩ : ∃ y : Int32, ((((k_d * 1103) + 12345) - ((k_d * 1103) + 12345) / 1000003 * 1000003) - (((k_d * 1103) + 12345) - ((k_d * 1103) + 12345) / 1000003 * 1000003) / 5 * 5).toInt32 = y := ⟨_, rfl⟩
                  refine g5_ti (v := y41) hy_41 ?_
                  obtain ⟨hPc, hDc, hFc⟩ := g5_sub3 (wc := []) hP hD hS hA [] (by decide) rfl
                  refine va_calli (va_runS (As := [.int k_a, .int y41]) (rest := []) ⟨hx, hb, hml, hown, hts⟩ (k_beside l G H.size k_a y41 i_26) (va_cwS 2 hts gS_X11_348 rfl rfl rfl hs_X11_beside ⟨Nat.le_of_ble_eq_true rfl, Nat.le_of_ble_eq_true rfl⟩) (g5_preS hPc hK hDc hN hT hS hFc) rfl rfl hl.1 rfl (lv_room (Nat.le_of_ble_eq_true rfl)) dX11_wander_102 ⟨Nat.le_of_ble_eq_true rfl, Nat.le_of_ble_eq_true rfl⟩) hS (fun q _ h => hFc q h) hFc (fun r u t H1 locs ht hvm hw hB hz1 hk1 hS => ?_)
                  obtain ⟨hP1, hD1⟩ := hB
                  rw [ht] at hP1
                  obtain ⟨z44, i_42, i_43, y45, rfl⟩ := hw
                  have i_42 : z44.toInt = bs k_a.toInt y41.toInt := i_42
                  have i_43 : -1 ≤ z44.toInt ∧ z44.toInt ≤ 63 := i_43
                  have hP := g5_same hP hk1
                  generalize H1 = H at hP hS ⊢
                  refine g5_ti (v := z44) y45 ?_
                  refine lv_istore (lv' := [(8, .int z44), (3, .long (((k_d * 1103) + 12345) - ((k_d * 1103) + 12345) / 1000003 * 1000003)), (5, .int k_a), (6, .int k_n), (7, .int k_i), (0, .ref a_o), (1, .int p_s), (2, .int p_c)]) hx hb dX11_wander_105 hl (by decide) rfl (fun ls hl => ?_)
                  refine lv_iload hx hb dX11_wander_107 (lv_at hl 0 rfl) ?_
                  refine lv_iconst (v := (-1)) hx hb dX11_wander_109 (by decide) ?_
                  refine lv_icmp_eq (tgt := 128) hx hb dX11_wander_110 (by decide) (fun c_46 => ?_) (fun c_46 => ?_)
                  ·
                    have i_46 : z44.toInt = (-1) := by have z := g5_eq (a := z44.toInt) (b := (-1)) (by rfl) (by decide) c_46; omega
                    refine lv_iload hx hb dX11_wander_128 (lv_at hl 2 rfl) ?_
                    refine lv_goto (tgt := 135) hx hb dX11_wander_130 (by decide) ?_
                    refine lv_istore (lv' := [(5, .int k_a), (8, .int z44), (3, .long (((k_d * 1103) + 12345) - ((k_d * 1103) + 12345) / 1000003 * 1000003)), (6, .int k_n), (7, .int k_i), (0, .ref a_o), (1, .int p_s), (2, .int p_c)]) hx hb dX11_wander_135 hl (by decide) rfl (fun ls hl => ?_)
                    refine lv_aload_n hx hb dX11_wander_137 rfl (lv_at hl 5 rfl) ?_
                    refine va_get (D := G.1) (ci := 11) (v := .ref a_wd) (C := RX11) (T := TX11) (N := 17) hx hb hts inG_X11 hown hK hP 0 rfl rfl 13 (by decide) (hts _ fl_X11_84) (fun _ h9 => h9) rfl dX11_wander_138 ?_
                    refine lv_iload hx hb dX11_wander_141 (lv_at hl 4 rfl) ?_
                    refine lv_iload hx hb dX11_wander_143 (lv_at hl 0 rfl) ?_
                    refine va_iast hx hb hK hP hD hS 2 0 rfl rfl (i := k_i) (x := k_a) (vp_in_iff.mpr ⟨by omega, by omega⟩) dX11_wander_145 (fun H locs hP hD hS => ?_)
                    refine g5_rs [(a_o, (oc11 a_h a_im a_ke a_k a_wa a_th a_ha a_wk a_r a_x e_tl e_fd e_fpl a_wd 1 a_rf e_lr)), (a_rf, (arI G 5 f_rf)), (a_wd, (arI G 24 (upd k_wd k_i.toNatClampNeg k_a))), (a_k, (oc5 a_h a_j a_pt z12 z13 z14 z15 z16 z17 z18 z19 z20 z21)), (a_h, (oc1 e_wa e_le e_st e_fo e_lc a_l a_g a_b a_s a_p a_w e_gb a_bb)), (a_g, (oc6 6 5 a_gn e_g)), (a_gn, (arI G 30 f_g)), (a_b, (oc6 5 24 a_bn e_b)), (a_bn, (arI G 120 f_b)), (a_p, (oc6 8 5 a_pn e_p)), (a_pn, (arI G 40 f_p)), (a_bb, (arJ G 24 f_bb)), (a_j, (oc2 a_as a_sk)), (a_as, (arI G 8 z23)), (a_sk, (arJ G 50 z24)), (a_l, (arW G 6 f_l)), (a_pt, (arI G 200 z22)), (a_wa, (oc10 a_h a_k a_bo)), (a_bo, (arJ G 24 z25))] hP hD (fun hP hD => ?_)
                    refine lv_aload_n hx hb dX11_wander_146 rfl (lv_at hl 5 rfl) ?_
                    refine va_get (D := G.1) (ci := 11) (v := .ref a_wa) (C := RX11) (T := TX11) (N := 17) hx hb hts inG_X11 hown hK hP 0 rfl rfl 4 (by decide) (hts _ fl_X11_38) (fun _ h9 => h9) rfl dX11_wander_147 ?_
                    refine va_get (D := G.1) (ci := 10) (v := .ref a_bo) (C := RX10) (T := TX10) (N := 3) hx hb hts inG_X10 hown hK hP 17 rfl rfl 2 (by decide) (hts _ fl_X11_257) (fun _ h9 => h9) rfl dX11_wander_150 ?_
                    refine lv_iload hx hb dX11_wander_153 (lv_at hl 4 rfl) ?_
                    refine va_lald hx hb hK hP 18 1 rfl rfl (i := k_i) (vp_in_iff.mpr ⟨by omega, by omega⟩) dX11_wander_155 ?_
                    refine lv_iload hx hb dX11_wander_156 (lv_at hl 0 rfl) ?_
                    obtain ⟨hPc, hDc, hFc⟩ := g5_sub3 (wc := []) hP hD hS hA [] (by decide) rfl
                    refine va_calli (va_runS (As := [.long (z25 k_i.toNatClampNeg), .int k_a]) (rest := []) ⟨hx, hb, hml, hown, hts⟩ (k_isOn l G H.size k_a (z25 k_i.toNatClampNeg) i_26) (va_cwS 2 hts gS_X11_115 rfl rfl rfl hs_X11_isOn ⟨Nat.le_of_ble_eq_true rfl, Nat.le_of_ble_eq_true rfl⟩) (g5_preS hPc hK hDc hN hT hS hFc) rfl rfl hl.1 rfl (lv_room (Nat.le_of_ble_eq_true rfl)) dX11_wander_158 ⟨Nat.le_of_ble_eq_true rfl, Nat.le_of_ble_eq_true rfl⟩) hS (fun q _ h => hFc q h) hFc (fun r u t H1 locs ht hvm hw hB hz1 hk1 hS => ?_)
                    obtain ⟨hP1, hD1⟩ := hB
                    rw [ht] at hP1
                    rcases hw with ⟨i_47, rfl, rfl⟩ | ⟨i_48, rfl, rfl⟩
                    ·
                      have i_47 : onB (z25 k_i.toNatClampNeg) k_a.toInt = false := i_47
                      have hP := g5_same hP hk1
                      generalize H1 = H at hP hS ⊢
                      refine lv_if_eq (tgt := 167) hx hb dX11_wander_161 (by decide) (fun c_49 => ?_) (fun c_49 => ?_)
                      ·
                        refine lv_iinc (v := (k_i + 1)) (lv' := [(7, .int (k_i + 1)), (5, .int k_a), (8, .int z44), (3, .long (((k_d * 1103) + 12345) - ((k_d * 1103) + 12345) / 1000003 * 1000003)), (6, .int k_n), (0, .ref a_o), (1, .int p_s), (2, .int p_c)]) hx hb dX11_wander_167 hl (k := 4) rfl rfl (by decide) rfl (fun ls hl => ?_)
                        have t_50 : (k_i + 1).toInt = k_i.toInt + 1 := g5_iadd (a := k_i.toInt) (b := 1) rfl (by decide) (by omega) (by omega)
                        refine lv_goto (tgt := 68) hx hb dX11_wander_170 (by decide) ?_
                        exact ih_68_31 ((((k_d * 1103) + 12345) - ((k_d * 1103) + 12345) / 1000003 * 1000003), k_a, k_n, (k_i + 1), (upd k_wd k_i.toNatClampNeg k_a)) ls H locs (show Int.toNat (24 - (k_i + 1).toInt) < Int.toNat (24 - k_i.toInt) from g_up (show k_i.toInt < (k_i + 1).toInt by omega) (show k_i.toInt < 24 by omega)) ⟨lv_sub hl [3, 1, 4, 0, 5, 6, 7] rfl, hP, hD, hS, i_26, ⟨by omega, by omega⟩, by rw [show (k_i + 1).toInt.toNat - 1 = (k_i.toInt.toNat - 1) + 1 by omega, wdS_S, ← i_28]; rfl, by rw [show (k_i + 1).toInt.toNat - 1 = (k_i.toInt.toNat - 1) + 1 by omega]; exact (by rw [wdC_S (wdk_of i_28 hy_41), ← i_29, ws_n (by rw [← i_42]; omega)]), by rw [show (k_i + 1).toInt.toNat = k_i.toInt.toNat + 1 by omega]; exact wdR_S i_30 rfl (by rw [show k_i.toInt.toNat = (k_i.toInt.toNat - 1) + 1 by omega]; exact (by rw [wdC_S (wdk_of i_28 hy_41), ← i_29, ws_n (by rw [← i_42]; omega)]))⟩
                      ·
                        exact absurd c_49 (by decide)
                    ·
                      have i_48 : onB (z25 k_i.toNatClampNeg) k_a.toInt = true := i_48
                      have hP := g5_same hP hk1
                      generalize H1 = H at hP hS ⊢
                      refine lv_if_eq (tgt := 167) hx hb dX11_wander_161 (by decide) (fun c_51 => ?_) (fun c_51 => ?_)
                      ·
                        exact absurd c_51 (by decide)
                      ·
                        refine lv_iinc (v := (k_n + 1)) (lv' := [(6, .int (k_n + 1)), (5, .int k_a), (8, .int z44), (3, .long (((k_d * 1103) + 12345) - ((k_d * 1103) + 12345) / 1000003 * 1000003)), (7, .int k_i), (0, .ref a_o), (1, .int p_s), (2, .int p_c)]) hx hb dX11_wander_164 hl (k := 3) rfl rfl (by decide) rfl (fun ls hl => ?_)
                        refine lv_iinc (v := (k_i + 1)) (lv' := [(7, .int (k_i + 1)), (6, .int (k_n + 1)), (5, .int k_a), (8, .int z44), (3, .long (((k_d * 1103) + 12345) - ((k_d * 1103) + 12345) / 1000003 * 1000003)), (0, .ref a_o), (1, .int p_s), (2, .int p_c)]) hx hb dX11_wander_167 hl (k := 4) rfl rfl (by decide) rfl (fun ls hl => ?_)
                        have t_52 : (k_i + 1).toInt = k_i.toInt + 1 := g5_iadd (a := k_i.toInt) (b := 1) rfl (by decide) (by omega) (by omega)
                        refine lv_goto (tgt := 68) hx hb dX11_wander_170 (by decide) ?_
                        exact ih_68_31 ((((k_d * 1103) + 12345) - ((k_d * 1103) + 12345) / 1000003 * 1000003), k_a, (k_n + 1), (k_i + 1), (upd k_wd k_i.toNatClampNeg k_a)) ls H locs (show Int.toNat (24 - (k_i + 1).toInt) < Int.toNat (24 - k_i.toInt) from g_up (show k_i.toInt < (k_i + 1).toInt by omega) (show k_i.toInt < 24 by omega)) ⟨lv_sub hl [4, 2, 1, 0, 5, 6, 7] rfl, hP, hD, hS, i_26, ⟨by omega, by omega⟩, by rw [show (k_i + 1).toInt.toNat - 1 = (k_i.toInt.toNat - 1) + 1 by omega, wdS_S, ← i_28]; rfl, by rw [show (k_i + 1).toInt.toNat - 1 = (k_i.toInt.toNat - 1) + 1 by omega]; exact (by rw [wdC_S (wdk_of i_28 hy_41), ← i_29, ws_n (by rw [← i_42]; omega)]), by rw [show (k_i + 1).toInt.toNat = k_i.toInt.toNat + 1 by omega]; exact wdR_S i_30 rfl (by rw [show k_i.toInt.toNat = (k_i.toInt.toNat - 1) + 1 by omega]; exact (by rw [wdC_S (wdk_of i_28 hy_41), ← i_29, ws_n (by rw [← i_42]; omega)]))⟩
                  ·
                    have n_46 : gNe (z44.toInt) ((-1)) := by have z := g5_eqN (a := z44.toInt) (b := (-1)) (by rfl) (by decide) c_46; unfold gNe; omega
                    have i_46 : z44.toInt ≥ 0 := by have z := g5_eqN (a := z44.toInt) (b := (-1)) (by rfl) (by decide) c_46; omega
                    refine lv_aload_n hx hb dX11_wander_113 rfl (lv_at hl 5 rfl) ?_
                    refine va_get (D := G.1) (ci := 11) (v := .ref a_h) (C := RX11) (T := TX11) (N := 17) hx hb hts inG_X11 hown hK hP 0 rfl rfl 0 (by decide) (hts _ fl_X11_12) (fun _ h9 => h9) rfl dX11_wander_114 ?_
                    refine va_get (D := G.1) (ci := 1) (v := .long e_wa) (C := RX1) (T := TX1) (N := 13) hx hb hts inG_X1 hown hK hP 4 rfl rfl 0 (by decide) (hts _ fl_X11_111) (fun _ h9 => h9) rfl dX11_wander_117 ?_
                    refine lv_iload hx hb dX11_wander_120 (lv_at hl 0 rfl) ?_
                    obtain ⟨hPc, hDc, hFc⟩ := g5_sub3 (wc := []) hP hD hS hA [] (by decide) rfl
                    refine va_calli (va_runS (As := [.long e_wa, .int z44]) (rest := []) ⟨hx, hb, hml, hown, hts⟩ (k_isOn l G H.size z44 e_wa ⟨by omega, by omega⟩) (va_cwS 2 hts gS_X11_115 rfl rfl rfl hs_X11_isOn ⟨Nat.le_of_ble_eq_true rfl, Nat.le_of_ble_eq_true rfl⟩) (g5_preS hPc hK hDc hN hT hS hFc) rfl rfl hl.1 rfl (lv_room (Nat.le_of_ble_eq_true rfl)) dX11_wander_122 ⟨Nat.le_of_ble_eq_true rfl, Nat.le_of_ble_eq_true rfl⟩) hS (fun q _ h => hFc q h) hFc (fun r u t H1 locs ht hvm hw hB hz1 hk1 hS => ?_)
                    obtain ⟨hP1, hD1⟩ := hB
                    rw [ht] at hP1
                    rcases hw with ⟨i_53, rfl, rfl⟩ | ⟨i_54, rfl, rfl⟩
                    ·
                      have i_53 : onB e_wa z44.toInt = false := i_53
                      have hP := g5_same hP hk1
                      generalize H1 = H at hP hS ⊢
                      refine lv_if_eq (tgt := 133) hx hb dX11_wander_125 (by decide) (fun c_55 => ?_) (fun c_55 => ?_)
                      ·
                        refine lv_iload hx hb dX11_wander_133 (lv_at hl 0 rfl) ?_
                        refine lv_istore (lv' := [(5, .int z44), (8, .int z44), (3, .long (((k_d * 1103) + 12345) - ((k_d * 1103) + 12345) / 1000003 * 1000003)), (6, .int k_n), (7, .int k_i), (0, .ref a_o), (1, .int p_s), (2, .int p_c)]) hx hb dX11_wander_135 hl (by decide) rfl (fun ls hl => ?_)
                        refine lv_aload_n hx hb dX11_wander_137 rfl (lv_at hl 5 rfl) ?_
                        refine va_get (D := G.1) (ci := 11) (v := .ref a_wd) (C := RX11) (T := TX11) (N := 17) hx hb hts inG_X11 hown hK hP 0 rfl rfl 13 (by decide) (hts _ fl_X11_84) (fun _ h9 => h9) rfl dX11_wander_138 ?_
                        refine lv_iload hx hb dX11_wander_141 (lv_at hl 4 rfl) ?_
                        refine lv_iload hx hb dX11_wander_143 (lv_at hl 0 rfl) ?_
                        refine va_iast hx hb hK hP hD hS 2 0 rfl rfl (i := k_i) (x := z44) (vp_in_iff.mpr ⟨by omega, by omega⟩) dX11_wander_145 (fun H locs hP hD hS => ?_)
                        refine g5_rs [(a_o, (oc11 a_h a_im a_ke a_k a_wa a_th a_ha a_wk a_r a_x e_tl e_fd e_fpl a_wd 1 a_rf e_lr)), (a_rf, (arI G 5 f_rf)), (a_wd, (arI G 24 (upd k_wd k_i.toNatClampNeg z44))), (a_k, (oc5 a_h a_j a_pt z12 z13 z14 z15 z16 z17 z18 z19 z20 z21)), (a_h, (oc1 e_wa e_le e_st e_fo e_lc a_l a_g a_b a_s a_p a_w e_gb a_bb)), (a_g, (oc6 6 5 a_gn e_g)), (a_gn, (arI G 30 f_g)), (a_b, (oc6 5 24 a_bn e_b)), (a_bn, (arI G 120 f_b)), (a_p, (oc6 8 5 a_pn e_p)), (a_pn, (arI G 40 f_p)), (a_bb, (arJ G 24 f_bb)), (a_j, (oc2 a_as a_sk)), (a_as, (arI G 8 z23)), (a_sk, (arJ G 50 z24)), (a_l, (arW G 6 f_l)), (a_pt, (arI G 200 z22)), (a_wa, (oc10 a_h a_k a_bo)), (a_bo, (arJ G 24 z25))] hP hD (fun hP hD => ?_)
                        refine lv_aload_n hx hb dX11_wander_146 rfl (lv_at hl 5 rfl) ?_
                        refine va_get (D := G.1) (ci := 11) (v := .ref a_wa) (C := RX11) (T := TX11) (N := 17) hx hb hts inG_X11 hown hK hP 0 rfl rfl 4 (by decide) (hts _ fl_X11_38) (fun _ h9 => h9) rfl dX11_wander_147 ?_
                        refine va_get (D := G.1) (ci := 10) (v := .ref a_bo) (C := RX10) (T := TX10) (N := 3) hx hb hts inG_X10 hown hK hP 17 rfl rfl 2 (by decide) (hts _ fl_X11_257) (fun _ h9 => h9) rfl dX11_wander_150 ?_
                        refine lv_iload hx hb dX11_wander_153 (lv_at hl 4 rfl) ?_
                        refine va_lald hx hb hK hP 18 1 rfl rfl (i := k_i) (vp_in_iff.mpr ⟨by omega, by omega⟩) dX11_wander_155 ?_
                        refine lv_iload hx hb dX11_wander_156 (lv_at hl 0 rfl) ?_
                        obtain ⟨hPc, hDc, hFc⟩ := g5_sub3 (wc := []) hP hD hS hA [] (by decide) rfl
                        refine va_calli (va_runS (As := [.long (z25 k_i.toNatClampNeg), .int z44]) (rest := []) ⟨hx, hb, hml, hown, hts⟩ (k_isOn l G H.size z44 (z25 k_i.toNatClampNeg) ⟨by omega, by omega⟩) (va_cwS 2 hts gS_X11_115 rfl rfl rfl hs_X11_isOn ⟨Nat.le_of_ble_eq_true rfl, Nat.le_of_ble_eq_true rfl⟩) (g5_preS hPc hK hDc hN hT hS hFc) rfl rfl hl.1 rfl (lv_room (Nat.le_of_ble_eq_true rfl)) dX11_wander_158 ⟨Nat.le_of_ble_eq_true rfl, Nat.le_of_ble_eq_true rfl⟩) hS (fun q _ h => hFc q h) hFc (fun r u t H1 locs ht hvm hw hB hz1 hk1 hS => ?_)
                        obtain ⟨hP1, hD1⟩ := hB
                        rw [ht] at hP1
                        rcases hw with ⟨i_56, rfl, rfl⟩ | ⟨i_57, rfl, rfl⟩
                        ·
                          have i_56 : onB (z25 k_i.toNatClampNeg) z44.toInt = false := i_56
                          have hP := g5_same hP hk1
                          generalize H1 = H at hP hS ⊢
                          refine lv_if_eq (tgt := 167) hx hb dX11_wander_161 (by decide) (fun c_58 => ?_) (fun c_58 => ?_)
                          ·
                            refine lv_iinc (v := (k_i + 1)) (lv' := [(7, .int (k_i + 1)), (5, .int z44), (8, .int z44), (3, .long (((k_d * 1103) + 12345) - ((k_d * 1103) + 12345) / 1000003 * 1000003)), (6, .int k_n), (0, .ref a_o), (1, .int p_s), (2, .int p_c)]) hx hb dX11_wander_167 hl (k := 4) rfl rfl (by decide) rfl (fun ls hl => ?_)
                            have t_59 : (k_i + 1).toInt = k_i.toInt + 1 := g5_iadd (a := k_i.toInt) (b := 1) rfl (by decide) (by omega) (by omega)
                            refine lv_goto (tgt := 68) hx hb dX11_wander_170 (by decide) ?_
                            exact ih_68_31 ((((k_d * 1103) + 12345) - ((k_d * 1103) + 12345) / 1000003 * 1000003), z44, k_n, (k_i + 1), (upd k_wd k_i.toNatClampNeg z44)) ls H locs (show Int.toNat (24 - (k_i + 1).toInt) < Int.toNat (24 - k_i.toInt) from g_up (show k_i.toInt < (k_i + 1).toInt by omega) (show k_i.toInt < 24 by omega)) ⟨lv_sub hl [3, 1, 4, 0, 5, 6, 7] rfl, hP, hD, hS, ⟨by omega, by omega⟩, ⟨by omega, by omega⟩, by rw [show (k_i + 1).toInt.toNat - 1 = (k_i.toInt.toNat - 1) + 1 by omega, wdS_S, ← i_28]; rfl, by rw [show (k_i + 1).toInt.toNat - 1 = (k_i.toInt.toNat - 1) + 1 by omega]; exact (by rw [wdC_S (wdk_of i_28 hy_41), ← i_29, ws_y (by rw [← i_42]; exact n_46) (by rw [← i_42]; exact wl_n e_hh (by omega) (Or.inr i_53)), ← i_42]), by rw [show (k_i + 1).toInt.toNat = k_i.toInt.toNat + 1 by omega]; exact wdR_S i_30 rfl (by rw [show k_i.toInt.toNat = (k_i.toInt.toNat - 1) + 1 by omega]; exact (by rw [wdC_S (wdk_of i_28 hy_41), ← i_29, ws_y (by rw [← i_42]; exact n_46) (by rw [← i_42]; exact wl_n e_hh (by omega) (Or.inr i_53)), ← i_42]))⟩
                          ·
                            exact absurd c_58 (by decide)
                        ·
                          have i_57 : onB (z25 k_i.toNatClampNeg) z44.toInt = true := i_57
                          have hP := g5_same hP hk1
                          generalize H1 = H at hP hS ⊢
                          refine lv_if_eq (tgt := 167) hx hb dX11_wander_161 (by decide) (fun c_60 => ?_) (fun c_60 => ?_)
                          ·
                            exact absurd c_60 (by decide)
                          ·
                            refine lv_iinc (v := (k_n + 1)) (lv' := [(6, .int (k_n + 1)), (5, .int z44), (8, .int z44), (3, .long (((k_d * 1103) + 12345) - ((k_d * 1103) + 12345) / 1000003 * 1000003)), (7, .int k_i), (0, .ref a_o), (1, .int p_s), (2, .int p_c)]) hx hb dX11_wander_164 hl (k := 3) rfl rfl (by decide) rfl (fun ls hl => ?_)
                            refine lv_iinc (v := (k_i + 1)) (lv' := [(7, .int (k_i + 1)), (6, .int (k_n + 1)), (5, .int z44), (8, .int z44), (3, .long (((k_d * 1103) + 12345) - ((k_d * 1103) + 12345) / 1000003 * 1000003)), (0, .ref a_o), (1, .int p_s), (2, .int p_c)]) hx hb dX11_wander_167 hl (k := 4) rfl rfl (by decide) rfl (fun ls hl => ?_)
                            have t_61 : (k_i + 1).toInt = k_i.toInt + 1 := g5_iadd (a := k_i.toInt) (b := 1) rfl (by decide) (by omega) (by omega)
                            refine lv_goto (tgt := 68) hx hb dX11_wander_170 (by decide) ?_
                            exact ih_68_31 ((((k_d * 1103) + 12345) - ((k_d * 1103) + 12345) / 1000003 * 1000003), z44, (k_n + 1), (k_i + 1), (upd k_wd k_i.toNatClampNeg z44)) ls H locs (show Int.toNat (24 - (k_i + 1).toInt) < Int.toNat (24 - k_i.toInt) from g_up (show k_i.toInt < (k_i + 1).toInt by omega) (show k_i.toInt < 24 by omega)) ⟨lv_sub hl [4, 2, 1, 0, 5, 6, 7] rfl, hP, hD, hS, ⟨by omega, by omega⟩, ⟨by omega, by omega⟩, by rw [show (k_i + 1).toInt.toNat - 1 = (k_i.toInt.toNat - 1) + 1 by omega, wdS_S, ← i_28]; rfl, by rw [show (k_i + 1).toInt.toNat - 1 = (k_i.toInt.toNat - 1) + 1 by omega]; exact (by rw [wdC_S (wdk_of i_28 hy_41), ← i_29, ws_y (by rw [← i_42]; exact n_46) (by rw [← i_42]; exact wl_n e_hh (by omega) (Or.inr i_53)), ← i_42]), by rw [show (k_i + 1).toInt.toNat = k_i.toInt.toNat + 1 by omega]; exact wdR_S i_30 rfl (by rw [show k_i.toInt.toNat = (k_i.toInt.toNat - 1) + 1 by omega]; exact (by rw [wdC_S (wdk_of i_28 hy_41), ← i_29, ws_y (by rw [← i_42]; exact n_46) (by rw [← i_42]; exact wl_n e_hh (by omega) (Or.inr i_53)), ← i_42]))⟩
                      ·
                        exact absurd c_55 (by decide)
                    ·
                      have i_54 : onB e_wa z44.toInt = true := i_54
                      have hP := g5_same hP hk1
                      generalize H1 = H at hP hS ⊢
                      refine lv_if_eq (tgt := 133) hx hb dX11_wander_125 (by decide) (fun c_62 => ?_) (fun c_62 => ?_)
                      ·
                        exact absurd c_62 (by decide)
                      ·
                        refine lv_iload hx hb dX11_wander_128 (lv_at hl 2 rfl) ?_
                        refine lv_goto (tgt := 135) hx hb dX11_wander_130 (by decide) ?_
                        refine lv_istore (lv' := [(5, .int k_a), (8, .int z44), (3, .long (((k_d * 1103) + 12345) - ((k_d * 1103) + 12345) / 1000003 * 1000003)), (6, .int k_n), (7, .int k_i), (0, .ref a_o), (1, .int p_s), (2, .int p_c)]) hx hb dX11_wander_135 hl (by decide) rfl (fun ls hl => ?_)
                        refine lv_aload_n hx hb dX11_wander_137 rfl (lv_at hl 5 rfl) ?_
                        refine va_get (D := G.1) (ci := 11) (v := .ref a_wd) (C := RX11) (T := TX11) (N := 17) hx hb hts inG_X11 hown hK hP 0 rfl rfl 13 (by decide) (hts _ fl_X11_84) (fun _ h9 => h9) rfl dX11_wander_138 ?_
                        refine lv_iload hx hb dX11_wander_141 (lv_at hl 4 rfl) ?_
                        refine lv_iload hx hb dX11_wander_143 (lv_at hl 0 rfl) ?_
                        refine va_iast hx hb hK hP hD hS 2 0 rfl rfl (i := k_i) (x := k_a) (vp_in_iff.mpr ⟨by omega, by omega⟩) dX11_wander_145 (fun H locs hP hD hS => ?_)
                        refine g5_rs [(a_o, (oc11 a_h a_im a_ke a_k a_wa a_th a_ha a_wk a_r a_x e_tl e_fd e_fpl a_wd 1 a_rf e_lr)), (a_rf, (arI G 5 f_rf)), (a_wd, (arI G 24 (upd k_wd k_i.toNatClampNeg k_a))), (a_k, (oc5 a_h a_j a_pt z12 z13 z14 z15 z16 z17 z18 z19 z20 z21)), (a_h, (oc1 e_wa e_le e_st e_fo e_lc a_l a_g a_b a_s a_p a_w e_gb a_bb)), (a_g, (oc6 6 5 a_gn e_g)), (a_gn, (arI G 30 f_g)), (a_b, (oc6 5 24 a_bn e_b)), (a_bn, (arI G 120 f_b)), (a_p, (oc6 8 5 a_pn e_p)), (a_pn, (arI G 40 f_p)), (a_bb, (arJ G 24 f_bb)), (a_j, (oc2 a_as a_sk)), (a_as, (arI G 8 z23)), (a_sk, (arJ G 50 z24)), (a_l, (arW G 6 f_l)), (a_pt, (arI G 200 z22)), (a_wa, (oc10 a_h a_k a_bo)), (a_bo, (arJ G 24 z25))] hP hD (fun hP hD => ?_)
                        refine lv_aload_n hx hb dX11_wander_146 rfl (lv_at hl 5 rfl) ?_
                        refine va_get (D := G.1) (ci := 11) (v := .ref a_wa) (C := RX11) (T := TX11) (N := 17) hx hb hts inG_X11 hown hK hP 0 rfl rfl 4 (by decide) (hts _ fl_X11_38) (fun _ h9 => h9) rfl dX11_wander_147 ?_
                        refine va_get (D := G.1) (ci := 10) (v := .ref a_bo) (C := RX10) (T := TX10) (N := 3) hx hb hts inG_X10 hown hK hP 17 rfl rfl 2 (by decide) (hts _ fl_X11_257) (fun _ h9 => h9) rfl dX11_wander_150 ?_
                        refine lv_iload hx hb dX11_wander_153 (lv_at hl 4 rfl) ?_
                        refine va_lald hx hb hK hP 18 1 rfl rfl (i := k_i) (vp_in_iff.mpr ⟨by omega, by omega⟩) dX11_wander_155 ?_
                        refine lv_iload hx hb dX11_wander_156 (lv_at hl 0 rfl) ?_
                        obtain ⟨hPc, hDc, hFc⟩ := g5_sub3 (wc := []) hP hD hS hA [] (by decide) rfl
                        refine va_calli (va_runS (As := [.long (z25 k_i.toNatClampNeg), .int k_a]) (rest := []) ⟨hx, hb, hml, hown, hts⟩ (k_isOn l G H.size k_a (z25 k_i.toNatClampNeg) i_26) (va_cwS 2 hts gS_X11_115 rfl rfl rfl hs_X11_isOn ⟨Nat.le_of_ble_eq_true rfl, Nat.le_of_ble_eq_true rfl⟩) (g5_preS hPc hK hDc hN hT hS hFc) rfl rfl hl.1 rfl (lv_room (Nat.le_of_ble_eq_true rfl)) dX11_wander_158 ⟨Nat.le_of_ble_eq_true rfl, Nat.le_of_ble_eq_true rfl⟩) hS (fun q _ h => hFc q h) hFc (fun r u t H1 locs ht hvm hw hB hz1 hk1 hS => ?_)
                        obtain ⟨hP1, hD1⟩ := hB
                        rw [ht] at hP1
                        rcases hw with ⟨i_63, rfl, rfl⟩ | ⟨i_64, rfl, rfl⟩
                        ·
                          have i_63 : onB (z25 k_i.toNatClampNeg) k_a.toInt = false := i_63
                          have hP := g5_same hP hk1
                          generalize H1 = H at hP hS ⊢
                          refine lv_if_eq (tgt := 167) hx hb dX11_wander_161 (by decide) (fun c_65 => ?_) (fun c_65 => ?_)
                          ·
                            refine lv_iinc (v := (k_i + 1)) (lv' := [(7, .int (k_i + 1)), (5, .int k_a), (8, .int z44), (3, .long (((k_d * 1103) + 12345) - ((k_d * 1103) + 12345) / 1000003 * 1000003)), (6, .int k_n), (0, .ref a_o), (1, .int p_s), (2, .int p_c)]) hx hb dX11_wander_167 hl (k := 4) rfl rfl (by decide) rfl (fun ls hl => ?_)
                            have t_66 : (k_i + 1).toInt = k_i.toInt + 1 := g5_iadd (a := k_i.toInt) (b := 1) rfl (by decide) (by omega) (by omega)
                            refine lv_goto (tgt := 68) hx hb dX11_wander_170 (by decide) ?_
                            exact ih_68_31 ((((k_d * 1103) + 12345) - ((k_d * 1103) + 12345) / 1000003 * 1000003), k_a, k_n, (k_i + 1), (upd k_wd k_i.toNatClampNeg k_a)) ls H locs (show Int.toNat (24 - (k_i + 1).toInt) < Int.toNat (24 - k_i.toInt) from g_up (show k_i.toInt < (k_i + 1).toInt by omega) (show k_i.toInt < 24 by omega)) ⟨lv_sub hl [3, 1, 4, 0, 5, 6, 7] rfl, hP, hD, hS, i_26, ⟨by omega, by omega⟩, by rw [show (k_i + 1).toInt.toNat - 1 = (k_i.toInt.toNat - 1) + 1 by omega, wdS_S, ← i_28]; rfl, by rw [show (k_i + 1).toInt.toNat - 1 = (k_i.toInt.toNat - 1) + 1 by omega]; exact (by rw [wdC_S (wdk_of i_28 hy_41), ← i_29, ws_w (by rw [← i_42]; exact wl_y e_hh (by omega) ⟨by omega, i_54⟩)]), by rw [show (k_i + 1).toInt.toNat = k_i.toInt.toNat + 1 by omega]; exact wdR_S i_30 rfl (by rw [show k_i.toInt.toNat = (k_i.toInt.toNat - 1) + 1 by omega]; exact (by rw [wdC_S (wdk_of i_28 hy_41), ← i_29, ws_w (by rw [← i_42]; exact wl_y e_hh (by omega) ⟨by omega, i_54⟩)]))⟩
                          ·
                            exact absurd c_65 (by decide)
                        ·
                          have i_64 : onB (z25 k_i.toNatClampNeg) k_a.toInt = true := i_64
                          have hP := g5_same hP hk1
                          generalize H1 = H at hP hS ⊢
                          refine lv_if_eq (tgt := 167) hx hb dX11_wander_161 (by decide) (fun c_67 => ?_) (fun c_67 => ?_)
                          ·
                            exact absurd c_67 (by decide)
                          ·
                            refine lv_iinc (v := (k_n + 1)) (lv' := [(6, .int (k_n + 1)), (5, .int k_a), (8, .int z44), (3, .long (((k_d * 1103) + 12345) - ((k_d * 1103) + 12345) / 1000003 * 1000003)), (7, .int k_i), (0, .ref a_o), (1, .int p_s), (2, .int p_c)]) hx hb dX11_wander_164 hl (k := 3) rfl rfl (by decide) rfl (fun ls hl => ?_)
                            refine lv_iinc (v := (k_i + 1)) (lv' := [(7, .int (k_i + 1)), (6, .int (k_n + 1)), (5, .int k_a), (8, .int z44), (3, .long (((k_d * 1103) + 12345) - ((k_d * 1103) + 12345) / 1000003 * 1000003)), (0, .ref a_o), (1, .int p_s), (2, .int p_c)]) hx hb dX11_wander_167 hl (k := 4) rfl rfl (by decide) rfl (fun ls hl => ?_)
                            have t_68 : (k_i + 1).toInt = k_i.toInt + 1 := g5_iadd (a := k_i.toInt) (b := 1) rfl (by decide) (by omega) (by omega)
                            refine lv_goto (tgt := 68) hx hb dX11_wander_170 (by decide) ?_
                            exact ih_68_31 ((((k_d * 1103) + 12345) - ((k_d * 1103) + 12345) / 1000003 * 1000003), k_a, (k_n + 1), (k_i + 1), (upd k_wd k_i.toNatClampNeg k_a)) ls H locs (show Int.toNat (24 - (k_i + 1).toInt) < Int.toNat (24 - k_i.toInt) from g_up (show k_i.toInt < (k_i + 1).toInt by omega) (show k_i.toInt < 24 by omega)) ⟨lv_sub hl [4, 2, 1, 0, 5, 6, 7] rfl, hP, hD, hS, i_26, ⟨by omega, by omega⟩, by rw [show (k_i + 1).toInt.toNat - 1 = (k_i.toInt.toNat - 1) + 1 by omega, wdS_S, ← i_28]; rfl, by rw [show (k_i + 1).toInt.toNat - 1 = (k_i.toInt.toNat - 1) + 1 by omega]; exact (by rw [wdC_S (wdk_of i_28 hy_41), ← i_29, ws_w (by rw [← i_42]; exact wl_y e_hh (by omega) ⟨by omega, i_54⟩)]), by rw [show (k_i + 1).toInt.toNat = k_i.toInt.toNat + 1 by omega]; exact wdR_S i_30 rfl (by rw [show k_i.toInt.toNat = (k_i.toInt.toNat - 1) + 1 by omega]; exact (by rw [wdC_S (wdk_of i_28 hy_41), ← i_29, ws_w (by rw [← i_42]; exact wl_y e_hh (by omega) ⟨by omega, i_54⟩)]))⟩
            ·
              exact absurd c_10 (by decide)
          ·
            have i_9 : onB e_wa p_c.toInt = true := i_9
            have hP := g5_same hP hk1
            generalize H1 = H at hP hS ⊢
            refine lv_if_eq (tgt := 44) hx hb dX11_wander_34 (by decide) (fun c_69 => ?_) (fun c_69 => ?_)
            ·
              exact absurd c_69 (by decide)
            ·
              refine lv_aload_n hx hb dX11_wander_37 rfl (lv_at hl 0 rfl) ?_
              refine lv_bipush (v := (-3)) hx hb dX11_wander_38 (by decide) ?_
              obtain ⟨hPc, hDc, hFc⟩ := g5_sub3 (wc := [(a_o, (oc11 a_h a_im a_ke a_k a_wa a_th a_ha a_wk a_r a_x e_tl e_fd e_fpl a_wd e_wn a_rf e_lr)), (a_rf, (arI G 5 f_rf))]) hP hD hS hA [0, 1] (by decide) rfl
              refine va_calli (va_runV (As := [.int (-3)]) (rest := []) ⟨hx, hb, hml, hown, hts⟩ (x_refuse3 l G a_o a_rf a_h a_im a_ke a_k a_wa a_th a_ha a_wk a_r a_x a_wd H.size e_tl e_fd e_fpl e_wn e_lr f_rf h_e_tl h_e_wn) (cwV 1 hts gV_X11_104 rfl rfl rfl hv_X11_refuse ⟨Nat.le_of_ble_eq_true rfl, Nat.le_of_ble_eq_true rfl⟩) (g5_preV hPc hK hDc hN hT hS hFc (ci := 11) (q0 := 0) rfl rfl) rfl rfl hl.1 rfl (lv_room (Nat.le_of_ble_eq_true rfl)) dX11_wander_40 ⟨Nat.le_of_ble_eq_true rfl, Nat.le_of_ble_eq_true rfl⟩) hS (fun q _ h => hFc q h) hFc (fun r u t H1 locs ht hvm hw hB hz1 hk1 hS => ?_)
              obtain ⟨hP1, hD1⟩ := hB
              rw [ht] at hP1
              obtain ⟨z70, rfl, rfl⟩ := hw
              obtain ⟨hP, hD⟩ := va_join (wr := [(a_k, (oc5 a_h a_j a_pt e_ln e_se e_lh e_br e_we e_me e_ce e_wy e_ho e_ov)), (a_h, (oc1 e_wa e_le e_st e_fo e_lc a_l a_g a_b a_s a_p a_w e_gb a_bb)), (a_g, (oc6 6 5 a_gn e_g)), (a_gn, (arI G 30 f_g)), (a_b, (oc6 5 24 a_bn e_b)), (a_bn, (arI G 120 f_b)), (a_p, (oc6 8 5 a_pn e_p)), (a_pn, (arI G 40 f_p)), (a_bb, (arJ G 24 f_bb)), (a_j, (oc2 a_as a_sk)), (a_as, (arI G 8 f_as)), (a_sk, (arJ G 50 f_sk)), (a_l, (arW G 6 f_l)), (a_pt, (arI G 200 f_pt)), (a_wa, (oc10 a_h a_k a_bo)), (a_bo, (arJ G 24 f_bo)), (a_wd, (arI G 24 f_wd))]) hP hD [0, 1] [2, 3, 4, 5, 6, 7, 8, 9, 10, 11, 12, 13, 14, 15, 16, 17, 18] rfl rfl (by decide) (by decide) hk1 hFc hP1 hD1
              generalize H1 = H at hP hS ⊢
              refine g5_rs [(a_k, (oc5 a_h a_j a_pt e_ln e_se e_lh e_br e_we e_me e_ce e_wy e_ho e_ov)), (a_h, (oc1 e_wa e_le e_st e_fo e_lc a_l a_g a_b a_s a_p a_w e_gb a_bb)), (a_g, (oc6 6 5 a_gn e_g)), (a_gn, (arI G 30 f_g)), (a_b, (oc6 5 24 a_bn e_b)), (a_bn, (arI G 120 f_b)), (a_p, (oc6 8 5 a_pn e_p)), (a_pn, (arI G 40 f_p)), (a_bb, (arJ G 24 f_bb)), (a_j, (oc2 a_as a_sk)), (a_as, (arI G 8 f_as)), (a_sk, (arJ G 50 f_sk)), (a_l, (arW G 6 f_l)), (a_pt, (arI G 200 f_pt)), (a_wa, (oc10 a_h a_k a_bo)), (a_bo, (arJ G 24 f_bo)), (a_wd, (arI G 24 f_wd)), (a_o, (oc11 a_h a_im a_ke a_k a_wa a_th a_ha a_wk a_r a_x e_tl e_fd e_fpl a_wd e_wn a_rf (-3))), (a_rf, (arI G 5 z70))] hP hD (fun hP hD => ?_)
              exact W.iret (v := (-3)) hx hb hr (fun t ht hW => ⟨⟨(-3), [(a_o, (oc11 a_h a_im a_ke a_k a_wa a_th a_ha a_wk a_r a_x e_tl e_fd e_fpl a_wd e_wn a_rf (-3))), (a_rf, (arI G 5 z70)), (a_k, (oc5 a_h a_j a_pt e_ln e_se e_lh e_br e_we e_me e_ce e_wy e_ho e_ov)), (a_h, (oc1 e_wa e_le e_st e_fo e_lc a_l a_g a_b a_s a_p a_w e_gb a_bb)), (a_g, (oc6 6 5 a_gn e_g)), (a_gn, (arI G 30 f_g)), (a_b, (oc6 5 24 a_bn e_b)), (a_bn, (arI G 120 f_b)), (a_p, (oc6 8 5 a_pn e_p)), (a_pn, (arI G 40 f_p)), (a_bb, (arJ G 24 f_bb)), (a_j, (oc2 a_as a_sk)), (a_as, (arI G 8 f_as)), (a_sk, (arJ G 50 f_sk)), (a_l, (arW G 6 f_l)), (a_pt, (arI G 200 f_pt)), (a_wa, (oc10 a_h a_k a_bo)), (a_bo, (arJ G 24 f_bo)), (a_wd, (arI G 24 f_wd))], rfl, ⟨(-3), (-3), z70, e_wn, e_ln, e_se, e_lh, e_br, e_we, e_me, e_ce, e_wy, e_ho, e_ov, f_pt, f_as, f_sk, f_bo, f_wd, h_e_ov, h_e_wn, (wand_3 (f := f_ro) (g := f_wd) (n := e_wn) (s := p_s) (c := p_c) (wl_y e_hh (by omega) ⟨by omega, i_9⟩)).1.symm, (wand_3 (f := f_ro) (g := f_wd) (n := e_wn) (s := p_s) (c := p_c) (wl_y e_hh (by omega) ⟨by omega, i_9⟩)).2.symm, rfl, rfl⟩, by rw [ht]; exact hP.sub [17, 18, 0, 1, 2, 3, 4, 5, 6, 7, 8, 9, 10, 11, 12, 13, 14, 15, 16] rfl, hD.sub [17, 18, 0, 1, 2, 3, 4, 5, 6, 7, 8, 9, 10, 11, 12, 13, 14, 15, 16] (by decide) rfl⟩, hS.F ht⟩) hS.2.2 dX11_wander_43
        ·
          exact absurd c_7 (by decide)
      ·
        have i_6 : p_c.toInt < 0 ∨ 63 < p_c.toInt := i_6
        have hP := g5_same hP hk1
        generalize H1 = H at hP hS ⊢
        refine lv_if_ne (tgt := 23) hx hb dX11_wander_14 (by decide) (fun c_71 => ?_) (fun c_71 => ?_)
        ·
          exact absurd c_71 (by decide)
        ·
          refine lv_aload_n hx hb dX11_wander_17 rfl (lv_at hl 0 rfl) ?_
          refine lv_iconst (v := (-1)) hx hb dX11_wander_18 (by decide) ?_
          obtain ⟨hPc, hDc, hFc⟩ := g5_sub3 (wc := [(a_o, (oc11 a_h a_im a_ke a_k a_wa a_th a_ha a_wk a_r a_x e_tl e_fd e_fpl a_wd e_wn a_rf e_lr)), (a_rf, (arI G 5 f_rf))]) hP hD hS hA [0, 1] (by decide) rfl
          refine va_calli (va_runV (As := [.int (-1)]) (rest := []) ⟨hx, hb, hml, hown, hts⟩ (x_refuse1 l G a_o a_rf a_h a_im a_ke a_k a_wa a_th a_ha a_wk a_r a_x a_wd H.size e_tl e_fd e_fpl e_wn e_lr f_rf h_e_tl h_e_wn) (cwV 1 hts gV_X11_104 rfl rfl rfl hv_X11_refuse ⟨Nat.le_of_ble_eq_true rfl, Nat.le_of_ble_eq_true rfl⟩) (g5_preV hPc hK hDc hN hT hS hFc (ci := 11) (q0 := 0) rfl rfl) rfl rfl hl.1 rfl (lv_room (Nat.le_of_ble_eq_true rfl)) dX11_wander_19 ⟨Nat.le_of_ble_eq_true rfl, Nat.le_of_ble_eq_true rfl⟩) hS (fun q _ h => hFc q h) hFc (fun r u t H1 locs ht hvm hw hB hz1 hk1 hS => ?_)
          obtain ⟨hP1, hD1⟩ := hB
          rw [ht] at hP1
          obtain ⟨z72, rfl, rfl⟩ := hw
          obtain ⟨hP, hD⟩ := va_join (wr := [(a_k, (oc5 a_h a_j a_pt e_ln e_se e_lh e_br e_we e_me e_ce e_wy e_ho e_ov)), (a_h, (oc1 e_wa e_le e_st e_fo e_lc a_l a_g a_b a_s a_p a_w e_gb a_bb)), (a_g, (oc6 6 5 a_gn e_g)), (a_gn, (arI G 30 f_g)), (a_b, (oc6 5 24 a_bn e_b)), (a_bn, (arI G 120 f_b)), (a_p, (oc6 8 5 a_pn e_p)), (a_pn, (arI G 40 f_p)), (a_bb, (arJ G 24 f_bb)), (a_j, (oc2 a_as a_sk)), (a_as, (arI G 8 f_as)), (a_sk, (arJ G 50 f_sk)), (a_l, (arW G 6 f_l)), (a_pt, (arI G 200 f_pt)), (a_wa, (oc10 a_h a_k a_bo)), (a_bo, (arJ G 24 f_bo)), (a_wd, (arI G 24 f_wd))]) hP hD [0, 1] [2, 3, 4, 5, 6, 7, 8, 9, 10, 11, 12, 13, 14, 15, 16, 17, 18] rfl rfl (by decide) (by decide) hk1 hFc hP1 hD1
          generalize H1 = H at hP hS ⊢
          refine g5_rs [(a_k, (oc5 a_h a_j a_pt e_ln e_se e_lh e_br e_we e_me e_ce e_wy e_ho e_ov)), (a_h, (oc1 e_wa e_le e_st e_fo e_lc a_l a_g a_b a_s a_p a_w e_gb a_bb)), (a_g, (oc6 6 5 a_gn e_g)), (a_gn, (arI G 30 f_g)), (a_b, (oc6 5 24 a_bn e_b)), (a_bn, (arI G 120 f_b)), (a_p, (oc6 8 5 a_pn e_p)), (a_pn, (arI G 40 f_p)), (a_bb, (arJ G 24 f_bb)), (a_j, (oc2 a_as a_sk)), (a_as, (arI G 8 f_as)), (a_sk, (arJ G 50 f_sk)), (a_l, (arW G 6 f_l)), (a_pt, (arI G 200 f_pt)), (a_wa, (oc10 a_h a_k a_bo)), (a_bo, (arJ G 24 f_bo)), (a_wd, (arI G 24 f_wd)), (a_o, (oc11 a_h a_im a_ke a_k a_wa a_th a_ha a_wk a_r a_x e_tl e_fd e_fpl a_wd e_wn a_rf (-1))), (a_rf, (arI G 5 z72))] hP hD (fun hP hD => ?_)
          exact W.iret (v := (-1)) hx hb hr (fun t ht hW => ⟨⟨(-1), [(a_o, (oc11 a_h a_im a_ke a_k a_wa a_th a_ha a_wk a_r a_x e_tl e_fd e_fpl a_wd e_wn a_rf (-1))), (a_rf, (arI G 5 z72)), (a_k, (oc5 a_h a_j a_pt e_ln e_se e_lh e_br e_we e_me e_ce e_wy e_ho e_ov)), (a_h, (oc1 e_wa e_le e_st e_fo e_lc a_l a_g a_b a_s a_p a_w e_gb a_bb)), (a_g, (oc6 6 5 a_gn e_g)), (a_gn, (arI G 30 f_g)), (a_b, (oc6 5 24 a_bn e_b)), (a_bn, (arI G 120 f_b)), (a_p, (oc6 8 5 a_pn e_p)), (a_pn, (arI G 40 f_p)), (a_bb, (arJ G 24 f_bb)), (a_j, (oc2 a_as a_sk)), (a_as, (arI G 8 f_as)), (a_sk, (arJ G 50 f_sk)), (a_l, (arW G 6 f_l)), (a_pt, (arI G 200 f_pt)), (a_wa, (oc10 a_h a_k a_bo)), (a_bo, (arJ G 24 f_bo)), (a_wd, (arI G 24 f_wd))], rfl, ⟨(-1), (-1), z72, e_wn, e_ln, e_se, e_lh, e_br, e_we, e_me, e_ce, e_wy, e_ho, e_ov, f_pt, f_as, f_sk, f_bo, f_wd, h_e_ov, h_e_wn, (wand_1 (f := f_ro) (g := f_wd) (n := e_wn) (s := p_s) (c := p_c) (fun q => by unfold okD at q; omega)).1.symm, (wand_1 (f := f_ro) (g := f_wd) (n := e_wn) (s := p_s) (c := p_c) (fun q => by unfold okD at q; omega)).2.symm, rfl, rfl⟩, by rw [ht]; exact hP.sub [17, 18, 0, 1, 2, 3, 4, 5, 6, 7, 8, 9, 10, 11, 12, 13, 14, 15, 16] rfl, hD.sub [17, 18, 0, 1, 2, 3, 4, 5, 6, 7, 8, 9, 10, 11, 12, 13, 14, 15, 16] (by decide) rfl⟩, hS.F ht⟩) hS.2.2 dX11_wander_22
