set_option maxHeartbeats 4000000 in
set_option maxRecDepth 100000 in
theorem x_wanderXN (l : Launch) (G : g5_G) (a_o a_rf a_k a_h a_g a_gn a_b a_bn a_p a_pn a_bb a_j a_as a_sk a_l a_pt a_wa a_bo a_wd a_im a_ke a_th a_ha a_wk a_r a_x a_s a_w : Nat) (sz : Nat) (e_tl : Int32) (e_fd : Int32) (e_fpl : Int32) (e_wn : Int32) (e_lr : Int32) (e_le : Int32) (e_st : Int32) (e_fo : Int32) (e_lc : Int32) (e_g : Int32) (e_b : Int32) (e_p : Int32) (e_ln : Int32) (e_se : Int32) (e_lh : Int32) (e_br : Int32) (e_we : Int32) (e_me : Int32) (e_ce : Int32) (e_wy : Int32) (e_ho : Int32) (e_ov : Int32) (p_s : Int32) (p_c : Int32) (e_wa : Int64) (e_gb : Int64) (f_rf : Nat → Int32) (f_g : Nat → Int32) (f_b : Nat → Int32) (f_p : Nat → Int32) (f_bb : Nat → Int64) (f_as : Nat → Int32) (f_sk : Nat → Int64) (f_l : Nat → Option Nat) (f_pt : Nat → Int32) (f_bo : Nat → Int64) (f_wd : Nat → Int32) (f_ro : Nat → Int32) (h_e_tl : 0 ≤ e_tl.toInt ∧ e_tl.toInt ≤ 400) (h_e_wn : 0 ≤ e_wn.toInt ∧ e_wn.toInt ≤ 1) (h_e_g : 0 ≤ e_g.toInt ∧ e_g.toInt ≤ 6) (h_e_b : 0 ≤ e_b.toInt ∧ e_b.toInt ≤ 5) (h_e_p : 0 ≤ e_p.toInt ∧ e_p.toInt ≤ 8) (h_e_ov : 0 ≤ e_ov.toInt ∧ e_ov.toInt ≤ 1) (e_gk : gOK f_g e_g.toInt) (e_pk : gOK f_p e_p.toInt) (e_gi : inT e_gb f_g e_g.toInt) (e_f : e_fo.toInt < 0 ∨ e_lc.toInt ≤ e_fo.toInt) (e_hh : QH e_wa e_le e_st f_ro) : Met l yX11_wander (wsG yX11_wander cX11_wander 9 (some .int)) ({ frames := 15, cells := 0, slots := 0, locals := 580 }) (va_Pc [.ref a_o, .int p_s, .int p_c] (g5_P G [(a_o, (oc11 a_h a_im a_ke a_k a_wa a_th a_ha a_wk a_r a_x e_tl e_fd e_fpl a_wd e_wn a_rf e_lr)), (a_rf, (arI G 5 f_rf)), (a_k, (oc5 a_h a_j a_pt e_ln e_se e_lh e_br e_we e_me e_ce e_wy e_ho e_ov)), (a_h, (oc1 e_wa e_le e_st e_fo e_lc a_l a_g a_b a_s a_p a_w e_gb a_bb)), (a_g, (oc6 6 5 a_gn e_g)), (a_gn, (arI G 30 f_g)), (a_b, (oc6 5 24 a_bn e_b)), (a_bn, (arI G 120 f_b)), (a_p, (oc6 8 5 a_pn e_p)), (a_pn, (arI G 40 f_p)), (a_bb, (arJ G 24 f_bb)), (a_j, (oc2 a_as a_sk)), (a_as, (arI G 8 f_as)), (a_sk, (arJ G 50 f_sk)), (a_l, (arW G 6 f_l)), (a_pt, (arI G 200 f_pt)), (a_wa, (oc10 a_h a_k a_bo)), (a_bo, (arJ G 24 f_bo)), (a_wd, (arI G 24 f_wd))] sz)) (va_Qi (fun (r : Int32) (u : va_W) => (∃ (o_r : Int32) (o_lr : Int32) (o_rf : Nat → Int32) (o_wn : Int32) (o_ln : Int32) (o_se : Int32) (o_lh : Int32) (o_br : Int32) (o_we : Int32) (o_me : Int32) (o_ce : Int32) (o_wy : Int32) (o_ho : Int32) (o_ov : Int32) (o_pt : Nat → Int32) (o_as : Nat → Int32) (o_sk : Nat → Int64) (o_bo : Nat → Int64) (o_wd : Nat → Int32), (0 ≤ o_ov.toInt ∧ o_ov.toInt ≤ 1) ∧ (0 ≤ o_wn.toInt ∧ o_wn.toInt ≤ 1) ∧ (o_wd = swand f_ro f_wd p_s p_c) ∧ (o_wn = swanf f_ro e_wn p_s p_c) ∧ (r = o_r) ∧ (u = [(a_o, (oc11 a_h a_im a_ke a_k a_wa a_th a_ha a_wk a_r a_x e_tl e_fd e_fpl a_wd o_wn a_rf o_lr)), (a_rf, (arI G 5 o_rf)), (a_k, (oc5 a_h a_j a_pt o_ln o_se o_lh o_br o_we o_me o_ce o_wy o_ho o_ov)), (a_h, (oc1 e_wa e_le e_st e_fo e_lc a_l a_g a_b a_s a_p a_w e_gb a_bb)), (a_g, (oc6 6 5 a_gn e_g)), (a_gn, (arI G 30 f_g)), (a_b, (oc6 5 24 a_bn e_b)), (a_bn, (arI G 120 f_b)), (a_p, (oc6 8 5 a_pn e_p)), (a_pn, (arI G 40 f_p)), (a_bb, (arJ G 24 f_bb)), (a_j, (oc2 a_as a_sk)), (a_as, (arI G 8 o_as)), (a_sk, (arJ G 50 o_sk)), (a_l, (arW G 6 f_l)), (a_pt, (arI G 200 o_pt)), (a_wa, (oc10 a_h a_k a_bo)), (a_bo, (arJ G 24 o_bo)), (a_wd, (arI G 24 o_wd))]))) (g5_B G (va_A [(a_o, (oc11 a_h a_im a_ke a_k a_wa a_th a_ha a_wk a_r a_x e_tl e_fd e_fpl a_wd e_wn a_rf e_lr)), (a_rf, (arI G 5 f_rf)), (a_k, (oc5 a_h a_j a_pt e_ln e_se e_lh e_br e_we e_me e_ce e_wy e_ho e_ov)), (a_h, (oc1 e_wa e_le e_st e_fo e_lc a_l a_g a_b a_s a_p a_w e_gb a_bb)), (a_g, (oc6 6 5 a_gn e_g)), (a_gn, (arI G 30 f_g)), (a_b, (oc6 5 24 a_bn e_b)), (a_bn, (arI G 120 f_b)), (a_p, (oc6 8 5 a_pn e_p)), (a_pn, (arI G 40 f_p)), (a_bb, (arJ G 24 f_bb)), (a_j, (oc2 a_as a_sk)), (a_as, (arI G 8 f_as)), (a_sk, (arJ G 50 f_sk)), (a_l, (arW G 6 f_l)), (a_pt, (arI G 200 f_pt)), (a_wa, (oc10 a_h a_k a_bo)), (a_bo, (arJ G 24 f_bo)), (a_wd, (arI G 24 f_wd))] sz)) (va_A [(a_o, (oc11 a_h a_im a_ke a_k a_wa a_th a_ha a_wk a_r a_x e_tl e_fd e_fpl a_wd e_wn a_rf e_lr)), (a_rf, (arI G 5 f_rf)), (a_k, (oc5 a_h a_j a_pt e_ln e_se e_lh e_br e_we e_me e_ce e_wy e_ho e_ov)), (a_h, (oc1 e_wa e_le e_st e_fo e_lc a_l a_g a_b a_s a_p a_w e_gb a_bb)), (a_g, (oc6 6 5 a_gn e_g)), (a_gn, (arI G 30 f_g)), (a_b, (oc6 5 24 a_bn e_b)), (a_bn, (arI G 120 f_b)), (a_p, (oc6 8 5 a_pn e_p)), (a_pn, (arI G 40 f_p)), (a_bb, (arJ G 24 f_bb)), (a_j, (oc2 a_as a_sk)), (a_as, (arI G 8 f_as)), (a_sk, (arJ G 50 f_sk)), (a_l, (arW G 6 f_l)), (a_pt, (arI G 200 f_pt)), (a_wa, (oc10 a_h a_k a_bo)), (a_bo, (arJ G 24 f_bo)), (a_wd, (arI G 24 f_wd))] sz)) 0 0 (va_A [(a_o, (oc11 a_h a_im a_ke a_k a_wa a_th a_ha a_wk a_r a_x e_tl e_fd e_fpl a_wd e_wn a_rf e_lr)), (a_rf, (arI G 5 f_rf)), (a_k, (oc5 a_h a_j a_pt e_ln e_se e_lh e_br e_we e_me e_ce e_wy e_ho e_ov)), (a_h, (oc1 e_wa e_le e_st e_fo e_lc a_l a_g a_b a_s a_p a_w e_gb a_bb)), (a_g, (oc6 6 5 a_gn e_g)), (a_gn, (arI G 30 f_g)), (a_b, (oc6 5 24 a_bn e_b)), (a_bn, (arI G 120 f_b)), (a_p, (oc6 8 5 a_pn e_p)), (a_pn, (arI G 40 f_p)), (a_bb, (arJ G 24 f_bb)), (a_j, (oc2 a_as a_sk)), (a_as, (arI G 8 f_as)), (a_sk, (arJ G 50 f_sk)), (a_l, (arW G 6 f_l)), (a_pt, (arI G 200 f_pt)), (a_wa, (oc10 a_h a_k a_bo)), (a_bo, (arJ G 24 f_bo)), (a_wd, (arI G 24 f_wd))] sz) := by
  refine Met.ofW (cc := cX11_wander) (maxL := 9) (ret := (some .int)) (by decide +kernel) rfl ?_
  intro p e s m args below meth c s₁ B hml hv
  obtain ⟨rfl, hsz, hP, hK, hD0, hN, hT⟩ := hv
  have hx := B.exec
  have hb := B.bytes
  have hr := B.returns
  have hts : ∀ w ∈ tblG, w.before _ s = true := fun w h => atoms_spec (ws := (wsG yX11_wander cX11_wander 9 (some .int))) B.pre w (List.mem_cons_of_mem _ h)
  have hown : s.vm.findClass RX11 = some m.cls := findClass_of_methodNamed B.named
  have hlocks := B.notSynchronized
  subst hsz
  have hD := hD0.self (sz := s.heap.size)
  generalize hAe : va_A [(a_o, (oc11 a_h a_im a_ke a_k a_wa a_th a_ha a_wk a_r a_x e_tl e_fd e_fpl a_wd e_wn a_rf e_lr)), (a_rf, (arI G 5 f_rf)), (a_k, (oc5 a_h a_j a_pt e_ln e_se e_lh e_br e_we e_me e_ce e_wy e_ho e_ov)), (a_h, (oc1 e_wa e_le e_st e_fo e_lc a_l a_g a_b a_s a_p a_w e_gb a_bb)), (a_g, (oc6 6 5 a_gn e_g)), (a_gn, (arI G 30 f_g)), (a_b, (oc6 5 24 a_bn e_b)), (a_bn, (arI G 120 f_b)), (a_p, (oc6 8 5 a_pn e_p)), (a_pn, (arI G 40 f_p)), (a_bb, (arJ G 24 f_bb)), (a_j, (oc2 a_as a_sk)), (a_as, (arI G 8 f_as)), (a_sk, (arJ G 50 f_sk)), (a_l, (arW G 6 f_l)), (a_pt, (arI G 200 f_pt)), (a_wa, (oc10 a_h a_k a_bo)), (a_bo, (arJ G 24 f_bo)), (a_wd, (arI G 24 f_wd))] s.heap.size = A at hD hT ⊢
  have hA : ∀ q : Nat, s.heap.size ≤ q → A q := fun q h => by rw [← hAe]; exact Or.inr h
  have hS : va_S A s.heap s.heap [] := va_S.rf
  replace hP : va_P G.1 vwCl [(a_o, (oc11 a_h a_im a_ke a_k a_wa a_th a_ha a_wk a_r a_x e_tl e_fd e_fpl a_wd e_wn a_rf e_lr)), (a_rf, (arI G 5 f_rf)), (a_k, (oc5 a_h a_j a_pt e_ln e_se e_lh e_br e_we e_me e_ce e_wy e_ho e_ov)), (a_h, (oc1 e_wa e_le e_st e_fo e_lc a_l a_g a_b a_s a_p a_w e_gb a_bb)), (a_g, (oc6 6 5 a_gn e_g)), (a_gn, (arI G 30 f_g)), (a_b, (oc6 5 24 a_bn e_b)), (a_bn, (arI G 120 f_b)), (a_p, (oc6 8 5 a_pn e_p)), (a_pn, (arI G 40 f_p)), (a_bb, (arJ G 24 f_bb)), (a_j, (oc2 a_as a_sk)), (a_as, (arI G 8 f_as)), (a_sk, (arJ G 50 f_sk)), (a_l, (arW G 6 f_l)), (a_pt, (arI G 200 f_pt)), (a_wa, (oc10 a_h a_k a_bo)), (a_bo, (arJ G 24 f_bo)), (a_wd, (arI G 24 f_wd))] s.heap := hP
  have hl := lv_entry ([.ref a_o, .int p_s, .int p_c]) (n := 9) (Nat.le_of_ble_eq_true rfl)
  rw [lg_entry_eq]
  generalize (lg_sl ([.ref a_o, .int p_s, .int p_c]) ++ List.replicate (9 - (lg_sl ([.ref a_o, .int p_s, .int p_c])).length) Slot.unset).toArray = ls at hl ⊢
  replace hl : lv_has ls 9 [(0, .ref a_o), (1, .int p_s), (2, .int p_c)] := hl
  refine lv_iload_n hx hb dX11_wander_0 rfl (lv_at hl 1 rfl) ?_
  refine lv_if_lt (tgt := 17) hx hb dX11_wander_1 (by decide +kernel) (fun c_1 => ?_) (fun c_1 => ?_)
  ·
    have i_1 : p_s.toInt < 0 := g5_lt (a := p_s.toInt) (b := 0) rfl (by decide +kernel) c_1
    refine lv_aload_n hx hb dX11_wander_17 rfl (lv_at hl 0 rfl) ?_
    refine lv_iconst (v := (-1)) hx hb dX11_wander_18 (by decide +kernel) ?_
    obtain ⟨hPc, hDc, hFc⟩ := g5_sub3 (wc := [(a_o, (oc11 a_h a_im a_ke a_k a_wa a_th a_ha a_wk a_r a_x e_tl e_fd e_fpl a_wd e_wn a_rf e_lr)), (a_rf, (arI G 5 f_rf))]) hP hD hS hA [0, 1] (by decide +kernel) rfl
    refine va_calli (va_runV (As := [.int (-1)]) (rest := []) ⟨hx, hb, hml, hown, hts⟩ (x_refuse1 l G a_o a_rf a_h a_im a_ke a_k a_wa a_th a_ha a_wk a_r a_x a_wd s.heap.size e_tl e_fd e_fpl e_wn e_lr f_rf h_e_tl h_e_wn) (cwV 1 hts gV_X11_104 rfl rfl rfl hv_X11_refuse ⟨Nat.le_of_ble_eq_true rfl, Nat.le_of_ble_eq_true rfl⟩) (g5_preV hPc hK hDc hN hT hS hFc (ci := 11) (q0 := 0) rfl rfl) rfl rfl hl.1 rfl (lv_room (Nat.le_of_ble_eq_true rfl)) dX11_wander_19 ⟨Nat.le_of_ble_eq_true rfl, Nat.le_of_ble_eq_true rfl⟩) hS (fun q _ h => hFc q h) hFc (fun r u t H locs ht hvm hw hB hz1 hk1 hS => ?_)
    obtain ⟨hP1, hD1⟩ := hB
    have hP1 := g5_ht ht hP1
    obtain ⟨z2, rfl, rfl⟩ := hw
    have hJ9 := va_join (wr := [(a_k, (oc5 a_h a_j a_pt e_ln e_se e_lh e_br e_we e_me e_ce e_wy e_ho e_ov)), (a_h, (oc1 e_wa e_le e_st e_fo e_lc a_l a_g a_b a_s a_p a_w e_gb a_bb)), (a_g, (oc6 6 5 a_gn e_g)), (a_gn, (arI G 30 f_g)), (a_b, (oc6 5 24 a_bn e_b)), (a_bn, (arI G 120 f_b)), (a_p, (oc6 8 5 a_pn e_p)), (a_pn, (arI G 40 f_p)), (a_bb, (arJ G 24 f_bb)), (a_j, (oc2 a_as a_sk)), (a_as, (arI G 8 f_as)), (a_sk, (arJ G 50 f_sk)), (a_l, (arW G 6 f_l)), (a_pt, (arI G 200 f_pt)), (a_wa, (oc10 a_h a_k a_bo)), (a_bo, (arJ G 24 f_bo)), (a_wd, (arI G 24 f_wd))]) hP hD [0, 1] [2, 3, 4, 5, 6, 7, 8, 9, 10, 11, 12, 13, 14, 15, 16, 17, 18] rfl rfl (by decide +kernel) (by decide +kernel) hk1 hFc hP1 hD1
    clear hP hD hPc hDc hFc ht hvm hz1 hk1 hP1 hD1
    obtain ⟨hP, hD⟩ := hJ9
    refine g5_rs [(a_k, (oc5 a_h a_j a_pt e_ln e_se e_lh e_br e_we e_me e_ce e_wy e_ho e_ov)), (a_h, (oc1 e_wa e_le e_st e_fo e_lc a_l a_g a_b a_s a_p a_w e_gb a_bb)), (a_g, (oc6 6 5 a_gn e_g)), (a_gn, (arI G 30 f_g)), (a_b, (oc6 5 24 a_bn e_b)), (a_bn, (arI G 120 f_b)), (a_p, (oc6 8 5 a_pn e_p)), (a_pn, (arI G 40 f_p)), (a_bb, (arJ G 24 f_bb)), (a_j, (oc2 a_as a_sk)), (a_as, (arI G 8 f_as)), (a_sk, (arJ G 50 f_sk)), (a_l, (arW G 6 f_l)), (a_pt, (arI G 200 f_pt)), (a_wa, (oc10 a_h a_k a_bo)), (a_bo, (arJ G 24 f_bo)), (a_wd, (arI G 24 f_wd)), (a_o, (oc11 a_h a_im a_ke a_k a_wa a_th a_ha a_wk a_r a_x e_tl e_fd e_fpl a_wd e_wn a_rf (-1))), (a_rf, (arI G 5 z2))] hP hD ?_
    clear hP hD
    intro hP hD
    exact W.iret (v := (-1)) hx hb hr (fun t ht hW => ⟨⟨(-1), [(a_o, (oc11 a_h a_im a_ke a_k a_wa a_th a_ha a_wk a_r a_x e_tl e_fd e_fpl a_wd e_wn a_rf (-1))), (a_rf, (arI G 5 z2)), (a_k, (oc5 a_h a_j a_pt e_ln e_se e_lh e_br e_we e_me e_ce e_wy e_ho e_ov)), (a_h, (oc1 e_wa e_le e_st e_fo e_lc a_l a_g a_b a_s a_p a_w e_gb a_bb)), (a_g, (oc6 6 5 a_gn e_g)), (a_gn, (arI G 30 f_g)), (a_b, (oc6 5 24 a_bn e_b)), (a_bn, (arI G 120 f_b)), (a_p, (oc6 8 5 a_pn e_p)), (a_pn, (arI G 40 f_p)), (a_bb, (arJ G 24 f_bb)), (a_j, (oc2 a_as a_sk)), (a_as, (arI G 8 f_as)), (a_sk, (arJ G 50 f_sk)), (a_l, (arW G 6 f_l)), (a_pt, (arI G 200 f_pt)), (a_wa, (oc10 a_h a_k a_bo)), (a_bo, (arJ G 24 f_bo)), (a_wd, (arI G 24 f_wd))], rfl, ⟨(-1), (-1), z2, e_wn, e_ln, e_se, e_lh, e_br, e_we, e_me, e_ce, e_wy, e_ho, e_ov, f_pt, f_as, f_sk, f_bo, f_wd, h_e_ov, h_e_wn, (wand_1 (f := f_ro) (g := f_wd) (n := e_wn) (s := p_s) (c := p_c) (fun q => by unfold okD at q; omega)).1.symm, (wand_1 (f := f_ro) (g := f_wd) (n := e_wn) (s := p_s) (c := p_c) (fun q => by unfold okD at q; omega)).2.symm, rfl, rfl⟩, by rw [ht]; exact hP.sub [17, 18, 0, 1, 2, 3, 4, 5, 6, 7, 8, 9, 10, 11, 12, 13, 14, 15, 16] rfl, hD.sub [17, 18, 0, 1, 2, 3, 4, 5, 6, 7, 8, 9, 10, 11, 12, 13, 14, 15, 16] (by decide +kernel) rfl⟩, hS.F ht⟩) hS.2.2 dX11_wander_22
  ·
    have i_1 : p_s.toInt ≥ 0 := g5_ltN (a := p_s.toInt) (b := 0) rfl (by decide +kernel) c_1
    refine lv_iload_n hx hb dX11_wander_4 rfl (lv_at hl 1 rfl) ?_
    refine lv_ldc (v := 1000000) hx hb hown (hts _ ki_X11_181) dX11_wander_5 ?_
    refine lv_icmp_gt (tgt := 17) hx hb dX11_wander_7 (by decide +kernel) (fun c_3 => ?_) (fun c_3 => ?_)
    ·
      have i_3 : p_s.toInt > 1000000 := g5_gt (a := p_s.toInt) (b := 1000000) rfl (by decide +kernel) c_3
      refine lv_aload_n hx hb dX11_wander_17 rfl (lv_at hl 0 rfl) ?_
      refine lv_iconst (v := (-1)) hx hb dX11_wander_18 (by decide +kernel) ?_
      obtain ⟨hPc, hDc, hFc⟩ := g5_sub3 (wc := [(a_o, (oc11 a_h a_im a_ke a_k a_wa a_th a_ha a_wk a_r a_x e_tl e_fd e_fpl a_wd e_wn a_rf e_lr)), (a_rf, (arI G 5 f_rf))]) hP hD hS hA [0, 1] (by decide +kernel) rfl
      refine va_calli (va_runV (As := [.int (-1)]) (rest := []) ⟨hx, hb, hml, hown, hts⟩ (x_refuse1 l G a_o a_rf a_h a_im a_ke a_k a_wa a_th a_ha a_wk a_r a_x a_wd s.heap.size e_tl e_fd e_fpl e_wn e_lr f_rf h_e_tl h_e_wn) (cwV 1 hts gV_X11_104 rfl rfl rfl hv_X11_refuse ⟨Nat.le_of_ble_eq_true rfl, Nat.le_of_ble_eq_true rfl⟩) (g5_preV hPc hK hDc hN hT hS hFc (ci := 11) (q0 := 0) rfl rfl) rfl rfl hl.1 rfl (lv_room (Nat.le_of_ble_eq_true rfl)) dX11_wander_19 ⟨Nat.le_of_ble_eq_true rfl, Nat.le_of_ble_eq_true rfl⟩) hS (fun q _ h => hFc q h) hFc (fun r u t H locs ht hvm hw hB hz1 hk1 hS => ?_)
      obtain ⟨hP1, hD1⟩ := hB
      have hP1 := g5_ht ht hP1
      obtain ⟨z4, rfl, rfl⟩ := hw
      have hJ9 := va_join (wr := [(a_k, (oc5 a_h a_j a_pt e_ln e_se e_lh e_br e_we e_me e_ce e_wy e_ho e_ov)), (a_h, (oc1 e_wa e_le e_st e_fo e_lc a_l a_g a_b a_s a_p a_w e_gb a_bb)), (a_g, (oc6 6 5 a_gn e_g)), (a_gn, (arI G 30 f_g)), (a_b, (oc6 5 24 a_bn e_b)), (a_bn, (arI G 120 f_b)), (a_p, (oc6 8 5 a_pn e_p)), (a_pn, (arI G 40 f_p)), (a_bb, (arJ G 24 f_bb)), (a_j, (oc2 a_as a_sk)), (a_as, (arI G 8 f_as)), (a_sk, (arJ G 50 f_sk)), (a_l, (arW G 6 f_l)), (a_pt, (arI G 200 f_pt)), (a_wa, (oc10 a_h a_k a_bo)), (a_bo, (arJ G 24 f_bo)), (a_wd, (arI G 24 f_wd))]) hP hD [0, 1] [2, 3, 4, 5, 6, 7, 8, 9, 10, 11, 12, 13, 14, 15, 16, 17, 18] rfl rfl (by decide +kernel) (by decide +kernel) hk1 hFc hP1 hD1
      clear hP hD hPc hDc hFc ht hvm hz1 hk1 hP1 hD1
      obtain ⟨hP, hD⟩ := hJ9
      refine g5_rs [(a_k, (oc5 a_h a_j a_pt e_ln e_se e_lh e_br e_we e_me e_ce e_wy e_ho e_ov)), (a_h, (oc1 e_wa e_le e_st e_fo e_lc a_l a_g a_b a_s a_p a_w e_gb a_bb)), (a_g, (oc6 6 5 a_gn e_g)), (a_gn, (arI G 30 f_g)), (a_b, (oc6 5 24 a_bn e_b)), (a_bn, (arI G 120 f_b)), (a_p, (oc6 8 5 a_pn e_p)), (a_pn, (arI G 40 f_p)), (a_bb, (arJ G 24 f_bb)), (a_j, (oc2 a_as a_sk)), (a_as, (arI G 8 f_as)), (a_sk, (arJ G 50 f_sk)), (a_l, (arW G 6 f_l)), (a_pt, (arI G 200 f_pt)), (a_wa, (oc10 a_h a_k a_bo)), (a_bo, (arJ G 24 f_bo)), (a_wd, (arI G 24 f_wd)), (a_o, (oc11 a_h a_im a_ke a_k a_wa a_th a_ha a_wk a_r a_x e_tl e_fd e_fpl a_wd e_wn a_rf (-1))), (a_rf, (arI G 5 z4))] hP hD ?_
      clear hP hD
      intro hP hD
      exact W.iret (v := (-1)) hx hb hr (fun t ht hW => ⟨⟨(-1), [(a_o, (oc11 a_h a_im a_ke a_k a_wa a_th a_ha a_wk a_r a_x e_tl e_fd e_fpl a_wd e_wn a_rf (-1))), (a_rf, (arI G 5 z4)), (a_k, (oc5 a_h a_j a_pt e_ln e_se e_lh e_br e_we e_me e_ce e_wy e_ho e_ov)), (a_h, (oc1 e_wa e_le e_st e_fo e_lc a_l a_g a_b a_s a_p a_w e_gb a_bb)), (a_g, (oc6 6 5 a_gn e_g)), (a_gn, (arI G 30 f_g)), (a_b, (oc6 5 24 a_bn e_b)), (a_bn, (arI G 120 f_b)), (a_p, (oc6 8 5 a_pn e_p)), (a_pn, (arI G 40 f_p)), (a_bb, (arJ G 24 f_bb)), (a_j, (oc2 a_as a_sk)), (a_as, (arI G 8 f_as)), (a_sk, (arJ G 50 f_sk)), (a_l, (arW G 6 f_l)), (a_pt, (arI G 200 f_pt)), (a_wa, (oc10 a_h a_k a_bo)), (a_bo, (arJ G 24 f_bo)), (a_wd, (arI G 24 f_wd))], rfl, ⟨(-1), (-1), z4, e_wn, e_ln, e_se, e_lh, e_br, e_we, e_me, e_ce, e_wy, e_ho, e_ov, f_pt, f_as, f_sk, f_bo, f_wd, h_e_ov, h_e_wn, (wand_1 (f := f_ro) (g := f_wd) (n := e_wn) (s := p_s) (c := p_c) (fun q => by unfold okD at q; omega)).1.symm, (wand_1 (f := f_ro) (g := f_wd) (n := e_wn) (s := p_s) (c := p_c) (fun q => by unfold okD at q; omega)).2.symm, rfl, rfl⟩, by rw [ht]; exact hP.sub [17, 18, 0, 1, 2, 3, 4, 5, 6, 7, 8, 9, 10, 11, 12, 13, 14, 15, 16] rfl, hD.sub [17, 18, 0, 1, 2, 3, 4, 5, 6, 7, 8, 9, 10, 11, 12, 13, 14, 15, 16] (by decide +kernel) rfl⟩, hS.F ht⟩) hS.2.2 dX11_wander_22
    ·
      have i_3 : p_s.toInt ≤ 1000000 := g5_gtN (a := p_s.toInt) (b := 1000000) rfl (by decide +kernel) c_3
      refine lv_iload_n hx hb dX11_wander_10 rfl (lv_at hl 2 rfl) ?_
      obtain ⟨hPc, hDc, hFc⟩ := g5_sub3 (wc := []) hP hD hS hA [] (by decide +kernel) rfl
      refine va_calli (va_runS (As := [.int p_c]) (rest := []) ⟨hx, hb, hml, hown, hts⟩ (x_isCellX l G s.heap.size p_c) (va_cwS 1 hts gS_X11_97 rfl rfl rfl hs_X11_isCell ⟨Nat.le_of_ble_eq_true rfl, Nat.le_of_ble_eq_true rfl⟩) (g5_preS hPc hK hDc hN hT hS hFc) rfl rfl hl.1 rfl (lv_room (Nat.le_of_ble_eq_true rfl)) dX11_wander_11 ⟨Nat.le_of_ble_eq_true rfl, Nat.le_of_ble_eq_true rfl⟩) hS (fun q _ h => hFc q h) hFc (fun r u t H locs ht hvm hw hB hz1 hk1 hS => ?_)
      obtain ⟨hP1, hD1⟩ := hB
      have hP1 := g5_ht ht hP1
      rcases hw with ⟨(i_5 : 0 ≤ p_c.toInt ∧ p_c.toInt ≤ 63), rfl, rfl⟩ | ⟨(i_6 : p_c.toInt < 0 ∨ 63 < p_c.toInt), rfl, rfl⟩
      ·
        have hJ9 := g5_same hP hk1
        clear hP hPc hDc hFc ht hvm hz1 hk1 hP1 hD1
        have hP := hJ9
        clear hJ9
        refine lv_if_ne (tgt := 23) hx hb dX11_wander_14 (by decide +kernel) (fun c_7 => ?_) (fun c_7 => ?_)
        ·
          refine lv_aload_n hx hb dX11_wander_23 rfl (lv_at hl 0 rfl) ?_
          refine va_get (D := G.1) (ci := 11) (v := .ref a_h) (C := RX11) (T := TX11) (N := 17) hx hb hts inG_X11 hown hK hP 0 rfl rfl 0 (by decide +kernel) (hts _ fl_X11_12) (fun _ h9 => h9) rfl dX11_wander_24 ?_
          refine va_get (D := G.1) (ci := 1) (v := .long e_wa) (C := RX1) (T := TX1) (N := 13) hx hb hts inG_X1 hown hK hP 3 rfl rfl 0 (by decide +kernel) (hts _ fl_X11_111) (fun _ h9 => h9) rfl dX11_wander_27 ?_
          refine lv_iload_n hx hb dX11_wander_30 rfl (lv_at hl 2 rfl) ?_
          refine W.eq (g2 := F0 m 31 ls [.int p_c, .long e_wa]) rfl ?_
          obtain ⟨hPc, hDc, hFc⟩ := g5_sub3 (wc := []) hP hD hS hA [] (by decide +kernel) rfl
          refine va_calli (va_runS (As := [.long e_wa, .int p_c]) (rest := []) ⟨hx, hb, hml, hown, hts⟩ (k_isOn l G H.size p_c e_wa i_5) (va_cwS 2 hts gS_X11_115 rfl rfl rfl hs_X11_isOn ⟨Nat.le_of_ble_eq_true rfl, Nat.le_of_ble_eq_true rfl⟩) (g5_preS hPc hK hDc hN hT hS hFc) rfl rfl hl.1 rfl (lv_room (Nat.le_of_ble_eq_true rfl)) dX11_wander_31 ⟨Nat.le_of_ble_eq_true rfl, Nat.le_of_ble_eq_true rfl⟩) hS (fun q _ h => hFc q h) hFc (fun r u t H locs ht hvm hw hB hz1 hk1 hS => ?_)
          obtain ⟨hP1, hD1⟩ := hB
          have hP1 := g5_ht ht hP1
          rcases hw with ⟨(i_8 : onB e_wa p_c.toInt = false), rfl, rfl⟩ | ⟨(i_9 : onB e_wa p_c.toInt = true), rfl, rfl⟩
          ·
            have hJ9 := g5_same hP hk1
            clear hP hPc hDc hFc ht hvm hz1 hk1 hP1 hD1
            have hP := hJ9
            clear hJ9
            refine lv_if_eq (tgt := 44) hx hb dX11_wander_34 (by decide +kernel) (fun c_10 => ?_) (fun c_10 => ?_)
            ·
              refine lv_aload_n hx hb dX11_wander_44 rfl (lv_at hl 0 rfl) ?_
              refine va_get (D := G.1) (ci := 11) (v := .ref a_wa) (C := RX11) (T := TX11) (N := 17) hx hb hts inG_X11 hown hK hP 0 rfl rfl 4 (by decide +kernel) (hts _ fl_X11_38) (fun _ h9 => h9) rfl dX11_wander_45 ?_
              obtain ⟨hPc, hDc, hFc⟩ := g5_sub3 (wc := [(a_k, (oc5 a_h a_j a_pt e_ln e_se e_lh e_br e_we e_me e_ce e_wy e_ho e_ov)), (a_h, (oc1 e_wa e_le e_st e_fo e_lc a_l a_g a_b a_s a_p a_w e_gb a_bb)), (a_g, (oc6 6 5 a_gn e_g)), (a_gn, (arI G 30 f_g)), (a_b, (oc6 5 24 a_bn e_b)), (a_bn, (arI G 120 f_b)), (a_p, (oc6 8 5 a_pn e_p)), (a_pn, (arI G 40 f_p)), (a_bb, (arJ G 24 f_bb)), (a_j, (oc2 a_as a_sk)), (a_as, (arI G 8 f_as)), (a_sk, (arJ G 50 f_sk)), (a_l, (arW G 6 f_l)), (a_pt, (arI G 200 f_pt)), (a_wa, (oc10 a_h a_k a_bo)), (a_bo, (arJ G 24 f_bo))]) hP hD hS hA [2, 3, 4, 5, 6, 7, 8, 9, 10, 11, 12, 13, 14, 15, 16, 17] (by decide +kernel) rfl
              refine va_callv (va_runV (As := []) (rest := []) ⟨hx, hb, hml, hown, hts⟩ (w_lookAroundN l G a_k a_h a_g a_gn a_b a_bn a_p a_pn a_bb a_j a_as a_sk a_l a_pt a_wa a_bo a_s a_w H.size e_le e_st e_fo e_lc e_g e_b e_p e_ln e_se e_lh e_br e_we e_me e_ce e_wy e_ho e_ov e_wa e_gb f_g f_b f_p f_bb f_as f_sk f_l f_pt f_bo h_e_g h_e_b h_e_p h_e_ov (e_gk) (e_pk) (e_gi) (e_f)) (cwV 0 hts gV_X11_254 rfl rfl rfl hv_X10_lookAround ⟨Nat.le_of_ble_eq_true rfl, Nat.le_of_ble_eq_true rfl⟩) (g5_preV hPc hK hDc hN hT hS hFc (ci := 10) (q0 := 14) rfl rfl) rfl rfl hl.1 rfl (lv_room (Nat.le_of_ble_eq_true rfl)) dX11_wander_48 ⟨Nat.le_of_ble_eq_true rfl, Nat.le_of_ble_eq_true rfl⟩) hS (fun q _ h => hFc q h) hFc (fun u t H locs ht hvm hw hB hz1 hk1 hS => ?_)
              obtain ⟨hP1, hD1⟩ := hB
              have hP1 := g5_ht ht hP1
              obtain ⟨z12, z13, z14, z15, z16, z17, z18, z19, z20, z21, z22, z23, z24, z25, (i_11 : 0 ≤ z21.toInt ∧ z21.toInt ≤ 1), rfl⟩ := hw
              have hJ9 := va_join (wr := [(a_o, (oc11 a_h a_im a_ke a_k a_wa a_th a_ha a_wk a_r a_x e_tl e_fd e_fpl a_wd e_wn a_rf e_lr)), (a_rf, (arI G 5 f_rf)), (a_wd, (arI G 24 f_wd))]) hP hD [2, 3, 4, 5, 6, 7, 8, 9, 10, 11, 12, 13, 14, 15, 16, 17] [0, 1, 18] rfl rfl (by decide +kernel) (by decide +kernel) hk1 hFc hP1 hD1
              clear hP hD hPc hDc hFc ht hvm hz1 hk1 hP1 hD1
              obtain ⟨hP, hD⟩ := hJ9
              refine g5_rs [(a_o, (oc11 a_h a_im a_ke a_k a_wa a_th a_ha a_wk a_r a_x e_tl e_fd e_fpl a_wd e_wn a_rf e_lr)), (a_rf, (arI G 5 f_rf)), (a_wd, (arI G 24 f_wd)), (a_k, (oc5 a_h a_j a_pt z12 z13 z14 z15 z16 z17 z18 z19 z20 z21)), (a_h, (oc1 e_wa e_le e_st e_fo e_lc a_l a_g a_b a_s a_p a_w e_gb a_bb)), (a_g, (oc6 6 5 a_gn e_g)), (a_gn, (arI G 30 f_g)), (a_b, (oc6 5 24 a_bn e_b)), (a_bn, (arI G 120 f_b)), (a_p, (oc6 8 5 a_pn e_p)), (a_pn, (arI G 40 f_p)), (a_bb, (arJ G 24 f_bb)), (a_j, (oc2 a_as a_sk)), (a_as, (arI G 8 z23)), (a_sk, (arJ G 50 z24)), (a_l, (arW G 6 f_l)), (a_pt, (arI G 200 z22)), (a_wa, (oc10 a_h a_k a_bo)), (a_bo, (arJ G 24 z25))] hP hD ?_
              clear hP hD
              intro hP hD
              refine lv_aload_n hx hb dX11_wander_51 rfl (lv_at hl 0 rfl) ?_
              refine W.eq (g2 := F0 m 52 ls [.ref a_o]) rfl ?_
              refine lv_iconst (v := 1) hx hb dX11_wander_52 (by decide +kernel) ?_
              refine va_put (D := G.1) (ci := 11) (v := .int 1) (ty := .boolean) (C := RX11) (T := TX11) (N := 17) hx hb hts inG_X11 tyX11 tyX11_ok nmX11 hown hK hP hD hS 0 rfl rfl 14 (by decide +kernel) (hts _ fl_X11_87) (fun _ h9 => h9) rfl (by decide +kernel) rfl rfl (Nat.le_of_ble_eq_true rfl) dX11_wander_53 ?_
              clear hP hD hS
              intro H locs hP hD hS
              refine g5_rs [(a_o, (oc11 a_h a_im a_ke a_k a_wa a_th a_ha a_wk a_r a_x e_tl e_fd e_fpl a_wd 1 a_rf e_lr)), (a_rf, (arI G 5 f_rf)), (a_wd, (arI G 24 f_wd)), (a_k, (oc5 a_h a_j a_pt z12 z13 z14 z15 z16 z17 z18 z19 z20 z21)), (a_h, (oc1 e_wa e_le e_st e_fo e_lc a_l a_g a_b a_s a_p a_w e_gb a_bb)), (a_g, (oc6 6 5 a_gn e_g)), (a_gn, (arI G 30 f_g)), (a_b, (oc6 5 24 a_bn e_b)), (a_bn, (arI G 120 f_b)), (a_p, (oc6 8 5 a_pn e_p)), (a_pn, (arI G 40 f_p)), (a_bb, (arJ G 24 f_bb)), (a_j, (oc2 a_as a_sk)), (a_as, (arI G 8 z23)), (a_sk, (arJ G 50 z24)), (a_l, (arW G 6 f_l)), (a_pt, (arI G 200 z22)), (a_wa, (oc10 a_h a_k a_bo)), (a_bo, (arJ G 24 z25))] hP hD ?_
              clear hP hD
              intro hP hD
              refine lv_iload_n hx hb dX11_wander_56 rfl (lv_at hl 1 rfl) ?_
              refine lv_i2l (v := p_s.toInt64) hx hb dX11_wander_57 rfl ?_
              refine lv_lstore_n (lv' := [(3, .long p_s.toInt64), (0, .ref a_o), (1, .int p_s), (2, .int p_c)]) hx hb dX11_wander_58 rfl hl (by decide +kernel) rfl ?_
              clear hl
              intro ls hl
              refine W.eq (g2 := F0 m 59 ls []) rfl ?_
              refine lv_iload_n hx hb dX11_wander_59 rfl (lv_at hl 3 rfl) ?_
              refine lv_istore (lv' := [(5, .int p_c), (3, .long p_s.toInt64), (0, .ref a_o), (1, .int p_s), (2, .int p_c)]) hx hb dX11_wander_60 hl (by decide +kernel) rfl ?_
              clear hl
              intro ls hl
              refine lv_iconst (v := 0) hx hb dX11_wander_62 (by decide +kernel) ?_
              refine lv_istore (lv' := [(6, .int 0), (5, .int p_c), (3, .long p_s.toInt64), (0, .ref a_o), (1, .int p_s), (2, .int p_c)]) hx hb dX11_wander_63 hl (by decide +kernel) rfl ?_
              clear hl
              intro ls hl
              refine lv_iconst (v := 0) hx hb dX11_wander_65 (by decide +kernel) ?_
              refine W.eq (g2 := F0 m 66 ls [.int 0]) rfl ?_
              refine lv_istore (lv' := [(7, .int 0), (6, .int 0), (5, .int p_c), (3, .long p_s.toInt64), (0, .ref a_o), (1, .int p_s), (2, .int p_c)]) hx hb dX11_wander_66 hl (by decide +kernel) rfl ?_
              clear hl
              intro ls hl
              refine g5_loop (α := (Int64) × (Int32) × (Int32) × (Int32) × (Nat → Int32)) (fun (q : (Int64) × (Int32) × (Int32) × (Int32) × (Nat → Int32)) (ls : Array Slot) (H : Heap) (locs : List Loc) => match q with | (k_d, k_a, k_n, k_i, k_wd) => lv_has ls 9 [(3, .long k_d), (5, .int k_a), (6, .int k_n), (7, .int k_i), (0, .ref a_o), (1, .int p_s), (2, .int p_c)] ∧ va_P G.1 vwCl [(a_o, (oc11 a_h a_im a_ke a_k a_wa a_th a_ha a_wk a_r a_x e_tl e_fd e_fpl a_wd 1 a_rf e_lr)), (a_rf, (arI G 5 f_rf)), (a_wd, (arI G 24 k_wd)), (a_k, (oc5 a_h a_j a_pt z12 z13 z14 z15 z16 z17 z18 z19 z20 z21)), (a_h, (oc1 e_wa e_le e_st e_fo e_lc a_l a_g a_b a_s a_p a_w e_gb a_bb)), (a_g, (oc6 6 5 a_gn e_g)), (a_gn, (arI G 30 f_g)), (a_b, (oc6 5 24 a_bn e_b)), (a_bn, (arI G 120 f_b)), (a_p, (oc6 8 5 a_pn e_p)), (a_pn, (arI G 40 f_p)), (a_bb, (arJ G 24 f_bb)), (a_j, (oc2 a_as a_sk)), (a_as, (arI G 8 z23)), (a_sk, (arJ G 50 z24)), (a_l, (arW G 6 f_l)), (a_pt, (arI G 200 z22)), (a_wa, (oc10 a_h a_k a_bo)), (a_bo, (arJ G 24 z25))] H ∧ va_D A [(a_o, (oc11 a_h a_im a_ke a_k a_wa a_th a_ha a_wk a_r a_x e_tl e_fd e_fpl a_wd 1 a_rf e_lr)), (a_rf, (arI G 5 f_rf)), (a_wd, (arI G 24 k_wd)), (a_k, (oc5 a_h a_j a_pt z12 z13 z14 z15 z16 z17 z18 z19 z20 z21)), (a_h, (oc1 e_wa e_le e_st e_fo e_lc a_l a_g a_b a_s a_p a_w e_gb a_bb)), (a_g, (oc6 6 5 a_gn e_g)), (a_gn, (arI G 30 f_g)), (a_b, (oc6 5 24 a_bn e_b)), (a_bn, (arI G 120 f_b)), (a_p, (oc6 8 5 a_pn e_p)), (a_pn, (arI G 40 f_p)), (a_bb, (arJ G 24 f_bb)), (a_j, (oc2 a_as a_sk)), (a_as, (arI G 8 z23)), (a_sk, (arJ G 50 z24)), (a_l, (arW G 6 f_l)), (a_pt, (arI G 200 z22)), (a_wa, (oc10 a_h a_k a_bo)), (a_bo, (arJ G 24 z25))] ∧ va_S A s.heap H locs ∧ (0 ≤ k_a.toInt ∧ k_a.toInt ≤ 63) ∧ (0 ≤ k_i.toInt ∧ k_i.toInt ≤ 24) ∧ (k_d = wdS p_s.toInt64 (k_i.toInt.toNat - 1)) ∧ (k_a.toInt = wdC f_ro p_s.toInt64 p_c.toInt (k_i.toInt.toNat - 1)) ∧ (k_wd = wdR f_ro p_s.toInt64 p_c.toInt f_wd k_i.toInt.toNat)) (fun (q : (Int64) × (Int32) × (Int32) × (Int32) × (Nat → Int32)) => match q with | (k_d, k_a, k_n, k_i, k_wd) => Int.toNat (24 - k_i.toInt)) (p_s.toInt64, p_c, 0, 0, f_wd) ⟨lv_sub hl [3, 2, 1, 0, 4, 5, 6] rfl, hP, hD, hS, i_5, ⟨by decide, by decide⟩, by rw [show (0 : Int32).toInt.toNat = 0 from by decide]; rfl, by rw [show (0 : Int32).toInt.toNat = 0 from by decide]; rfl, by rw [show (0 : Int32).toInt.toNat = 0 from by decide]; rfl⟩ ?_
              rintro ⟨k_d, k_a, k_n, k_i, k_wd⟩ ls H locs ⟨hl, hP, hD, hS, (i_26 : 0 ≤ k_a.toInt ∧ k_a.toInt ≤ 63), (i_27 : 0 ≤ k_i.toInt ∧ k_i.toInt ≤ 24), (i_28 : k_d = wdS p_s.toInt64 (k_i.toInt.toNat - 1)), (i_29 : k_a.toInt = wdC f_ro p_s.toInt64 p_c.toInt (k_i.toInt.toNat - 1)), (i_30 : k_wd = wdR f_ro p_s.toInt64 p_c.toInt f_wd k_i.toInt.toNat)⟩ ih_68_31
              replace hl : lv_has ls 9 [(3, .long k_d), (5, .int k_a), (6, .int k_n), (7, .int k_i), (0, .ref a_o), (1, .int p_s), (2, .int p_c)] := hl
              refine g5_rs [(a_o, (oc11 a_h a_im a_ke a_k a_wa a_th a_ha a_wk a_r a_x e_tl e_fd e_fpl a_wd 1 a_rf e_lr)), (a_rf, (arI G 5 f_rf)), (a_wd, (arI G 24 k_wd)), (a_k, (oc5 a_h a_j a_pt z12 z13 z14 z15 z16 z17 z18 z19 z20 z21)), (a_h, (oc1 e_wa e_le e_st e_fo e_lc a_l a_g a_b a_s a_p a_w e_gb a_bb)), (a_g, (oc6 6 5 a_gn e_g)), (a_gn, (arI G 30 f_g)), (a_b, (oc6 5 24 a_bn e_b)), (a_bn, (arI G 120 f_b)), (a_p, (oc6 8 5 a_pn e_p)), (a_pn, (arI G 40 f_p)), (a_bb, (arJ G 24 f_bb)), (a_j, (oc2 a_as a_sk)), (a_as, (arI G 8 z23)), (a_sk, (arJ G 50 z24)), (a_l, (arW G 6 f_l)), (a_pt, (arI G 200 z22)), (a_wa, (oc10 a_h a_k a_bo)), (a_bo, (arJ G 24 z25))] hP hD ?_
              clear hP hD
              intro hP hD
              refine lv_iload hx hb dX11_wander_68 (lv_at hl 3 rfl) ?_
              refine lv_bipush (v := 24) hx hb dX11_wander_70 (by decide +kernel) ?_
              refine lv_icmp_ge (tgt := 173) hx hb dX11_wander_72 (by decide +kernel) (fun c_32 => ?_) (fun c_32 => ?_)
              ·
                have i_32 : k_i.toInt ≥ 24 := g5_ge (a := k_i.toInt) (b := 24) rfl (by decide +kernel) c_32
                refine lv_aload_n hx hb dX11_wander_173 rfl (lv_at hl 4 rfl) ?_
                refine lv_iload hx hb dX11_wander_174 (lv_at hl 2 rfl) ?_
                obtain ⟨hPc, hDc, hFc⟩ := g5_sub3 (wc := [(a_o, (oc11 a_h a_im a_ke a_k a_wa a_th a_ha a_wk a_r a_x e_tl e_fd e_fpl a_wd 1 a_rf e_lr))]) hP hD hS hA [0] (by decide +kernel) rfl
                refine va_calli (va_runV (As := [.int k_n]) (rest := []) ⟨hx, hb, hml, hown, hts⟩ (x_done l G a_o a_h a_im a_ke a_k a_wa a_th a_ha a_wk a_r a_x a_wd a_rf H.size e_tl e_fd e_fpl 1 e_lr k_n h_e_tl ⟨by decide, by decide⟩) (cwV 1 hts gV_X11_121 rfl rfl rfl hv_X11_done ⟨Nat.le_of_ble_eq_true rfl, Nat.le_of_ble_eq_true rfl⟩) (g5_preV hPc hK hDc hN hT hS hFc (ci := 11) (q0 := 0) rfl rfl) rfl rfl hl.1 rfl (lv_room (Nat.le_of_ble_eq_true rfl)) dX11_wander_176 ⟨Nat.le_of_ble_eq_true rfl, Nat.le_of_ble_eq_true rfl⟩) hS (fun q _ h => hFc q h) hFc (fun r u t H locs ht hvm hw hB hz1 hk1 hS => ?_)
                obtain ⟨hP1, hD1⟩ := hB
                have hP1 := g5_ht ht hP1
                obtain ⟨y33, rfl⟩ := hw
                have hJ9 := va_join (wr := [(a_rf, (arI G 5 f_rf)), (a_wd, (arI G 24 k_wd)), (a_k, (oc5 a_h a_j a_pt z12 z13 z14 z15 z16 z17 z18 z19 z20 z21)), (a_h, (oc1 e_wa e_le e_st e_fo e_lc a_l a_g a_b a_s a_p a_w e_gb a_bb)), (a_g, (oc6 6 5 a_gn e_g)), (a_gn, (arI G 30 f_g)), (a_b, (oc6 5 24 a_bn e_b)), (a_bn, (arI G 120 f_b)), (a_p, (oc6 8 5 a_pn e_p)), (a_pn, (arI G 40 f_p)), (a_bb, (arJ G 24 f_bb)), (a_j, (oc2 a_as a_sk)), (a_as, (arI G 8 z23)), (a_sk, (arJ G 50 z24)), (a_l, (arW G 6 f_l)), (a_pt, (arI G 200 z22)), (a_wa, (oc10 a_h a_k a_bo)), (a_bo, (arJ G 24 z25))]) hP hD [0] [1, 2, 3, 4, 5, 6, 7, 8, 9, 10, 11, 12, 13, 14, 15, 16, 17, 18] rfl rfl (by decide +kernel) (by decide +kernel) hk1 hFc hP1 hD1
                clear hP hD hPc hDc hFc ht hvm hz1 hk1 hP1 hD1
                obtain ⟨hP, hD⟩ := hJ9
                refine g5_rs [(a_rf, (arI G 5 f_rf)), (a_wd, (arI G 24 k_wd)), (a_k, (oc5 a_h a_j a_pt z12 z13 z14 z15 z16 z17 z18 z19 z20 z21)), (a_h, (oc1 e_wa e_le e_st e_fo e_lc a_l a_g a_b a_s a_p a_w e_gb a_bb)), (a_g, (oc6 6 5 a_gn e_g)), (a_gn, (arI G 30 f_g)), (a_b, (oc6 5 24 a_bn e_b)), (a_bn, (arI G 120 f_b)), (a_p, (oc6 8 5 a_pn e_p)), (a_pn, (arI G 40 f_p)), (a_bb, (arJ G 24 f_bb)), (a_j, (oc2 a_as a_sk)), (a_as, (arI G 8 z23)), (a_sk, (arJ G 50 z24)), (a_l, (arW G 6 f_l)), (a_pt, (arI G 200 z22)), (a_wa, (oc10 a_h a_k a_bo)), (a_bo, (arJ G 24 z25)), (a_o, (oc11 a_h a_im a_ke a_k a_wa a_th a_ha a_wk a_r a_x e_tl e_fd e_fpl a_wd 1 a_rf 0))] hP hD ?_
                clear hP hD
                intro hP hD
                refine g5_ti (v := k_n) y33 ?_
                exact W.iret (v := k_n) hx hb hr (fun t ht hW => ⟨⟨k_n, [(a_o, (oc11 a_h a_im a_ke a_k a_wa a_th a_ha a_wk a_r a_x e_tl e_fd e_fpl a_wd 1 a_rf 0)), (a_rf, (arI G 5 f_rf)), (a_k, (oc5 a_h a_j a_pt z12 z13 z14 z15 z16 z17 z18 z19 z20 z21)), (a_h, (oc1 e_wa e_le e_st e_fo e_lc a_l a_g a_b a_s a_p a_w e_gb a_bb)), (a_g, (oc6 6 5 a_gn e_g)), (a_gn, (arI G 30 f_g)), (a_b, (oc6 5 24 a_bn e_b)), (a_bn, (arI G 120 f_b)), (a_p, (oc6 8 5 a_pn e_p)), (a_pn, (arI G 40 f_p)), (a_bb, (arJ G 24 f_bb)), (a_j, (oc2 a_as a_sk)), (a_as, (arI G 8 z23)), (a_sk, (arJ G 50 z24)), (a_l, (arW G 6 f_l)), (a_pt, (arI G 200 z22)), (a_wa, (oc10 a_h a_k a_bo)), (a_bo, (arJ G 24 z25)), (a_wd, (arI G 24 k_wd))], rfl, ⟨k_n, 0, f_rf, 1, z12, z13, z14, z15, z16, z17, z18, z19, z20, z21, z22, z23, z24, z25, k_wd, i_11, ⟨by have zc_o_wn : (1 : Int32).toInt = 1 := (by decide +kernel); omega, by have zc_o_wn : (1 : Int32).toInt = 1 := (by decide +kernel); omega⟩, by rw [(wand_0 (f := f_ro) (g := f_wd) (n := e_wn) (s := p_s) (c := p_c) (by unfold okD; omega) (wl_n e_hh (by omega) (Or.inr i_8))).1, i_30, show k_i.toInt.toNat = 24 by omega], (wand_0 (f := f_ro) (g := f_wd) (n := e_wn) (s := p_s) (c := p_c) (by unfold okD; omega) (wl_n e_hh (by omega) (Or.inr i_8))).2.symm, rfl, rfl⟩, by rw [ht]; exact hP.sub [18, 0, 2, 3, 4, 5, 6, 7, 8, 9, 10, 11, 12, 13, 14, 15, 16, 17, 1] rfl, hD.sub [18, 0, 2, 3, 4, 5, 6, 7, 8, 9, 10, 11, 12, 13, 14, 15, 16, 17, 1] (by decide +kernel) rfl⟩, hS.F ht⟩) hS.2.2 dX11_wander_179
              ·
                have i_32 : k_i.toInt < 24 := g5_geN (a := k_i.toInt) (b := 24) rfl (by decide +kernel) c_32
                refine lv_iload hx hb dX11_wander_75 (lv_at hl 3 rfl) ?_
                refine lv_if_le (tgt := 137) hx hb dX11_wander_77 (by decide +kernel) (fun c_34 => ?_) (fun c_34 => ?_)
                ·
                  have i_34 : k_i.toInt ≤ 0 := g5_le (a := k_i.toInt) (b := 0) rfl (by decide +kernel) c_34
                  refine lv_aload_n hx hb dX11_wander_137 rfl (lv_at hl 4 rfl) ?_
                  refine va_get (D := G.1) (ci := 11) (v := .ref a_wd) (C := RX11) (T := TX11) (N := 17) hx hb hts inG_X11 hown hK hP 0 rfl rfl 13 (by decide +kernel) (hts _ fl_X11_84) (fun _ h9 => h9) rfl dX11_wander_138 ?_
                  refine lv_iload hx hb dX11_wander_141 (lv_at hl 3 rfl) ?_
                  refine lv_iload hx hb dX11_wander_143 (lv_at hl 1 rfl) ?_
                  refine W.eq (g2 := F0 m 145 ls [.int k_a, .int k_i, .ref a_wd]) rfl ?_
                  refine va_iast hx hb hK hP hD hS 2 0 rfl rfl (i := k_i) (x := k_a) (vp_in_iff.mpr ⟨by omega, by omega⟩) dX11_wander_145 ?_
                  clear hP hD hS
                  intro H locs hP hD hS
                  refine g5_rs [(a_o, (oc11 a_h a_im a_ke a_k a_wa a_th a_ha a_wk a_r a_x e_tl e_fd e_fpl a_wd 1 a_rf e_lr)), (a_rf, (arI G 5 f_rf)), (a_wd, (arI G 24 (upd k_wd k_i.toNatClampNeg k_a))), (a_k, (oc5 a_h a_j a_pt z12 z13 z14 z15 z16 z17 z18 z19 z20 z21)), (a_h, (oc1 e_wa e_le e_st e_fo e_lc a_l a_g a_b a_s a_p a_w e_gb a_bb)), (a_g, (oc6 6 5 a_gn e_g)), (a_gn, (arI G 30 f_g)), (a_b, (oc6 5 24 a_bn e_b)), (a_bn, (arI G 120 f_b)), (a_p, (oc6 8 5 a_pn e_p)), (a_pn, (arI G 40 f_p)), (a_bb, (arJ G 24 f_bb)), (a_j, (oc2 a_as a_sk)), (a_as, (arI G 8 z23)), (a_sk, (arJ G 50 z24)), (a_l, (arW G 6 f_l)), (a_pt, (arI G 200 z22)), (a_wa, (oc10 a_h a_k a_bo)), (a_bo, (arJ G 24 z25))] hP hD ?_
                  clear hP hD
                  intro hP hD
                  refine lv_aload_n hx hb dX11_wander_146 rfl (lv_at hl 4 rfl) ?_
                  refine va_get (D := G.1) (ci := 11) (v := .ref a_wa) (C := RX11) (T := TX11) (N := 17) hx hb hts inG_X11 hown hK hP 0 rfl rfl 4 (by decide +kernel) (hts _ fl_X11_38) (fun _ h9 => h9) rfl dX11_wander_147 ?_
                  refine va_get (D := G.1) (ci := 10) (v := .ref a_bo) (C := RX10) (T := TX10) (N := 3) hx hb hts inG_X10 hown hK hP 17 rfl rfl 2 (by decide +kernel) (hts _ fl_X11_257) (fun _ h9 => h9) rfl dX11_wander_150 ?_
                  refine lv_iload hx hb dX11_wander_153 (lv_at hl 3 rfl) ?_
                  refine W.eq (g2 := F0 m 155 ls [.int k_i, .ref a_bo]) rfl ?_
                  refine va_lald hx hb hK hP 18 1 rfl rfl (i := k_i) (vp_in_iff.mpr ⟨by omega, by omega⟩) dX11_wander_155 ?_
                  refine lv_iload hx hb dX11_wander_156 (lv_at hl 1 rfl) ?_
                  obtain ⟨hPc, hDc, hFc⟩ := g5_sub3 (wc := []) hP hD hS hA [] (by decide +kernel) rfl
                  refine va_calli (va_runS (As := [.long (z25 k_i.toNatClampNeg), .int k_a]) (rest := []) ⟨hx, hb, hml, hown, hts⟩ (k_isOn l G H.size k_a (z25 k_i.toNatClampNeg) i_26) (va_cwS 2 hts gS_X11_115 rfl rfl rfl hs_X11_isOn ⟨Nat.le_of_ble_eq_true rfl, Nat.le_of_ble_eq_true rfl⟩) (g5_preS hPc hK hDc hN hT hS hFc) rfl rfl hl.1 rfl (lv_room (Nat.le_of_ble_eq_true rfl)) dX11_wander_158 ⟨Nat.le_of_ble_eq_true rfl, Nat.le_of_ble_eq_true rfl⟩) hS (fun q _ h => hFc q h) hFc (fun r u t H locs ht hvm hw hB hz1 hk1 hS => ?_)
                  obtain ⟨hP1, hD1⟩ := hB
                  have hP1 := g5_ht ht hP1
                  rcases hw with ⟨(i_35 : onB (z25 k_i.toNatClampNeg) k_a.toInt = false), rfl, rfl⟩ | ⟨(i_36 : onB (z25 k_i.toNatClampNeg) k_a.toInt = true), rfl, rfl⟩
                  ·
                    have hJ9 := g5_same hP hk1
                    clear hP hPc hDc hFc ht hvm hz1 hk1 hP1 hD1
                    have hP := hJ9
                    clear hJ9
                    refine lv_if_eq (tgt := 167) hx hb dX11_wander_161 (by decide +kernel) (fun c_37 => ?_) (fun c_37 => ?_)
                    ·
                      refine lv_iinc (v := (k_i + 1)) (lv' := [(7, .int (k_i + 1)), (3, .long k_d), (5, .int k_a), (6, .int k_n), (0, .ref a_o), (1, .int p_s), (2, .int p_c)]) hx hb dX11_wander_167 hl (k := 3) rfl rfl (by decide +kernel) rfl ?_
                      clear hl
                      intro ls hl
                      have t_38 : (k_i + 1).toInt = k_i.toInt + 1 := g5_iadd (a := k_i.toInt) (b := 1) rfl (by decide +kernel) (by omega) (by omega)
                      refine lv_goto (tgt := 68) hx hb dX11_wander_170 (by decide +kernel) ?_
                      exact ih_68_31 (k_d, k_a, k_n, (k_i + 1), (upd k_wd k_i.toNatClampNeg k_a)) ls H locs (show Int.toNat (24 - (k_i + 1).toInt) < Int.toNat (24 - k_i.toInt) from g_up (show k_i.toInt < (k_i + 1).toInt by omega) (show k_i.toInt < 24 by omega)) ⟨lv_sub hl [1, 2, 3, 0, 4, 5, 6] rfl, hP, hD, hS, i_26, ⟨by omega, by omega⟩, by rw [show (k_i + 1).toInt.toNat - 1 = k_i.toInt.toNat - 1 by omega]; exact i_28, by rw [show (k_i + 1).toInt.toNat - 1 = k_i.toInt.toNat - 1 by omega]; exact i_29, by rw [show (k_i + 1).toInt.toNat = k_i.toInt.toNat + 1 by omega]; exact wdR_S i_30 rfl (by rw [show k_i.toInt.toNat = k_i.toInt.toNat - 1 by omega]; exact i_29)⟩
                    ·
                      exact absurd c_37 (by decide +kernel)
                  ·
                    have hJ9 := g5_same hP hk1
                    clear hP hPc hDc hFc ht hvm hz1 hk1 hP1 hD1
                    have hP := hJ9
                    clear hJ9
                    refine lv_if_eq (tgt := 167) hx hb dX11_wander_161 (by decide +kernel) (fun c_39 => ?_) (fun c_39 => ?_)
                    ·
                      exact absurd c_39 (by decide +kernel)
                    ·
                      refine lv_iinc (v := (k_n + 1)) (lv' := [(6, .int (k_n + 1)), (3, .long k_d), (5, .int k_a), (7, .int k_i), (0, .ref a_o), (1, .int p_s), (2, .int p_c)]) hx hb dX11_wander_164 hl (k := 2) rfl rfl (by decide +kernel) rfl ?_
                      clear hl
                      intro ls hl
                      refine lv_iinc (v := (k_i + 1)) (lv' := [(7, .int (k_i + 1)), (6, .int (k_n + 1)), (3, .long k_d), (5, .int k_a), (0, .ref a_o), (1, .int p_s), (2, .int p_c)]) hx hb dX11_wander_167 hl (k := 3) rfl rfl (by decide +kernel) rfl ?_
                      clear hl
                      intro ls hl
                      have t_40 : (k_i + 1).toInt = k_i.toInt + 1 := g5_iadd (a := k_i.toInt) (b := 1) rfl (by decide +kernel) (by omega) (by omega)
                      refine lv_goto (tgt := 68) hx hb dX11_wander_170 (by decide +kernel) ?_
                      exact ih_68_31 (k_d, k_a, (k_n + 1), (k_i + 1), (upd k_wd k_i.toNatClampNeg k_a)) ls H locs (show Int.toNat (24 - (k_i + 1).toInt) < Int.toNat (24 - k_i.toInt) from g_up (show k_i.toInt < (k_i + 1).toInt by omega) (show k_i.toInt < 24 by omega)) ⟨lv_sub hl [2, 3, 1, 0, 4, 5, 6] rfl, hP, hD, hS, i_26, ⟨by omega, by omega⟩, by rw [show (k_i + 1).toInt.toNat - 1 = k_i.toInt.toNat - 1 by omega]; exact i_28, by rw [show (k_i + 1).toInt.toNat - 1 = k_i.toInt.toNat - 1 by omega]; exact i_29, by rw [show (k_i + 1).toInt.toNat = k_i.toInt.toNat + 1 by omega]; exact wdR_S i_30 rfl (by rw [show k_i.toInt.toNat = k_i.toInt.toNat - 1 by omega]; exact i_29)⟩
                ·
                  have i_34 : k_i.toInt > 0 := g5_leN (a := k_i.toInt) (b := 0) rfl (by decide +kernel) c_34
                  refine lv_lload_n hx hb dX11_wander_80 rfl (lv_at hl 0 rfl) ?_
                  refine lv_ldc2 (v := 1103) hx hb hown (hts _ kl_X11_340) dX11_wander_81 ?_
                  refine lv_lmul hx hb dX11_wander_84 ?_
                  refine lv_ldc2 (v := 12345) hx hb hown (hts _ kl_X11_342) dX11_wander_85 ?_
                  refine W.eq (g2 := F0 m 88 ls [.long 12345, .long (k_d * 1103)]) rfl ?_
                  refine lv_ladd hx hb dX11_wander_88 ?_
                  refine lv_ldc2 (v := 1000003) hx hb hown (hts _ kl_X11_344) dX11_wander_89 ?_
                  refine lv_lrem hx hb dX11_wander_92 (by decide +kernel) ?_
                  refine lv_lstore_n (lv' := [(3, .long (((k_d * 1103) + 12345) - ((k_d * 1103) + 12345) / 1000003 * 1000003)), (5, .int k_a), (6, .int k_n), (7, .int k_i), (0, .ref a_o), (1, .int p_s), (2, .int p_c)]) hx hb dX11_wander_93 rfl hl (by decide +kernel) rfl ?_
                  clear hl
                  intro ls hl
                  refine lv_iload hx hb dX11_wander_94 (lv_at hl 1 rfl) ?_
                  refine W.eq (g2 := F0 m 96 ls [.int k_a]) rfl ?_
                  refine lv_lload_n hx hb dX11_wander_96 rfl (lv_at hl 0 rfl) ?_
                  refine lv_ldc2 (v := 5) hx hb hown (hts _ kl_X11_346) dX11_wander_97 ?_
                  refine lv_lrem hx hb dX11_wander_100 (by decide +kernel) ?_
                  refine lv_l2i (v := ((((k_d * 1103) + 12345) - ((k_d * 1103) + 12345) / 1000003 * 1000003) - (((k_d * 1103) + 12345) - ((k_d * 1103) + 12345) / 1000003 * 1000003) / 5 * 5).toInt32) hx hb dX11_wander_101 rfl ?_
                  obtain ⟨y41, hy_41⟩ : ∃ y : Int32, ((((k_d * 1103) + 12345) - ((k_d * 1103) + 12345) / 1000003 * 1000003) - (((k_d * 1103) + 12345) - ((k_d * 1103) + 12345) / 1000003 * 1000003) / 5 * 5).toInt32 = y := ⟨_, rfl⟩
                  refine g5_ti (v := y41) hy_41 ?_
                  obtain ⟨hPc, hDc, hFc⟩ := g5_sub3 (wc := []) hP hD hS hA [] (by decide +kernel) rfl
                  refine va_calli (va_runS (As := [.int k_a, .int y41]) (rest := []) ⟨hx, hb, hml, hown, hts⟩ (k_beside l G H.size k_a y41 i_26) (va_cwS 2 hts gS_X11_348 rfl rfl rfl hs_X11_beside ⟨Nat.le_of_ble_eq_true rfl, Nat.le_of_ble_eq_true rfl⟩) (g5_preS hPc hK hDc hN hT hS hFc) rfl rfl hl.1 rfl (lv_room (Nat.le_of_ble_eq_true rfl)) dX11_wander_102 ⟨Nat.le_of_ble_eq_true rfl, Nat.le_of_ble_eq_true rfl⟩) hS (fun q _ h => hFc q h) hFc (fun r u t H locs ht hvm hw hB hz1 hk1 hS => ?_)
                  obtain ⟨hP1, hD1⟩ := hB
                  have hP1 := g5_ht ht hP1
                  obtain ⟨z44, (i_42 : z44.toInt = bs k_a.toInt y41.toInt), (i_43 : -1 ≤ z44.toInt ∧ z44.toInt ≤ 63), y45, rfl⟩ := hw
                  have hJ9 := g5_same hP hk1
                  clear hP hPc hDc hFc ht hvm hz1 hk1 hP1 hD1
                  have hP := hJ9
                  clear hJ9
                  refine g5_ti (v := z44) y45 ?_
                  refine W.eq (g2 := F0 m 105 ls [.int z44]) rfl ?_
                  refine lv_istore (lv' := [(8, .int z44), (3, .long (((k_d * 1103) + 12345) - ((k_d * 1103) + 12345) / 1000003 * 1000003)), (5, .int k_a), (6, .int k_n), (7, .int k_i), (0, .ref a_o), (1, .int p_s), (2, .int p_c)]) hx hb dX11_wander_105 hl (by decide +kernel) rfl ?_
                  clear hl
                  intro ls hl
                  refine lv_iload hx hb dX11_wander_107 (lv_at hl 0 rfl) ?_
                  refine lv_iconst (v := (-1)) hx hb dX11_wander_109 (by decide +kernel) ?_
                  refine lv_icmp_eq (tgt := 128) hx hb dX11_wander_110 (by decide +kernel) (fun c_46 => ?_) (fun c_46 => ?_)
                  ·
                    have i_46 : z44.toInt = (-1) := g5_eq (a := z44.toInt) (b := (-1)) rfl (by decide +kernel) c_46
                    refine lv_iload hx hb dX11_wander_128 (lv_at hl 2 rfl) ?_
                    refine lv_goto (tgt := 135) hx hb dX11_wander_130 (by decide +kernel) ?_
                    refine lv_istore (lv' := [(5, .int k_a), (8, .int z44), (3, .long (((k_d * 1103) + 12345) - ((k_d * 1103) + 12345) / 1000003 * 1000003)), (6, .int k_n), (7, .int k_i), (0, .ref a_o), (1, .int p_s), (2, .int p_c)]) hx hb dX11_wander_135 hl (by decide +kernel) rfl ?_
                    clear hl
                    intro ls hl
                    refine lv_aload_n hx hb dX11_wander_137 rfl (lv_at hl 5 rfl) ?_
                    refine W.eq (g2 := F0 m 138 ls [.ref a_o]) rfl ?_
                    refine va_get (D := G.1) (ci := 11) (v := .ref a_wd) (C := RX11) (T := TX11) (N := 17) hx hb hts inG_X11 hown hK hP 0 rfl rfl 13 (by decide +kernel) (hts _ fl_X11_84) (fun _ h9 => h9) rfl dX11_wander_138 ?_
                    refine lv_iload hx hb dX11_wander_141 (lv_at hl 4 rfl) ?_
                    refine lv_iload hx hb dX11_wander_143 (lv_at hl 0 rfl) ?_
                    refine va_iast hx hb hK hP hD hS 2 0 rfl rfl (i := k_i) (x := k_a) (vp_in_iff.mpr ⟨by omega, by omega⟩) dX11_wander_145 ?_
                    clear hP hD hS
                    intro H locs hP hD hS
                    refine g5_rs [(a_o, (oc11 a_h a_im a_ke a_k a_wa a_th a_ha a_wk a_r a_x e_tl e_fd e_fpl a_wd 1 a_rf e_lr)), (a_rf, (arI G 5 f_rf)), (a_wd, (arI G 24 (upd k_wd k_i.toNatClampNeg k_a))), (a_k, (oc5 a_h a_j a_pt z12 z13 z14 z15 z16 z17 z18 z19 z20 z21)), (a_h, (oc1 e_wa e_le e_st e_fo e_lc a_l a_g a_b a_s a_p a_w e_gb a_bb)), (a_g, (oc6 6 5 a_gn e_g)), (a_gn, (arI G 30 f_g)), (a_b, (oc6 5 24 a_bn e_b)), (a_bn, (arI G 120 f_b)), (a_p, (oc6 8 5 a_pn e_p)), (a_pn, (arI G 40 f_p)), (a_bb, (arJ G 24 f_bb)), (a_j, (oc2 a_as a_sk)), (a_as, (arI G 8 z23)), (a_sk, (arJ G 50 z24)), (a_l, (arW G 6 f_l)), (a_pt, (arI G 200 z22)), (a_wa, (oc10 a_h a_k a_bo)), (a_bo, (arJ G 24 z25))] hP hD ?_
                    clear hP hD
                    intro hP hD
                    refine lv_aload_n hx hb dX11_wander_146 rfl (lv_at hl 5 rfl) ?_
                    refine W.eq (g2 := F0 m 147 ls [.ref a_o]) rfl ?_
                    refine va_get (D := G.1) (ci := 11) (v := .ref a_wa) (C := RX11) (T := TX11) (N := 17) hx hb hts inG_X11 hown hK hP 0 rfl rfl 4 (by decide +kernel) (hts _ fl_X11_38) (fun _ h9 => h9) rfl dX11_wander_147 ?_
                    refine va_get (D := G.1) (ci := 10) (v := .ref a_bo) (C := RX10) (T := TX10) (N := 3) hx hb hts inG_X10 hown hK hP 17 rfl rfl 2 (by decide +kernel) (hts _ fl_X11_257) (fun _ h9 => h9) rfl dX11_wander_150 ?_
                    refine lv_iload hx hb dX11_wander_153 (lv_at hl 4 rfl) ?_
                    refine va_lald hx hb hK hP 18 1 rfl rfl (i := k_i) (vp_in_iff.mpr ⟨by omega, by omega⟩) dX11_wander_155 ?_
                    refine lv_iload hx hb dX11_wander_156 (lv_at hl 0 rfl) ?_
                    refine W.eq (g2 := F0 m 158 ls [.int k_a, .long (z25 k_i.toNatClampNeg)]) rfl ?_
                    obtain ⟨hPc, hDc, hFc⟩ := g5_sub3 (wc := []) hP hD hS hA [] (by decide +kernel) rfl
                    refine va_calli (va_runS (As := [.long (z25 k_i.toNatClampNeg), .int k_a]) (rest := []) ⟨hx, hb, hml, hown, hts⟩ (k_isOn l G H.size k_a (z25 k_i.toNatClampNeg) i_26) (va_cwS 2 hts gS_X11_115 rfl rfl rfl hs_X11_isOn ⟨Nat.le_of_ble_eq_true rfl, Nat.le_of_ble_eq_true rfl⟩) (g5_preS hPc hK hDc hN hT hS hFc) rfl rfl hl.1 rfl (lv_room (Nat.le_of_ble_eq_true rfl)) dX11_wander_158 ⟨Nat.le_of_ble_eq_true rfl, Nat.le_of_ble_eq_true rfl⟩) hS (fun q _ h => hFc q h) hFc (fun r u t H locs ht hvm hw hB hz1 hk1 hS => ?_)
                    obtain ⟨hP1, hD1⟩ := hB
                    have hP1 := g5_ht ht hP1
                    rcases hw with ⟨(i_47 : onB (z25 k_i.toNatClampNeg) k_a.toInt = false), rfl, rfl⟩ | ⟨(i_48 : onB (z25 k_i.toNatClampNeg) k_a.toInt = true), rfl, rfl⟩
                    ·
                      have hJ9 := g5_same hP hk1
                      clear hP hPc hDc hFc ht hvm hz1 hk1 hP1 hD1
                      have hP := hJ9
                      clear hJ9
                      refine lv_if_eq (tgt := 167) hx hb dX11_wander_161 (by decide +kernel) (fun c_49 => ?_) (fun c_49 => ?_)
                      ·
                        refine lv_iinc (v := (k_i + 1)) (lv' := [(7, .int (k_i + 1)), (5, .int k_a), (8, .int z44), (3, .long (((k_d * 1103) + 12345) - ((k_d * 1103) + 12345) / 1000003 * 1000003)), (6, .int k_n), (0, .ref a_o), (1, .int p_s), (2, .int p_c)]) hx hb dX11_wander_167 hl (k := 4) rfl rfl (by decide +kernel) rfl ?_
                        clear hl
                        intro ls hl
                        have t_50 : (k_i + 1).toInt = k_i.toInt + 1 := g5_iadd (a := k_i.toInt) (b := 1) rfl (by decide +kernel) (by omega) (by omega)
                        refine lv_goto (tgt := 68) hx hb dX11_wander_170 (by decide +kernel) ?_
                        exact ih_68_31 ((((k_d * 1103) + 12345) - ((k_d * 1103) + 12345) / 1000003 * 1000003), k_a, k_n, (k_i + 1), (upd k_wd k_i.toNatClampNeg k_a)) ls H locs (show Int.toNat (24 - (k_i + 1).toInt) < Int.toNat (24 - k_i.toInt) from g_up (show k_i.toInt < (k_i + 1).toInt by omega) (show k_i.toInt < 24 by omega)) ⟨lv_sub hl [3, 1, 4, 0, 5, 6, 7] rfl, hP, hD, hS, i_26, ⟨by omega, by omega⟩, by rw [show (k_i + 1).toInt.toNat - 1 = (k_i.toInt.toNat - 1) + 1 by omega, wdS_S, ← i_28]; rfl, by rw [show (k_i + 1).toInt.toNat - 1 = (k_i.toInt.toNat - 1) + 1 by omega]; exact (by rw [wdC_S (wdk_of i_28 hy_41), ← i_29, ws_n (by rw [← i_42]; omega)]), by rw [show (k_i + 1).toInt.toNat = k_i.toInt.toNat + 1 by omega]; exact wdR_S i_30 rfl (by rw [show k_i.toInt.toNat = (k_i.toInt.toNat - 1) + 1 by omega]; exact (by rw [wdC_S (wdk_of i_28 hy_41), ← i_29, ws_n (by rw [← i_42]; omega)]))⟩
                      ·
                        exact absurd c_49 (by decide +kernel)
                    ·
                      have hJ9 := g5_same hP hk1
                      clear hP hPc hDc hFc ht hvm hz1 hk1 hP1 hD1
                      have hP := hJ9
                      clear hJ9
                      refine lv_if_eq (tgt := 167) hx hb dX11_wander_161 (by decide +kernel) (fun c_51 => ?_) (fun c_51 => ?_)
                      ·
                        exact absurd c_51 (by decide +kernel)
                      ·
                        refine lv_iinc (v := (k_n + 1)) (lv' := [(6, .int (k_n + 1)), (5, .int k_a), (8, .int z44), (3, .long (((k_d * 1103) + 12345) - ((k_d * 1103) + 12345) / 1000003 * 1000003)), (7, .int k_i), (0, .ref a_o), (1, .int p_s), (2, .int p_c)]) hx hb dX11_wander_164 hl (k := 3) rfl rfl (by decide +kernel) rfl ?_
                        clear hl
                        intro ls hl
                        refine lv_iinc (v := (k_i + 1)) (lv' := [(7, .int (k_i + 1)), (6, .int (k_n + 1)), (5, .int k_a), (8, .int z44), (3, .long (((k_d * 1103) + 12345) - ((k_d * 1103) + 12345) / 1000003 * 1000003)), (0, .ref a_o), (1, .int p_s), (2, .int p_c)]) hx hb dX11_wander_167 hl (k := 4) rfl rfl (by decide +kernel) rfl ?_
                        clear hl
                        intro ls hl
                        have t_52 : (k_i + 1).toInt = k_i.toInt + 1 := g5_iadd (a := k_i.toInt) (b := 1) rfl (by decide +kernel) (by omega) (by omega)
                        refine lv_goto (tgt := 68) hx hb dX11_wander_170 (by decide +kernel) ?_
                        exact ih_68_31 ((((k_d * 1103) + 12345) - ((k_d * 1103) + 12345) / 1000003 * 1000003), k_a, (k_n + 1), (k_i + 1), (upd k_wd k_i.toNatClampNeg k_a)) ls H locs (show Int.toNat (24 - (k_i + 1).toInt) < Int.toNat (24 - k_i.toInt) from g_up (show k_i.toInt < (k_i + 1).toInt by omega) (show k_i.toInt < 24 by omega)) ⟨lv_sub hl [4, 2, 1, 0, 5, 6, 7] rfl, hP, hD, hS, i_26, ⟨by omega, by omega⟩, by rw [show (k_i + 1).toInt.toNat - 1 = (k_i.toInt.toNat - 1) + 1 by omega, wdS_S, ← i_28]; rfl, by rw [show (k_i + 1).toInt.toNat - 1 = (k_i.toInt.toNat - 1) + 1 by omega]; exact (by rw [wdC_S (wdk_of i_28 hy_41), ← i_29, ws_n (by rw [← i_42]; omega)]), by rw [show (k_i + 1).toInt.toNat = k_i.toInt.toNat + 1 by omega]; exact wdR_S i_30 rfl (by rw [show k_i.toInt.toNat = (k_i.toInt.toNat - 1) + 1 by omega]; exact (by rw [wdC_S (wdk_of i_28 hy_41), ← i_29, ws_n (by rw [← i_42]; omega)]))⟩
                  ·
                    have n_46 : gNe (z44.toInt) ((-1)) := g5_eqN (a := z44.toInt) (b := (-1)) rfl (by decide +kernel) c_46
                    have i_46 : z44.toInt ≥ 0 := by have z := g5_eqN (a := z44.toInt) (b := (-1)) (by rfl) (by decide +kernel) c_46; omega
                    refine lv_aload_n hx hb dX11_wander_113 rfl (lv_at hl 5 rfl) ?_
                    refine va_get (D := G.1) (ci := 11) (v := .ref a_h) (C := RX11) (T := TX11) (N := 17) hx hb hts inG_X11 hown hK hP 0 rfl rfl 0 (by decide +kernel) (hts _ fl_X11_12) (fun _ h9 => h9) rfl dX11_wander_114 ?_
                    refine va_get (D := G.1) (ci := 1) (v := .long e_wa) (C := RX1) (T := TX1) (N := 13) hx hb hts inG_X1 hown hK hP 4 rfl rfl 0 (by decide +kernel) (hts _ fl_X11_111) (fun _ h9 => h9) rfl dX11_wander_117 ?_
                    refine lv_iload hx hb dX11_wander_120 (lv_at hl 0 rfl) ?_
                    refine W.eq (g2 := F0 m 122 ls [.int z44, .long e_wa]) rfl ?_
                    obtain ⟨hPc, hDc, hFc⟩ := g5_sub3 (wc := []) hP hD hS hA [] (by decide +kernel) rfl
                    refine va_calli (va_runS (As := [.long e_wa, .int z44]) (rest := []) ⟨hx, hb, hml, hown, hts⟩ (k_isOn l G H.size z44 e_wa ⟨by omega, by omega⟩) (va_cwS 2 hts gS_X11_115 rfl rfl rfl hs_X11_isOn ⟨Nat.le_of_ble_eq_true rfl, Nat.le_of_ble_eq_true rfl⟩) (g5_preS hPc hK hDc hN hT hS hFc) rfl rfl hl.1 rfl (lv_room (Nat.le_of_ble_eq_true rfl)) dX11_wander_122 ⟨Nat.le_of_ble_eq_true rfl, Nat.le_of_ble_eq_true rfl⟩) hS (fun q _ h => hFc q h) hFc (fun r u t H locs ht hvm hw hB hz1 hk1 hS => ?_)
                    obtain ⟨hP1, hD1⟩ := hB
                    have hP1 := g5_ht ht hP1
                    rcases hw with ⟨(i_53 : onB e_wa z44.toInt = false), rfl, rfl⟩ | ⟨(i_54 : onB e_wa z44.toInt = true), rfl, rfl⟩
                    ·
                      have hJ9 := g5_same hP hk1
                      clear hP hPc hDc hFc ht hvm hz1 hk1 hP1 hD1
                      have hP := hJ9
                      clear hJ9
                      refine lv_if_eq (tgt := 133) hx hb dX11_wander_125 (by decide +kernel) (fun c_55 => ?_) (fun c_55 => ?_)
                      ·
                        refine lv_iload hx hb dX11_wander_133 (lv_at hl 0 rfl) ?_
                        refine lv_istore (lv' := [(5, .int z44), (8, .int z44), (3, .long (((k_d * 1103) + 12345) - ((k_d * 1103) + 12345) / 1000003 * 1000003)), (6, .int k_n), (7, .int k_i), (0, .ref a_o), (1, .int p_s), (2, .int p_c)]) hx hb dX11_wander_135 hl (by decide +kernel) rfl ?_
                        clear hl
                        intro ls hl
                        refine lv_aload_n hx hb dX11_wander_137 rfl (lv_at hl 5 rfl) ?_
                        refine va_get (D := G.1) (ci := 11) (v := .ref a_wd) (C := RX11) (T := TX11) (N := 17) hx hb hts inG_X11 hown hK hP 0 rfl rfl 13 (by decide +kernel) (hts _ fl_X11_84) (fun _ h9 => h9) rfl dX11_wander_138 ?_
                        refine W.eq (g2 := F0 m 141 ls [.ref a_wd]) rfl ?_
                        refine lv_iload hx hb dX11_wander_141 (lv_at hl 4 rfl) ?_
                        refine lv_iload hx hb dX11_wander_143 (lv_at hl 0 rfl) ?_
                        refine va_iast hx hb hK hP hD hS 2 0 rfl rfl (i := k_i) (x := z44) (vp_in_iff.mpr ⟨by omega, by omega⟩) dX11_wander_145 ?_
                        clear hP hD hS
                        intro H locs hP hD hS
                        refine g5_rs [(a_o, (oc11 a_h a_im a_ke a_k a_wa a_th a_ha a_wk a_r a_x e_tl e_fd e_fpl a_wd 1 a_rf e_lr)), (a_rf, (arI G 5 f_rf)), (a_wd, (arI G 24 (upd k_wd k_i.toNatClampNeg z44))), (a_k, (oc5 a_h a_j a_pt z12 z13 z14 z15 z16 z17 z18 z19 z20 z21)), (a_h, (oc1 e_wa e_le e_st e_fo e_lc a_l a_g a_b a_s a_p a_w e_gb a_bb)), (a_g, (oc6 6 5 a_gn e_g)), (a_gn, (arI G 30 f_g)), (a_b, (oc6 5 24 a_bn e_b)), (a_bn, (arI G 120 f_b)), (a_p, (oc6 8 5 a_pn e_p)), (a_pn, (arI G 40 f_p)), (a_bb, (arJ G 24 f_bb)), (a_j, (oc2 a_as a_sk)), (a_as, (arI G 8 z23)), (a_sk, (arJ G 50 z24)), (a_l, (arW G 6 f_l)), (a_pt, (arI G 200 z22)), (a_wa, (oc10 a_h a_k a_bo)), (a_bo, (arJ G 24 z25))] hP hD ?_
                        clear hP hD
                        intro hP hD
                        refine lv_aload_n hx hb dX11_wander_146 rfl (lv_at hl 5 rfl) ?_
                        refine va_get (D := G.1) (ci := 11) (v := .ref a_wa) (C := RX11) (T := TX11) (N := 17) hx hb hts inG_X11 hown hK hP 0 rfl rfl 4 (by decide +kernel) (hts _ fl_X11_38) (fun _ h9 => h9) rfl dX11_wander_147 ?_
                        refine W.eq (g2 := F0 m 150 ls [.ref a_wa]) rfl ?_
                        refine va_get (D := G.1) (ci := 10) (v := .ref a_bo) (C := RX10) (T := TX10) (N := 3) hx hb hts inG_X10 hown hK hP 17 rfl rfl 2 (by decide +kernel) (hts _ fl_X11_257) (fun _ h9 => h9) rfl dX11_wander_150 ?_
                        refine lv_iload hx hb dX11_wander_153 (lv_at hl 4 rfl) ?_
                        refine va_lald hx hb hK hP 18 1 rfl rfl (i := k_i) (vp_in_iff.mpr ⟨by omega, by omega⟩) dX11_wander_155 ?_
                        refine lv_iload hx hb dX11_wander_156 (lv_at hl 0 rfl) ?_
                        obtain ⟨hPc, hDc, hFc⟩ := g5_sub3 (wc := []) hP hD hS hA [] (by decide +kernel) rfl
                        refine va_calli (va_runS (As := [.long (z25 k_i.toNatClampNeg), .int z44]) (rest := []) ⟨hx, hb, hml, hown, hts⟩ (k_isOn l G H.size z44 (z25 k_i.toNatClampNeg) ⟨by omega, by omega⟩) (va_cwS 2 hts gS_X11_115 rfl rfl rfl hs_X11_isOn ⟨Nat.le_of_ble_eq_true rfl, Nat.le_of_ble_eq_true rfl⟩) (g5_preS hPc hK hDc hN hT hS hFc) rfl rfl hl.1 rfl (lv_room (Nat.le_of_ble_eq_true rfl)) dX11_wander_158 ⟨Nat.le_of_ble_eq_true rfl, Nat.le_of_ble_eq_true rfl⟩) hS (fun q _ h => hFc q h) hFc (fun r u t H locs ht hvm hw hB hz1 hk1 hS => ?_)
                        obtain ⟨hP1, hD1⟩ := hB
                        have hP1 := g5_ht ht hP1
                        rcases hw with ⟨(i_56 : onB (z25 k_i.toNatClampNeg) z44.toInt = false), rfl, rfl⟩ | ⟨(i_57 : onB (z25 k_i.toNatClampNeg) z44.toInt = true), rfl, rfl⟩
                        ·
                          have hJ9 := g5_same hP hk1
                          clear hP hPc hDc hFc ht hvm hz1 hk1 hP1 hD1
                          have hP := hJ9
                          clear hJ9
                          refine lv_if_eq (tgt := 167) hx hb dX11_wander_161 (by decide +kernel) (fun c_58 => ?_) (fun c_58 => ?_)
                          ·
                            refine lv_iinc (v := (k_i + 1)) (lv' := [(7, .int (k_i + 1)), (5, .int z44), (8, .int z44), (3, .long (((k_d * 1103) + 12345) - ((k_d * 1103) + 12345) / 1000003 * 1000003)), (6, .int k_n), (0, .ref a_o), (1, .int p_s), (2, .int p_c)]) hx hb dX11_wander_167 hl (k := 4) rfl rfl (by decide +kernel) rfl ?_
                            clear hl
                            intro ls hl
                            have t_59 : (k_i + 1).toInt = k_i.toInt + 1 := g5_iadd (a := k_i.toInt) (b := 1) rfl (by decide +kernel) (by omega) (by omega)
                            refine lv_goto (tgt := 68) hx hb dX11_wander_170 (by decide +kernel) ?_
                            exact ih_68_31 ((((k_d * 1103) + 12345) - ((k_d * 1103) + 12345) / 1000003 * 1000003), z44, k_n, (k_i + 1), (upd k_wd k_i.toNatClampNeg z44)) ls H locs (show Int.toNat (24 - (k_i + 1).toInt) < Int.toNat (24 - k_i.toInt) from g_up (show k_i.toInt < (k_i + 1).toInt by omega) (show k_i.toInt < 24 by omega)) ⟨lv_sub hl [3, 1, 4, 0, 5, 6, 7] rfl, hP, hD, hS, ⟨by omega, by omega⟩, ⟨by omega, by omega⟩, by rw [show (k_i + 1).toInt.toNat - 1 = (k_i.toInt.toNat - 1) + 1 by omega, wdS_S, ← i_28]; rfl, by rw [show (k_i + 1).toInt.toNat - 1 = (k_i.toInt.toNat - 1) + 1 by omega]; exact (by rw [wdC_S (wdk_of i_28 hy_41), ← i_29, ws_y (by rw [← i_42]; exact n_46) (by rw [← i_42]; exact wl_n e_hh (by omega) (Or.inr i_53)), ← i_42]), by rw [show (k_i + 1).toInt.toNat = k_i.toInt.toNat + 1 by omega]; exact wdR_S i_30 rfl (by rw [show k_i.toInt.toNat = (k_i.toInt.toNat - 1) + 1 by omega]; exact (by rw [wdC_S (wdk_of i_28 hy_41), ← i_29, ws_y (by rw [← i_42]; exact n_46) (by rw [← i_42]; exact wl_n e_hh (by omega) (Or.inr i_53)), ← i_42]))⟩
                          ·
                            exact absurd c_58 (by decide +kernel)
                        ·
                          have hJ9 := g5_same hP hk1
                          clear hP hPc hDc hFc ht hvm hz1 hk1 hP1 hD1
                          have hP := hJ9
                          clear hJ9
                          refine lv_if_eq (tgt := 167) hx hb dX11_wander_161 (by decide +kernel) (fun c_60 => ?_) (fun c_60 => ?_)
                          ·
                            exact absurd c_60 (by decide +kernel)
                          ·
                            refine lv_iinc (v := (k_n + 1)) (lv' := [(6, .int (k_n + 1)), (5, .int z44), (8, .int z44), (3, .long (((k_d * 1103) + 12345) - ((k_d * 1103) + 12345) / 1000003 * 1000003)), (7, .int k_i), (0, .ref a_o), (1, .int p_s), (2, .int p_c)]) hx hb dX11_wander_164 hl (k := 3) rfl rfl (by decide +kernel) rfl ?_
                            clear hl
                            intro ls hl
                            refine lv_iinc (v := (k_i + 1)) (lv' := [(7, .int (k_i + 1)), (6, .int (k_n + 1)), (5, .int z44), (8, .int z44), (3, .long (((k_d * 1103) + 12345) - ((k_d * 1103) + 12345) / 1000003 * 1000003)), (0, .ref a_o), (1, .int p_s), (2, .int p_c)]) hx hb dX11_wander_167 hl (k := 4) rfl rfl (by decide +kernel) rfl ?_
                            clear hl
                            intro ls hl
                            have t_61 : (k_i + 1).toInt = k_i.toInt + 1 := g5_iadd (a := k_i.toInt) (b := 1) rfl (by decide +kernel) (by omega) (by omega)
                            refine lv_goto (tgt := 68) hx hb dX11_wander_170 (by decide +kernel) ?_
                            exact ih_68_31 ((((k_d * 1103) + 12345) - ((k_d * 1103) + 12345) / 1000003 * 1000003), z44, (k_n + 1), (k_i + 1), (upd k_wd k_i.toNatClampNeg z44)) ls H locs (show Int.toNat (24 - (k_i + 1).toInt) < Int.toNat (24 - k_i.toInt) from g_up (show k_i.toInt < (k_i + 1).toInt by omega) (show k_i.toInt < 24 by omega)) ⟨lv_sub hl [4, 2, 1, 0, 5, 6, 7] rfl, hP, hD, hS, ⟨by omega, by omega⟩, ⟨by omega, by omega⟩, by rw [show (k_i + 1).toInt.toNat - 1 = (k_i.toInt.toNat - 1) + 1 by omega, wdS_S, ← i_28]; rfl, by rw [show (k_i + 1).toInt.toNat - 1 = (k_i.toInt.toNat - 1) + 1 by omega]; exact (by rw [wdC_S (wdk_of i_28 hy_41), ← i_29, ws_y (by rw [← i_42]; exact n_46) (by rw [← i_42]; exact wl_n e_hh (by omega) (Or.inr i_53)), ← i_42]), by rw [show (k_i + 1).toInt.toNat = k_i.toInt.toNat + 1 by omega]; exact wdR_S i_30 rfl (by rw [show k_i.toInt.toNat = (k_i.toInt.toNat - 1) + 1 by omega]; exact (by rw [wdC_S (wdk_of i_28 hy_41), ← i_29, ws_y (by rw [← i_42]; exact n_46) (by rw [← i_42]; exact wl_n e_hh (by omega) (Or.inr i_53)), ← i_42]))⟩
                      ·
                        exact absurd c_55 (by decide +kernel)
                    ·
                      have hJ9 := g5_same hP hk1
                      clear hP hPc hDc hFc ht hvm hz1 hk1 hP1 hD1
                      have hP := hJ9
                      clear hJ9
                      refine lv_if_eq (tgt := 133) hx hb dX11_wander_125 (by decide +kernel) (fun c_62 => ?_) (fun c_62 => ?_)
                      ·
                        exact absurd c_62 (by decide +kernel)
                      ·
                        refine lv_iload hx hb dX11_wander_128 (lv_at hl 2 rfl) ?_
                        refine lv_goto (tgt := 135) hx hb dX11_wander_130 (by decide +kernel) ?_
                        refine lv_istore (lv' := [(5, .int k_a), (8, .int z44), (3, .long (((k_d * 1103) + 12345) - ((k_d * 1103) + 12345) / 1000003 * 1000003)), (6, .int k_n), (7, .int k_i), (0, .ref a_o), (1, .int p_s), (2, .int p_c)]) hx hb dX11_wander_135 hl (by decide +kernel) rfl ?_
                        clear hl
                        intro ls hl
                        refine lv_aload_n hx hb dX11_wander_137 rfl (lv_at hl 5 rfl) ?_
                        refine W.eq (g2 := F0 m 138 ls [.ref a_o]) rfl ?_
                        refine va_get (D := G.1) (ci := 11) (v := .ref a_wd) (C := RX11) (T := TX11) (N := 17) hx hb hts inG_X11 hown hK hP 0 rfl rfl 13 (by decide +kernel) (hts _ fl_X11_84) (fun _ h9 => h9) rfl dX11_wander_138 ?_
                        refine lv_iload hx hb dX11_wander_141 (lv_at hl 4 rfl) ?_
                        refine lv_iload hx hb dX11_wander_143 (lv_at hl 0 rfl) ?_
                        refine va_iast hx hb hK hP hD hS 2 0 rfl rfl (i := k_i) (x := k_a) (vp_in_iff.mpr ⟨by omega, by omega⟩) dX11_wander_145 ?_
                        clear hP hD hS
                        intro H locs hP hD hS
                        refine g5_rs [(a_o, (oc11 a_h a_im a_ke a_k a_wa a_th a_ha a_wk a_r a_x e_tl e_fd e_fpl a_wd 1 a_rf e_lr)), (a_rf, (arI G 5 f_rf)), (a_wd, (arI G 24 (upd k_wd k_i.toNatClampNeg k_a))), (a_k, (oc5 a_h a_j a_pt z12 z13 z14 z15 z16 z17 z18 z19 z20 z21)), (a_h, (oc1 e_wa e_le e_st e_fo e_lc a_l a_g a_b a_s a_p a_w e_gb a_bb)), (a_g, (oc6 6 5 a_gn e_g)), (a_gn, (arI G 30 f_g)), (a_b, (oc6 5 24 a_bn e_b)), (a_bn, (arI G 120 f_b)), (a_p, (oc6 8 5 a_pn e_p)), (a_pn, (arI G 40 f_p)), (a_bb, (arJ G 24 f_bb)), (a_j, (oc2 a_as a_sk)), (a_as, (arI G 8 z23)), (a_sk, (arJ G 50 z24)), (a_l, (arW G 6 f_l)), (a_pt, (arI G 200 z22)), (a_wa, (oc10 a_h a_k a_bo)), (a_bo, (arJ G 24 z25))] hP hD ?_
                        clear hP hD
                        intro hP hD
                        refine lv_aload_n hx hb dX11_wander_146 rfl (lv_at hl 5 rfl) ?_
                        refine W.eq (g2 := F0 m 147 ls [.ref a_o]) rfl ?_
                        refine va_get (D := G.1) (ci := 11) (v := .ref a_wa) (C := RX11) (T := TX11) (N := 17) hx hb hts inG_X11 hown hK hP 0 rfl rfl 4 (by decide +kernel) (hts _ fl_X11_38) (fun _ h9 => h9) rfl dX11_wander_147 ?_
                        refine va_get (D := G.1) (ci := 10) (v := .ref a_bo) (C := RX10) (T := TX10) (N := 3) hx hb hts inG_X10 hown hK hP 17 rfl rfl 2 (by decide +kernel) (hts _ fl_X11_257) (fun _ h9 => h9) rfl dX11_wander_150 ?_
                        refine lv_iload hx hb dX11_wander_153 (lv_at hl 4 rfl) ?_
                        refine va_lald hx hb hK hP 18 1 rfl rfl (i := k_i) (vp_in_iff.mpr ⟨by omega, by omega⟩) dX11_wander_155 ?_
                        refine lv_iload hx hb dX11_wander_156 (lv_at hl 0 rfl) ?_
                        refine W.eq (g2 := F0 m 158 ls [.int k_a, .long (z25 k_i.toNatClampNeg)]) rfl ?_
                        obtain ⟨hPc, hDc, hFc⟩ := g5_sub3 (wc := []) hP hD hS hA [] (by decide +kernel) rfl
                        refine va_calli (va_runS (As := [.long (z25 k_i.toNatClampNeg), .int k_a]) (rest := []) ⟨hx, hb, hml, hown, hts⟩ (k_isOn l G H.size k_a (z25 k_i.toNatClampNeg) i_26) (va_cwS 2 hts gS_X11_115 rfl rfl rfl hs_X11_isOn ⟨Nat.le_of_ble_eq_true rfl, Nat.le_of_ble_eq_true rfl⟩) (g5_preS hPc hK hDc hN hT hS hFc) rfl rfl hl.1 rfl (lv_room (Nat.le_of_ble_eq_true rfl)) dX11_wander_158 ⟨Nat.le_of_ble_eq_true rfl, Nat.le_of_ble_eq_true rfl⟩) hS (fun q _ h => hFc q h) hFc (fun r u t H locs ht hvm hw hB hz1 hk1 hS => ?_)
                        obtain ⟨hP1, hD1⟩ := hB
                        have hP1 := g5_ht ht hP1
                        rcases hw with ⟨(i_63 : onB (z25 k_i.toNatClampNeg) k_a.toInt = false), rfl, rfl⟩ | ⟨(i_64 : onB (z25 k_i.toNatClampNeg) k_a.toInt = true), rfl, rfl⟩
                        ·
                          have hJ9 := g5_same hP hk1
                          clear hP hPc hDc hFc ht hvm hz1 hk1 hP1 hD1
                          have hP := hJ9
                          clear hJ9
                          refine lv_if_eq (tgt := 167) hx hb dX11_wander_161 (by decide +kernel) (fun c_65 => ?_) (fun c_65 => ?_)
                          ·
                            refine lv_iinc (v := (k_i + 1)) (lv' := [(7, .int (k_i + 1)), (5, .int k_a), (8, .int z44), (3, .long (((k_d * 1103) + 12345) - ((k_d * 1103) + 12345) / 1000003 * 1000003)), (6, .int k_n), (0, .ref a_o), (1, .int p_s), (2, .int p_c)]) hx hb dX11_wander_167 hl (k := 4) rfl rfl (by decide +kernel) rfl ?_
                            clear hl
                            intro ls hl
                            have t_66 : (k_i + 1).toInt = k_i.toInt + 1 := g5_iadd (a := k_i.toInt) (b := 1) rfl (by decide +kernel) (by omega) (by omega)
                            refine lv_goto (tgt := 68) hx hb dX11_wander_170 (by decide +kernel) ?_
                            exact ih_68_31 ((((k_d * 1103) + 12345) - ((k_d * 1103) + 12345) / 1000003 * 1000003), k_a, k_n, (k_i + 1), (upd k_wd k_i.toNatClampNeg k_a)) ls H locs (show Int.toNat (24 - (k_i + 1).toInt) < Int.toNat (24 - k_i.toInt) from g_up (show k_i.toInt < (k_i + 1).toInt by omega) (show k_i.toInt < 24 by omega)) ⟨lv_sub hl [3, 1, 4, 0, 5, 6, 7] rfl, hP, hD, hS, i_26, ⟨by omega, by omega⟩, by rw [show (k_i + 1).toInt.toNat - 1 = (k_i.toInt.toNat - 1) + 1 by omega, wdS_S, ← i_28]; rfl, by rw [show (k_i + 1).toInt.toNat - 1 = (k_i.toInt.toNat - 1) + 1 by omega]; exact (by rw [wdC_S (wdk_of i_28 hy_41), ← i_29, ws_w (by rw [← i_42]; exact wl_y e_hh (by omega) ⟨by omega, i_54⟩)]), by rw [show (k_i + 1).toInt.toNat = k_i.toInt.toNat + 1 by omega]; exact wdR_S i_30 rfl (by rw [show k_i.toInt.toNat = (k_i.toInt.toNat - 1) + 1 by omega]; exact (by rw [wdC_S (wdk_of i_28 hy_41), ← i_29, ws_w (by rw [← i_42]; exact wl_y e_hh (by omega) ⟨by omega, i_54⟩)]))⟩
                          ·
                            exact absurd c_65 (by decide +kernel)
                        ·
                          have hJ9 := g5_same hP hk1
                          clear hP hPc hDc hFc ht hvm hz1 hk1 hP1 hD1
                          have hP := hJ9
                          clear hJ9
                          refine lv_if_eq (tgt := 167) hx hb dX11_wander_161 (by decide +kernel) (fun c_67 => ?_) (fun c_67 => ?_)
                          ·
                            exact absurd c_67 (by decide +kernel)
                          ·
                            refine lv_iinc (v := (k_n + 1)) (lv' := [(6, .int (k_n + 1)), (5, .int k_a), (8, .int z44), (3, .long (((k_d * 1103) + 12345) - ((k_d * 1103) + 12345) / 1000003 * 1000003)), (7, .int k_i), (0, .ref a_o), (1, .int p_s), (2, .int p_c)]) hx hb dX11_wander_164 hl (k := 3) rfl rfl (by decide +kernel) rfl ?_
                            clear hl
                            intro ls hl
                            refine lv_iinc (v := (k_i + 1)) (lv' := [(7, .int (k_i + 1)), (6, .int (k_n + 1)), (5, .int k_a), (8, .int z44), (3, .long (((k_d * 1103) + 12345) - ((k_d * 1103) + 12345) / 1000003 * 1000003)), (0, .ref a_o), (1, .int p_s), (2, .int p_c)]) hx hb dX11_wander_167 hl (k := 4) rfl rfl (by decide +kernel) rfl ?_
                            clear hl
                            intro ls hl
                            have t_68 : (k_i + 1).toInt = k_i.toInt + 1 := g5_iadd (a := k_i.toInt) (b := 1) rfl (by decide +kernel) (by omega) (by omega)
                            refine lv_goto (tgt := 68) hx hb dX11_wander_170 (by decide +kernel) ?_
                            exact ih_68_31 ((((k_d * 1103) + 12345) - ((k_d * 1103) + 12345) / 1000003 * 1000003), k_a, (k_n + 1), (k_i + 1), (upd k_wd k_i.toNatClampNeg k_a)) ls H locs (show Int.toNat (24 - (k_i + 1).toInt) < Int.toNat (24 - k_i.toInt) from g_up (show k_i.toInt < (k_i + 1).toInt by omega) (show k_i.toInt < 24 by omega)) ⟨lv_sub hl [4, 2, 1, 0, 5, 6, 7] rfl, hP, hD, hS, i_26, ⟨by omega, by omega⟩, by rw [show (k_i + 1).toInt.toNat - 1 = (k_i.toInt.toNat - 1) + 1 by omega, wdS_S, ← i_28]; rfl, by rw [show (k_i + 1).toInt.toNat - 1 = (k_i.toInt.toNat - 1) + 1 by omega]; exact (by rw [wdC_S (wdk_of i_28 hy_41), ← i_29, ws_w (by rw [← i_42]; exact wl_y e_hh (by omega) ⟨by omega, i_54⟩)]), by rw [show (k_i + 1).toInt.toNat = k_i.toInt.toNat + 1 by omega]; exact wdR_S i_30 rfl (by rw [show k_i.toInt.toNat = (k_i.toInt.toNat - 1) + 1 by omega]; exact (by rw [wdC_S (wdk_of i_28 hy_41), ← i_29, ws_w (by rw [← i_42]; exact wl_y e_hh (by omega) ⟨by omega, i_54⟩)]))⟩
            ·
              exact absurd c_10 (by decide +kernel)
          ·
            have hJ9 := g5_same hP hk1
            clear hP hPc hDc hFc ht hvm hz1 hk1 hP1 hD1
            have hP := hJ9
            clear hJ9
            refine lv_if_eq (tgt := 44) hx hb dX11_wander_34 (by decide +kernel) (fun c_69 => ?_) (fun c_69 => ?_)
            ·
              exact absurd c_69 (by decide +kernel)
            ·
              refine lv_aload_n hx hb dX11_wander_37 rfl (lv_at hl 0 rfl) ?_
              refine lv_bipush (v := (-3)) hx hb dX11_wander_38 (by decide +kernel) ?_
              obtain ⟨hPc, hDc, hFc⟩ := g5_sub3 (wc := [(a_o, (oc11 a_h a_im a_ke a_k a_wa a_th a_ha a_wk a_r a_x e_tl e_fd e_fpl a_wd e_wn a_rf e_lr)), (a_rf, (arI G 5 f_rf))]) hP hD hS hA [0, 1] (by decide +kernel) rfl
              refine va_calli (va_runV (As := [.int (-3)]) (rest := []) ⟨hx, hb, hml, hown, hts⟩ (x_refuse3 l G a_o a_rf a_h a_im a_ke a_k a_wa a_th a_ha a_wk a_r a_x a_wd H.size e_tl e_fd e_fpl e_wn e_lr f_rf h_e_tl h_e_wn) (cwV 1 hts gV_X11_104 rfl rfl rfl hv_X11_refuse ⟨Nat.le_of_ble_eq_true rfl, Nat.le_of_ble_eq_true rfl⟩) (g5_preV hPc hK hDc hN hT hS hFc (ci := 11) (q0 := 0) rfl rfl) rfl rfl hl.1 rfl (lv_room (Nat.le_of_ble_eq_true rfl)) dX11_wander_40 ⟨Nat.le_of_ble_eq_true rfl, Nat.le_of_ble_eq_true rfl⟩) hS (fun q _ h => hFc q h) hFc (fun r u t H locs ht hvm hw hB hz1 hk1 hS => ?_)
              obtain ⟨hP1, hD1⟩ := hB
              have hP1 := g5_ht ht hP1
              obtain ⟨z70, rfl, rfl⟩ := hw
              have hJ9 := va_join (wr := [(a_k, (oc5 a_h a_j a_pt e_ln e_se e_lh e_br e_we e_me e_ce e_wy e_ho e_ov)), (a_h, (oc1 e_wa e_le e_st e_fo e_lc a_l a_g a_b a_s a_p a_w e_gb a_bb)), (a_g, (oc6 6 5 a_gn e_g)), (a_gn, (arI G 30 f_g)), (a_b, (oc6 5 24 a_bn e_b)), (a_bn, (arI G 120 f_b)), (a_p, (oc6 8 5 a_pn e_p)), (a_pn, (arI G 40 f_p)), (a_bb, (arJ G 24 f_bb)), (a_j, (oc2 a_as a_sk)), (a_as, (arI G 8 f_as)), (a_sk, (arJ G 50 f_sk)), (a_l, (arW G 6 f_l)), (a_pt, (arI G 200 f_pt)), (a_wa, (oc10 a_h a_k a_bo)), (a_bo, (arJ G 24 f_bo)), (a_wd, (arI G 24 f_wd))]) hP hD [0, 1] [2, 3, 4, 5, 6, 7, 8, 9, 10, 11, 12, 13, 14, 15, 16, 17, 18] rfl rfl (by decide +kernel) (by decide +kernel) hk1 hFc hP1 hD1
              clear hP hD hPc hDc hFc ht hvm hz1 hk1 hP1 hD1
              obtain ⟨hP, hD⟩ := hJ9
              refine g5_rs [(a_k, (oc5 a_h a_j a_pt e_ln e_se e_lh e_br e_we e_me e_ce e_wy e_ho e_ov)), (a_h, (oc1 e_wa e_le e_st e_fo e_lc a_l a_g a_b a_s a_p a_w e_gb a_bb)), (a_g, (oc6 6 5 a_gn e_g)), (a_gn, (arI G 30 f_g)), (a_b, (oc6 5 24 a_bn e_b)), (a_bn, (arI G 120 f_b)), (a_p, (oc6 8 5 a_pn e_p)), (a_pn, (arI G 40 f_p)), (a_bb, (arJ G 24 f_bb)), (a_j, (oc2 a_as a_sk)), (a_as, (arI G 8 f_as)), (a_sk, (arJ G 50 f_sk)), (a_l, (arW G 6 f_l)), (a_pt, (arI G 200 f_pt)), (a_wa, (oc10 a_h a_k a_bo)), (a_bo, (arJ G 24 f_bo)), (a_wd, (arI G 24 f_wd)), (a_o, (oc11 a_h a_im a_ke a_k a_wa a_th a_ha a_wk a_r a_x e_tl e_fd e_fpl a_wd e_wn a_rf (-3))), (a_rf, (arI G 5 z70))] hP hD ?_
              clear hP hD
              intro hP hD
              exact W.iret (v := (-3)) hx hb hr (fun t ht hW => ⟨⟨(-3), [(a_o, (oc11 a_h a_im a_ke a_k a_wa a_th a_ha a_wk a_r a_x e_tl e_fd e_fpl a_wd e_wn a_rf (-3))), (a_rf, (arI G 5 z70)), (a_k, (oc5 a_h a_j a_pt e_ln e_se e_lh e_br e_we e_me e_ce e_wy e_ho e_ov)), (a_h, (oc1 e_wa e_le e_st e_fo e_lc a_l a_g a_b a_s a_p a_w e_gb a_bb)), (a_g, (oc6 6 5 a_gn e_g)), (a_gn, (arI G 30 f_g)), (a_b, (oc6 5 24 a_bn e_b)), (a_bn, (arI G 120 f_b)), (a_p, (oc6 8 5 a_pn e_p)), (a_pn, (arI G 40 f_p)), (a_bb, (arJ G 24 f_bb)), (a_j, (oc2 a_as a_sk)), (a_as, (arI G 8 f_as)), (a_sk, (arJ G 50 f_sk)), (a_l, (arW G 6 f_l)), (a_pt, (arI G 200 f_pt)), (a_wa, (oc10 a_h a_k a_bo)), (a_bo, (arJ G 24 f_bo)), (a_wd, (arI G 24 f_wd))], rfl, ⟨(-3), (-3), z70, e_wn, e_ln, e_se, e_lh, e_br, e_we, e_me, e_ce, e_wy, e_ho, e_ov, f_pt, f_as, f_sk, f_bo, f_wd, h_e_ov, h_e_wn, (wand_3 (f := f_ro) (g := f_wd) (n := e_wn) (s := p_s) (c := p_c) (wl_y e_hh (by omega) ⟨by omega, i_9⟩)).1.symm, (wand_3 (f := f_ro) (g := f_wd) (n := e_wn) (s := p_s) (c := p_c) (wl_y e_hh (by omega) ⟨by omega, i_9⟩)).2.symm, rfl, rfl⟩, by rw [ht]; exact hP.sub [17, 18, 0, 1, 2, 3, 4, 5, 6, 7, 8, 9, 10, 11, 12, 13, 14, 15, 16] rfl, hD.sub [17, 18, 0, 1, 2, 3, 4, 5, 6, 7, 8, 9, 10, 11, 12, 13, 14, 15, 16] (by decide +kernel) rfl⟩, hS.F ht⟩) hS.2.2 dX11_wander_43
        ·
          exact absurd c_7 (by decide +kernel)
      ·
        have hJ9 := g5_same hP hk1
        clear hP hPc hDc hFc ht hvm hz1 hk1 hP1 hD1
        have hP := hJ9
        clear hJ9
        refine lv_if_ne (tgt := 23) hx hb dX11_wander_14 (by decide +kernel) (fun c_71 => ?_) (fun c_71 => ?_)
        ·
          exact absurd c_71 (by decide +kernel)
        ·
          refine lv_aload_n hx hb dX11_wander_17 rfl (lv_at hl 0 rfl) ?_
          refine lv_iconst (v := (-1)) hx hb dX11_wander_18 (by decide +kernel) ?_
          obtain ⟨hPc, hDc, hFc⟩ := g5_sub3 (wc := [(a_o, (oc11 a_h a_im a_ke a_k a_wa a_th a_ha a_wk a_r a_x e_tl e_fd e_fpl a_wd e_wn a_rf e_lr)), (a_rf, (arI G 5 f_rf))]) hP hD hS hA [0, 1] (by decide +kernel) rfl
          refine va_calli (va_runV (As := [.int (-1)]) (rest := []) ⟨hx, hb, hml, hown, hts⟩ (x_refuse1 l G a_o a_rf a_h a_im a_ke a_k a_wa a_th a_ha a_wk a_r a_x a_wd H.size e_tl e_fd e_fpl e_wn e_lr f_rf h_e_tl h_e_wn) (cwV 1 hts gV_X11_104 rfl rfl rfl hv_X11_refuse ⟨Nat.le_of_ble_eq_true rfl, Nat.le_of_ble_eq_true rfl⟩) (g5_preV hPc hK hDc hN hT hS hFc (ci := 11) (q0 := 0) rfl rfl) rfl rfl hl.1 rfl (lv_room (Nat.le_of_ble_eq_true rfl)) dX11_wander_19 ⟨Nat.le_of_ble_eq_true rfl, Nat.le_of_ble_eq_true rfl⟩) hS (fun q _ h => hFc q h) hFc (fun r u t H locs ht hvm hw hB hz1 hk1 hS => ?_)
          obtain ⟨hP1, hD1⟩ := hB
          have hP1 := g5_ht ht hP1
          obtain ⟨z72, rfl, rfl⟩ := hw
          have hJ9 := va_join (wr := [(a_k, (oc5 a_h a_j a_pt e_ln e_se e_lh e_br e_we e_me e_ce e_wy e_ho e_ov)), (a_h, (oc1 e_wa e_le e_st e_fo e_lc a_l a_g a_b a_s a_p a_w e_gb a_bb)), (a_g, (oc6 6 5 a_gn e_g)), (a_gn, (arI G 30 f_g)), (a_b, (oc6 5 24 a_bn e_b)), (a_bn, (arI G 120 f_b)), (a_p, (oc6 8 5 a_pn e_p)), (a_pn, (arI G 40 f_p)), (a_bb, (arJ G 24 f_bb)), (a_j, (oc2 a_as a_sk)), (a_as, (arI G 8 f_as)), (a_sk, (arJ G 50 f_sk)), (a_l, (arW G 6 f_l)), (a_pt, (arI G 200 f_pt)), (a_wa, (oc10 a_h a_k a_bo)), (a_bo, (arJ G 24 f_bo)), (a_wd, (arI G 24 f_wd))]) hP hD [0, 1] [2, 3, 4, 5, 6, 7, 8, 9, 10, 11, 12, 13, 14, 15, 16, 17, 18] rfl rfl (by decide +kernel) (by decide +kernel) hk1 hFc hP1 hD1
          clear hP hD hPc hDc hFc ht hvm hz1 hk1 hP1 hD1
          obtain ⟨hP, hD⟩ := hJ9
          refine g5_rs [(a_k, (oc5 a_h a_j a_pt e_ln e_se e_lh e_br e_we e_me e_ce e_wy e_ho e_ov)), (a_h, (oc1 e_wa e_le e_st e_fo e_lc a_l a_g a_b a_s a_p a_w e_gb a_bb)), (a_g, (oc6 6 5 a_gn e_g)), (a_gn, (arI G 30 f_g)), (a_b, (oc6 5 24 a_bn e_b)), (a_bn, (arI G 120 f_b)), (a_p, (oc6 8 5 a_pn e_p)), (a_pn, (arI G 40 f_p)), (a_bb, (arJ G 24 f_bb)), (a_j, (oc2 a_as a_sk)), (a_as, (arI G 8 f_as)), (a_sk, (arJ G 50 f_sk)), (a_l, (arW G 6 f_l)), (a_pt, (arI G 200 f_pt)), (a_wa, (oc10 a_h a_k a_bo)), (a_bo, (arJ G 24 f_bo)), (a_wd, (arI G 24 f_wd)), (a_o, (oc11 a_h a_im a_ke a_k a_wa a_th a_ha a_wk a_r a_x e_tl e_fd e_fpl a_wd e_wn a_rf (-1))), (a_rf, (arI G 5 z72))] hP hD ?_
          clear hP hD
          intro hP hD
          exact W.iret (v := (-1)) hx hb hr (fun t ht hW => ⟨⟨(-1), [(a_o, (oc11 a_h a_im a_ke a_k a_wa a_th a_ha a_wk a_r a_x e_tl e_fd e_fpl a_wd e_wn a_rf (-1))), (a_rf, (arI G 5 z72)), (a_k, (oc5 a_h a_j a_pt e_ln e_se e_lh e_br e_we e_me e_ce e_wy e_ho e_ov)), (a_h, (oc1 e_wa e_le e_st e_fo e_lc a_l a_g a_b a_s a_p a_w e_gb a_bb)), (a_g, (oc6 6 5 a_gn e_g)), (a_gn, (arI G 30 f_g)), (a_b, (oc6 5 24 a_bn e_b)), (a_bn, (arI G 120 f_b)), (a_p, (oc6 8 5 a_pn e_p)), (a_pn, (arI G 40 f_p)), (a_bb, (arJ G 24 f_bb)), (a_j, (oc2 a_as a_sk)), (a_as, (arI G 8 f_as)), (a_sk, (arJ G 50 f_sk)), (a_l, (arW G 6 f_l)), (a_pt, (arI G 200 f_pt)), (a_wa, (oc10 a_h a_k a_bo)), (a_bo, (arJ G 24 f_bo)), (a_wd, (arI G 24 f_wd))], rfl, ⟨(-1), (-1), z72, e_wn, e_ln, e_se, e_lh, e_br, e_we, e_me, e_ce, e_wy, e_ho, e_ov, f_pt, f_as, f_sk, f_bo, f_wd, h_e_ov, h_e_wn, (wand_1 (f := f_ro) (g := f_wd) (n := e_wn) (s := p_s) (c := p_c) (fun q => by unfold okD at q; omega)).1.symm, (wand_1 (f := f_ro) (g := f_wd) (n := e_wn) (s := p_s) (c := p_c) (fun q => by unfold okD at q; omega)).2.symm, rfl, rfl⟩, by rw [ht]; exact hP.sub [17, 18, 0, 1, 2, 3, 4, 5, 6, 7, 8, 9, 10, 11, 12, 13, 14, 15, 16] rfl, hD.sub [17, 18, 0, 1, 2, 3, 4, 5, 6, 7, 8, 9, 10, 11, 12, 13, 14, 15, 16] (by decide +kernel) rfl⟩, hS.F ht⟩) hS.2.2 dX11_wander_22
set_option maxHeartbeats 4000000 in
set_option maxRecDepth 100000 in
theorem x_wanderXL (l : Launch) (G : g5_G) (a_o a_rf a_k a_h a_g a_gn a_b a_bn a_p a_pn a_bb a_j a_as a_sk a_l a_lo a_sr a_cd a_hd a_pt a_wa a_bo a_wd a_im a_ke a_th a_ha a_wk a_r a_x a_s a_w : Nat) (sz : Nat) (e_tl : Int32) (e_fd : Int32) (e_fpl : Int32) (e_wn : Int32) (e_lr : Int32) (e_le : Int32) (e_st : Int32) (e_fo : Int32) (e_lc : Int32) (e_g : Int32) (e_b : Int32) (e_p : Int32) (e_cl : Int32) (e_ln : Int32) (e_se : Int32) (e_lh : Int32) (e_br : Int32) (e_we : Int32) (e_me : Int32) (e_ce : Int32) (e_wy : Int32) (e_ho : Int32) (e_ov : Int32) (p_s : Int32) (p_c : Int32) (e_wa : Int64) (e_gb : Int64) (f_rf : Nat → Int32) (f_g : Nat → Int32) (f_b : Nat → Int32) (f_p : Nat → Int32) (f_bb : Nat → Int64) (f_as : Nat → Int32) (f_sk : Nat → Int64) (f_l : Nat → Option Nat) (f_sr : Nat → Int32) (f_cd : Nat → Int32) (f_hd : Nat → Int32) (f_pt : Nat → Int32) (f_bo : Nat → Int64) (f_wd : Nat → Int32) (f_ro : Nat → Int32) (n_sr : Nat) (n_cd : Nat) (n_hd : Nat) (h_e_tl : 0 ≤ e_tl.toInt ∧ e_tl.toInt ≤ 400) (h_e_wn : 0 ≤ e_wn.toInt ∧ e_wn.toInt ≤ 1) (h_e_g : 0 ≤ e_g.toInt ∧ e_g.toInt ≤ 6) (h_e_b : 0 ≤ e_b.toInt ∧ e_b.toInt ≤ 5) (h_e_p : 0 ≤ e_p.toInt ∧ e_p.toInt ≤ 8) (h_e_cl : 0 ≤ e_cl.toInt ∧ e_cl.toInt ≤ 12) (h_e_ov : 0 ≤ e_ov.toInt ∧ e_ov.toInt ≤ 1) (e_gk : gOK f_g e_g.toInt) (e_pk : gOK f_p e_p.toInt) (e_gi : inT e_gb f_g e_g.toInt) (e_f : 0 ≤ e_fo.toInt ∧ e_fo.toInt < e_lc.toInt ∧ e_lc.toInt ≤ 6) (e_a : f_l e_fo.toNatClampNeg = some a_lo) (e_hn : n_cd ≤ 400) (e_hs : ∀ j : Nat, j < n_sr → 0 ≤ (f_sr j).toInt ∧ (f_sr j).toInt ≤ (n_cd : Int)) (e_hk : ∀ j : Nat, j < n_cd → (f_cd j >>> (12 &&& 31)).toInt = 1 → (f_cd j &&& 4095).toInt < 8) (e_c : (e_cl.toInt : Int) ≤ (n_hd : Int) ∧ (e_cl.toInt + 1 : Int) ≤ (n_sr : Int)) (e_hh : QH e_wa e_le e_st f_ro) : Met l yX11_wander (wsG yX11_wander cX11_wander 9 (some .int)) ({ frames := 15, cells := 0, slots := 0, locals := 580 }) (va_Pc [.ref a_o, .int p_s, .int p_c] (g5_P G [(a_o, (oc11 a_h a_im a_ke a_k a_wa a_th a_ha a_wk a_r a_x e_tl e_fd e_fpl a_wd e_wn a_rf e_lr)), (a_rf, (arI G 5 f_rf)), (a_k, (oc5 a_h a_j a_pt e_ln e_se e_lh e_br e_we e_me e_ce e_wy e_ho e_ov)), (a_h, (oc1 e_wa e_le e_st e_fo e_lc a_l a_g a_b a_s a_p a_w e_gb a_bb)), (a_g, (oc6 6 5 a_gn e_g)), (a_gn, (arI G 30 f_g)), (a_b, (oc6 5 24 a_bn e_b)), (a_bn, (arI G 120 f_b)), (a_p, (oc6 8 5 a_pn e_p)), (a_pn, (arI G 40 f_p)), (a_bb, (arJ G 24 f_bb)), (a_j, (oc2 a_as a_sk)), (a_as, (arI G 8 f_as)), (a_sk, (arJ G 50 f_sk)), (a_l, (arW G 6 f_l)), (a_lo, (oc3 e_cl a_hd a_sr a_cd)), (a_sr, (arI G n_sr f_sr)), (a_cd, (arI G n_cd f_cd)), (a_hd, (arI G n_hd f_hd)), (a_pt, (arI G 200 f_pt)), (a_wa, (oc10 a_h a_k a_bo)), (a_bo, (arJ G 24 f_bo)), (a_wd, (arI G 24 f_wd))] sz)) (va_Qi (fun (r : Int32) (u : va_W) => (∃ (o_r : Int32) (o_lr : Int32) (o_rf : Nat → Int32) (o_wn : Int32) (o_ln : Int32) (o_se : Int32) (o_lh : Int32) (o_br : Int32) (o_we : Int32) (o_me : Int32) (o_ce : Int32) (o_wy : Int32) (o_ho : Int32) (o_ov : Int32) (o_pt : Nat → Int32) (o_as : Nat → Int32) (o_sk : Nat → Int64) (o_bo : Nat → Int64) (o_wd : Nat → Int32), (0 ≤ o_ov.toInt ∧ o_ov.toInt ≤ 1) ∧ (0 ≤ o_wn.toInt ∧ o_wn.toInt ≤ 1) ∧ (o_wd = swand f_ro f_wd p_s p_c) ∧ (o_wn = swanf f_ro e_wn p_s p_c) ∧ (r = o_r) ∧ (u = [(a_o, (oc11 a_h a_im a_ke a_k a_wa a_th a_ha a_wk a_r a_x e_tl e_fd e_fpl a_wd o_wn a_rf o_lr)), (a_rf, (arI G 5 o_rf)), (a_k, (oc5 a_h a_j a_pt o_ln o_se o_lh o_br o_we o_me o_ce o_wy o_ho o_ov)), (a_h, (oc1 e_wa e_le e_st e_fo e_lc a_l a_g a_b a_s a_p a_w e_gb a_bb)), (a_g, (oc6 6 5 a_gn e_g)), (a_gn, (arI G 30 f_g)), (a_b, (oc6 5 24 a_bn e_b)), (a_bn, (arI G 120 f_b)), (a_p, (oc6 8 5 a_pn e_p)), (a_pn, (arI G 40 f_p)), (a_bb, (arJ G 24 f_bb)), (a_j, (oc2 a_as a_sk)), (a_as, (arI G 8 o_as)), (a_sk, (arJ G 50 o_sk)), (a_l, (arW G 6 f_l)), (a_lo, (oc3 e_cl a_hd a_sr a_cd)), (a_sr, (arI G n_sr f_sr)), (a_cd, (arI G n_cd f_cd)), (a_hd, (arI G n_hd f_hd)), (a_pt, (arI G 200 o_pt)), (a_wa, (oc10 a_h a_k a_bo)), (a_bo, (arJ G 24 o_bo)), (a_wd, (arI G 24 o_wd))]))) (g5_B G (va_A [(a_o, (oc11 a_h a_im a_ke a_k a_wa a_th a_ha a_wk a_r a_x e_tl e_fd e_fpl a_wd e_wn a_rf e_lr)), (a_rf, (arI G 5 f_rf)), (a_k, (oc5 a_h a_j a_pt e_ln e_se e_lh e_br e_we e_me e_ce e_wy e_ho e_ov)), (a_h, (oc1 e_wa e_le e_st e_fo e_lc a_l a_g a_b a_s a_p a_w e_gb a_bb)), (a_g, (oc6 6 5 a_gn e_g)), (a_gn, (arI G 30 f_g)), (a_b, (oc6 5 24 a_bn e_b)), (a_bn, (arI G 120 f_b)), (a_p, (oc6 8 5 a_pn e_p)), (a_pn, (arI G 40 f_p)), (a_bb, (arJ G 24 f_bb)), (a_j, (oc2 a_as a_sk)), (a_as, (arI G 8 f_as)), (a_sk, (arJ G 50 f_sk)), (a_l, (arW G 6 f_l)), (a_lo, (oc3 e_cl a_hd a_sr a_cd)), (a_sr, (arI G n_sr f_sr)), (a_cd, (arI G n_cd f_cd)), (a_hd, (arI G n_hd f_hd)), (a_pt, (arI G 200 f_pt)), (a_wa, (oc10 a_h a_k a_bo)), (a_bo, (arJ G 24 f_bo)), (a_wd, (arI G 24 f_wd))] sz)) (va_A [(a_o, (oc11 a_h a_im a_ke a_k a_wa a_th a_ha a_wk a_r a_x e_tl e_fd e_fpl a_wd e_wn a_rf e_lr)), (a_rf, (arI G 5 f_rf)), (a_k, (oc5 a_h a_j a_pt e_ln e_se e_lh e_br e_we e_me e_ce e_wy e_ho e_ov)), (a_h, (oc1 e_wa e_le e_st e_fo e_lc a_l a_g a_b a_s a_p a_w e_gb a_bb)), (a_g, (oc6 6 5 a_gn e_g)), (a_gn, (arI G 30 f_g)), (a_b, (oc6 5 24 a_bn e_b)), (a_bn, (arI G 120 f_b)), (a_p, (oc6 8 5 a_pn e_p)), (a_pn, (arI G 40 f_p)), (a_bb, (arJ G 24 f_bb)), (a_j, (oc2 a_as a_sk)), (a_as, (arI G 8 f_as)), (a_sk, (arJ G 50 f_sk)), (a_l, (arW G 6 f_l)), (a_lo, (oc3 e_cl a_hd a_sr a_cd)), (a_sr, (arI G n_sr f_sr)), (a_cd, (arI G n_cd f_cd)), (a_hd, (arI G n_hd f_hd)), (a_pt, (arI G 200 f_pt)), (a_wa, (oc10 a_h a_k a_bo)), (a_bo, (arJ G 24 f_bo)), (a_wd, (arI G 24 f_wd))] sz)) 0 0 (va_A [(a_o, (oc11 a_h a_im a_ke a_k a_wa a_th a_ha a_wk a_r a_x e_tl e_fd e_fpl a_wd e_wn a_rf e_lr)), (a_rf, (arI G 5 f_rf)), (a_k, (oc5 a_h a_j a_pt e_ln e_se e_lh e_br e_we e_me e_ce e_wy e_ho e_ov)), (a_h, (oc1 e_wa e_le e_st e_fo e_lc a_l a_g a_b a_s a_p a_w e_gb a_bb)), (a_g, (oc6 6 5 a_gn e_g)), (a_gn, (arI G 30 f_g)), (a_b, (oc6 5 24 a_bn e_b)), (a_bn, (arI G 120 f_b)), (a_p, (oc6 8 5 a_pn e_p)), (a_pn, (arI G 40 f_p)), (a_bb, (arJ G 24 f_bb)), (a_j, (oc2 a_as a_sk)), (a_as, (arI G 8 f_as)), (a_sk, (arJ G 50 f_sk)), (a_l, (arW G 6 f_l)), (a_lo, (oc3 e_cl a_hd a_sr a_cd)), (a_sr, (arI G n_sr f_sr)), (a_cd, (arI G n_cd f_cd)), (a_hd, (arI G n_hd f_hd)), (a_pt, (arI G 200 f_pt)), (a_wa, (oc10 a_h a_k a_bo)), (a_bo, (arJ G 24 f_bo)), (a_wd, (arI G 24 f_wd))] sz) := by
  refine Met.ofW (cc := cX11_wander) (maxL := 9) (ret := (some .int)) (by decide +kernel) rfl ?_
  intro p e s m args below meth c s₁ B hml hv
  obtain ⟨rfl, hsz, hP, hK, hD0, hN, hT⟩ := hv
  have hx := B.exec
  have hb := B.bytes
  have hr := B.returns
  have hts : ∀ w ∈ tblG, w.before _ s = true := fun w h => atoms_spec (ws := (wsG yX11_wander cX11_wander 9 (some .int))) B.pre w (List.mem_cons_of_mem _ h)
  have hown : s.vm.findClass RX11 = some m.cls := findClass_of_methodNamed B.named
  have hlocks := B.notSynchronized
  subst hsz
  have hD := hD0.self (sz := s.heap.size)
  generalize hAe : va_A [(a_o, (oc11 a_h a_im a_ke a_k a_wa a_th a_ha a_wk a_r a_x e_tl e_fd e_fpl a_wd e_wn a_rf e_lr)), (a_rf, (arI G 5 f_rf)), (a_k, (oc5 a_h a_j a_pt e_ln e_se e_lh e_br e_we e_me e_ce e_wy e_ho e_ov)), (a_h, (oc1 e_wa e_le e_st e_fo e_lc a_l a_g a_b a_s a_p a_w e_gb a_bb)), (a_g, (oc6 6 5 a_gn e_g)), (a_gn, (arI G 30 f_g)), (a_b, (oc6 5 24 a_bn e_b)), (a_bn, (arI G 120 f_b)), (a_p, (oc6 8 5 a_pn e_p)), (a_pn, (arI G 40 f_p)), (a_bb, (arJ G 24 f_bb)), (a_j, (oc2 a_as a_sk)), (a_as, (arI G 8 f_as)), (a_sk, (arJ G 50 f_sk)), (a_l, (arW G 6 f_l)), (a_lo, (oc3 e_cl a_hd a_sr a_cd)), (a_sr, (arI G n_sr f_sr)), (a_cd, (arI G n_cd f_cd)), (a_hd, (arI G n_hd f_hd)), (a_pt, (arI G 200 f_pt)), (a_wa, (oc10 a_h a_k a_bo)), (a_bo, (arJ G 24 f_bo)), (a_wd, (arI G 24 f_wd))] s.heap.size = A at hD hT ⊢
  have hA : ∀ q : Nat, s.heap.size ≤ q → A q := fun q h => by rw [← hAe]; exact Or.inr h
  have hS : va_S A s.heap s.heap [] := va_S.rf
  replace hP : va_P G.1 vwCl [(a_o, (oc11 a_h a_im a_ke a_k a_wa a_th a_ha a_wk a_r a_x e_tl e_fd e_fpl a_wd e_wn a_rf e_lr)), (a_rf, (arI G 5 f_rf)), (a_k, (oc5 a_h a_j a_pt e_ln e_se e_lh e_br e_we e_me e_ce e_wy e_ho e_ov)), (a_h, (oc1 e_wa e_le e_st e_fo e_lc a_l a_g a_b a_s a_p a_w e_gb a_bb)), (a_g, (oc6 6 5 a_gn e_g)), (a_gn, (arI G 30 f_g)), (a_b, (oc6 5 24 a_bn e_b)), (a_bn, (arI G 120 f_b)), (a_p, (oc6 8 5 a_pn e_p)), (a_pn, (arI G 40 f_p)), (a_bb, (arJ G 24 f_bb)), (a_j, (oc2 a_as a_sk)), (a_as, (arI G 8 f_as)), (a_sk, (arJ G 50 f_sk)), (a_l, (arW G 6 f_l)), (a_lo, (oc3 e_cl a_hd a_sr a_cd)), (a_sr, (arI G n_sr f_sr)), (a_cd, (arI G n_cd f_cd)), (a_hd, (arI G n_hd f_hd)), (a_pt, (arI G 200 f_pt)), (a_wa, (oc10 a_h a_k a_bo)), (a_bo, (arJ G 24 f_bo)), (a_wd, (arI G 24 f_wd))] s.heap := hP
  have hl := lv_entry ([.ref a_o, .int p_s, .int p_c]) (n := 9) (Nat.le_of_ble_eq_true rfl)
  rw [lg_entry_eq]
  generalize (lg_sl ([.ref a_o, .int p_s, .int p_c]) ++ List.replicate (9 - (lg_sl ([.ref a_o, .int p_s, .int p_c])).length) Slot.unset).toArray = ls at hl ⊢
  replace hl : lv_has ls 9 [(0, .ref a_o), (1, .int p_s), (2, .int p_c)] := hl
  refine lv_iload_n hx hb dX11_wander_0 rfl (lv_at hl 1 rfl) ?_
  refine lv_if_lt (tgt := 17) hx hb dX11_wander_1 (by decide +kernel) (fun c_1 => ?_) (fun c_1 => ?_)
  ·
    have i_1 : p_s.toInt < 0 := g5_lt (a := p_s.toInt) (b := 0) rfl (by decide +kernel) c_1
    refine lv_aload_n hx hb dX11_wander_17 rfl (lv_at hl 0 rfl) ?_
    refine lv_iconst (v := (-1)) hx hb dX11_wander_18 (by decide +kernel) ?_
    obtain ⟨hPc, hDc, hFc⟩ := g5_sub3 (wc := [(a_o, (oc11 a_h a_im a_ke a_k a_wa a_th a_ha a_wk a_r a_x e_tl e_fd e_fpl a_wd e_wn a_rf e_lr)), (a_rf, (arI G 5 f_rf))]) hP hD hS hA [0, 1] (by decide +kernel) rfl
    refine va_calli (va_runV (As := [.int (-1)]) (rest := []) ⟨hx, hb, hml, hown, hts⟩ (x_refuse1 l G a_o a_rf a_h a_im a_ke a_k a_wa a_th a_ha a_wk a_r a_x a_wd s.heap.size e_tl e_fd e_fpl e_wn e_lr f_rf h_e_tl h_e_wn) (cwV 1 hts gV_X11_104 rfl rfl rfl hv_X11_refuse ⟨Nat.le_of_ble_eq_true rfl, Nat.le_of_ble_eq_true rfl⟩) (g5_preV hPc hK hDc hN hT hS hFc (ci := 11) (q0 := 0) rfl rfl) rfl rfl hl.1 rfl (lv_room (Nat.le_of_ble_eq_true rfl)) dX11_wander_19 ⟨Nat.le_of_ble_eq_true rfl, Nat.le_of_ble_eq_true rfl⟩) hS (fun q _ h => hFc q h) hFc (fun r u t H locs ht hvm hw hB hz1 hk1 hS => ?_)
    obtain ⟨hP1, hD1⟩ := hB
    have hP1 := g5_ht ht hP1
    obtain ⟨z2, rfl, rfl⟩ := hw
    have hJ9 := va_join (wr := [(a_k, (oc5 a_h a_j a_pt e_ln e_se e_lh e_br e_we e_me e_ce e_wy e_ho e_ov)), (a_h, (oc1 e_wa e_le e_st e_fo e_lc a_l a_g a_b a_s a_p a_w e_gb a_bb)), (a_g, (oc6 6 5 a_gn e_g)), (a_gn, (arI G 30 f_g)), (a_b, (oc6 5 24 a_bn e_b)), (a_bn, (arI G 120 f_b)), (a_p, (oc6 8 5 a_pn e_p)), (a_pn, (arI G 40 f_p)), (a_bb, (arJ G 24 f_bb)), (a_j, (oc2 a_as a_sk)), (a_as, (arI G 8 f_as)), (a_sk, (arJ G 50 f_sk)), (a_l, (arW G 6 f_l)), (a_lo, (oc3 e_cl a_hd a_sr a_cd)), (a_sr, (arI G n_sr f_sr)), (a_cd, (arI G n_cd f_cd)), (a_hd, (arI G n_hd f_hd)), (a_pt, (arI G 200 f_pt)), (a_wa, (oc10 a_h a_k a_bo)), (a_bo, (arJ G 24 f_bo)), (a_wd, (arI G 24 f_wd))]) hP hD [0, 1] [2, 3, 4, 5, 6, 7, 8, 9, 10, 11, 12, 13, 14, 15, 16, 17, 18, 19, 20, 21, 22] rfl rfl (by decide +kernel) (by decide +kernel) hk1 hFc hP1 hD1
    clear hP hD hPc hDc hFc ht hvm hz1 hk1 hP1 hD1
    obtain ⟨hP, hD⟩ := hJ9
    refine g5_rs [(a_k, (oc5 a_h a_j a_pt e_ln e_se e_lh e_br e_we e_me e_ce e_wy e_ho e_ov)), (a_h, (oc1 e_wa e_le e_st e_fo e_lc a_l a_g a_b a_s a_p a_w e_gb a_bb)), (a_g, (oc6 6 5 a_gn e_g)), (a_gn, (arI G 30 f_g)), (a_b, (oc6 5 24 a_bn e_b)), (a_bn, (arI G 120 f_b)), (a_p, (oc6 8 5 a_pn e_p)), (a_pn, (arI G 40 f_p)), (a_bb, (arJ G 24 f_bb)), (a_j, (oc2 a_as a_sk)), (a_as, (arI G 8 f_as)), (a_sk, (arJ G 50 f_sk)), (a_l, (arW G 6 f_l)), (a_lo, (oc3 e_cl a_hd a_sr a_cd)), (a_sr, (arI G n_sr f_sr)), (a_cd, (arI G n_cd f_cd)), (a_hd, (arI G n_hd f_hd)), (a_pt, (arI G 200 f_pt)), (a_wa, (oc10 a_h a_k a_bo)), (a_bo, (arJ G 24 f_bo)), (a_wd, (arI G 24 f_wd)), (a_o, (oc11 a_h a_im a_ke a_k a_wa a_th a_ha a_wk a_r a_x e_tl e_fd e_fpl a_wd e_wn a_rf (-1))), (a_rf, (arI G 5 z2))] hP hD ?_
    clear hP hD
    intro hP hD
    exact W.iret (v := (-1)) hx hb hr (fun t ht hW => ⟨⟨(-1), [(a_o, (oc11 a_h a_im a_ke a_k a_wa a_th a_ha a_wk a_r a_x e_tl e_fd e_fpl a_wd e_wn a_rf (-1))), (a_rf, (arI G 5 z2)), (a_k, (oc5 a_h a_j a_pt e_ln e_se e_lh e_br e_we e_me e_ce e_wy e_ho e_ov)), (a_h, (oc1 e_wa e_le e_st e_fo e_lc a_l a_g a_b a_s a_p a_w e_gb a_bb)), (a_g, (oc6 6 5 a_gn e_g)), (a_gn, (arI G 30 f_g)), (a_b, (oc6 5 24 a_bn e_b)), (a_bn, (arI G 120 f_b)), (a_p, (oc6 8 5 a_pn e_p)), (a_pn, (arI G 40 f_p)), (a_bb, (arJ G 24 f_bb)), (a_j, (oc2 a_as a_sk)), (a_as, (arI G 8 f_as)), (a_sk, (arJ G 50 f_sk)), (a_l, (arW G 6 f_l)), (a_lo, (oc3 e_cl a_hd a_sr a_cd)), (a_sr, (arI G n_sr f_sr)), (a_cd, (arI G n_cd f_cd)), (a_hd, (arI G n_hd f_hd)), (a_pt, (arI G 200 f_pt)), (a_wa, (oc10 a_h a_k a_bo)), (a_bo, (arJ G 24 f_bo)), (a_wd, (arI G 24 f_wd))], rfl, ⟨(-1), (-1), z2, e_wn, e_ln, e_se, e_lh, e_br, e_we, e_me, e_ce, e_wy, e_ho, e_ov, f_pt, f_as, f_sk, f_bo, f_wd, h_e_ov, h_e_wn, (wand_1 (f := f_ro) (g := f_wd) (n := e_wn) (s := p_s) (c := p_c) (fun q => by unfold okD at q; omega)).1.symm, (wand_1 (f := f_ro) (g := f_wd) (n := e_wn) (s := p_s) (c := p_c) (fun q => by unfold okD at q; omega)).2.symm, rfl, rfl⟩, by rw [ht]; exact hP.sub [21, 22, 0, 1, 2, 3, 4, 5, 6, 7, 8, 9, 10, 11, 12, 13, 14, 15, 16, 17, 18, 19, 20] rfl, hD.sub [21, 22, 0, 1, 2, 3, 4, 5, 6, 7, 8, 9, 10, 11, 12, 13, 14, 15, 16, 17, 18, 19, 20] (by decide +kernel) rfl⟩, hS.F ht⟩) hS.2.2 dX11_wander_22
  ·
    have i_1 : p_s.toInt ≥ 0 := g5_ltN (a := p_s.toInt) (b := 0) rfl (by decide +kernel) c_1
    refine lv_iload_n hx hb dX11_wander_4 rfl (lv_at hl 1 rfl) ?_
    refine lv_ldc (v := 1000000) hx hb hown (hts _ ki_X11_181) dX11_wander_5 ?_
    refine lv_icmp_gt (tgt := 17) hx hb dX11_wander_7 (by decide +kernel) (fun c_3 => ?_) (fun c_3 => ?_)
    ·
      have i_3 : p_s.toInt > 1000000 := g5_gt (a := p_s.toInt) (b := 1000000) rfl (by decide +kernel) c_3
      refine lv_aload_n hx hb dX11_wander_17 rfl (lv_at hl 0 rfl) ?_
      refine lv_iconst (v := (-1)) hx hb dX11_wander_18 (by decide +kernel) ?_
      obtain ⟨hPc, hDc, hFc⟩ := g5_sub3 (wc := [(a_o, (oc11 a_h a_im a_ke a_k a_wa a_th a_ha a_wk a_r a_x e_tl e_fd e_fpl a_wd e_wn a_rf e_lr)), (a_rf, (arI G 5 f_rf))]) hP hD hS hA [0, 1] (by decide +kernel) rfl
      refine va_calli (va_runV (As := [.int (-1)]) (rest := []) ⟨hx, hb, hml, hown, hts⟩ (x_refuse1 l G a_o a_rf a_h a_im a_ke a_k a_wa a_th a_ha a_wk a_r a_x a_wd s.heap.size e_tl e_fd e_fpl e_wn e_lr f_rf h_e_tl h_e_wn) (cwV 1 hts gV_X11_104 rfl rfl rfl hv_X11_refuse ⟨Nat.le_of_ble_eq_true rfl, Nat.le_of_ble_eq_true rfl⟩) (g5_preV hPc hK hDc hN hT hS hFc (ci := 11) (q0 := 0) rfl rfl) rfl rfl hl.1 rfl (lv_room (Nat.le_of_ble_eq_true rfl)) dX11_wander_19 ⟨Nat.le_of_ble_eq_true rfl, Nat.le_of_ble_eq_true rfl⟩) hS (fun q _ h => hFc q h) hFc (fun r u t H locs ht hvm hw hB hz1 hk1 hS => ?_)
      obtain ⟨hP1, hD1⟩ := hB
      have hP1 := g5_ht ht hP1
      obtain ⟨z4, rfl, rfl⟩ := hw
      have hJ9 := va_join (wr := [(a_k, (oc5 a_h a_j a_pt e_ln e_se e_lh e_br e_we e_me e_ce e_wy e_ho e_ov)), (a_h, (oc1 e_wa e_le e_st e_fo e_lc a_l a_g a_b a_s a_p a_w e_gb a_bb)), (a_g, (oc6 6 5 a_gn e_g)), (a_gn, (arI G 30 f_g)), (a_b, (oc6 5 24 a_bn e_b)), (a_bn, (arI G 120 f_b)), (a_p, (oc6 8 5 a_pn e_p)), (a_pn, (arI G 40 f_p)), (a_bb, (arJ G 24 f_bb)), (a_j, (oc2 a_as a_sk)), (a_as, (arI G 8 f_as)), (a_sk, (arJ G 50 f_sk)), (a_l, (arW G 6 f_l)), (a_lo, (oc3 e_cl a_hd a_sr a_cd)), (a_sr, (arI G n_sr f_sr)), (a_cd, (arI G n_cd f_cd)), (a_hd, (arI G n_hd f_hd)), (a_pt, (arI G 200 f_pt)), (a_wa, (oc10 a_h a_k a_bo)), (a_bo, (arJ G 24 f_bo)), (a_wd, (arI G 24 f_wd))]) hP hD [0, 1] [2, 3, 4, 5, 6, 7, 8, 9, 10, 11, 12, 13, 14, 15, 16, 17, 18, 19, 20, 21, 22] rfl rfl (by decide +kernel) (by decide +kernel) hk1 hFc hP1 hD1
      clear hP hD hPc hDc hFc ht hvm hz1 hk1 hP1 hD1
      obtain ⟨hP, hD⟩ := hJ9
      refine g5_rs [(a_k, (oc5 a_h a_j a_pt e_ln e_se e_lh e_br e_we e_me e_ce e_wy e_ho e_ov)), (a_h, (oc1 e_wa e_le e_st e_fo e_lc a_l a_g a_b a_s a_p a_w e_gb a_bb)), (a_g, (oc6 6 5 a_gn e_g)), (a_gn, (arI G 30 f_g)), (a_b, (oc6 5 24 a_bn e_b)), (a_bn, (arI G 120 f_b)), (a_p, (oc6 8 5 a_pn e_p)), (a_pn, (arI G 40 f_p)), (a_bb, (arJ G 24 f_bb)), (a_j, (oc2 a_as a_sk)), (a_as, (arI G 8 f_as)), (a_sk, (arJ G 50 f_sk)), (a_l, (arW G 6 f_l)), (a_lo, (oc3 e_cl a_hd a_sr a_cd)), (a_sr, (arI G n_sr f_sr)), (a_cd, (arI G n_cd f_cd)), (a_hd, (arI G n_hd f_hd)), (a_pt, (arI G 200 f_pt)), (a_wa, (oc10 a_h a_k a_bo)), (a_bo, (arJ G 24 f_bo)), (a_wd, (arI G 24 f_wd)), (a_o, (oc11 a_h a_im a_ke a_k a_wa a_th a_ha a_wk a_r a_x e_tl e_fd e_fpl a_wd e_wn a_rf (-1))), (a_rf, (arI G 5 z4))] hP hD ?_
      clear hP hD
      intro hP hD
      exact W.iret (v := (-1)) hx hb hr (fun t ht hW => ⟨⟨(-1), [(a_o, (oc11 a_h a_im a_ke a_k a_wa a_th a_ha a_wk a_r a_x e_tl e_fd e_fpl a_wd e_wn a_rf (-1))), (a_rf, (arI G 5 z4)), (a_k, (oc5 a_h a_j a_pt e_ln e_se e_lh e_br e_we e_me e_ce e_wy e_ho e_ov)), (a_h, (oc1 e_wa e_le e_st e_fo e_lc a_l a_g a_b a_s a_p a_w e_gb a_bb)), (a_g, (oc6 6 5 a_gn e_g)), (a_gn, (arI G 30 f_g)), (a_b, (oc6 5 24 a_bn e_b)), (a_bn, (arI G 120 f_b)), (a_p, (oc6 8 5 a_pn e_p)), (a_pn, (arI G 40 f_p)), (a_bb, (arJ G 24 f_bb)), (a_j, (oc2 a_as a_sk)), (a_as, (arI G 8 f_as)), (a_sk, (arJ G 50 f_sk)), (a_l, (arW G 6 f_l)), (a_lo, (oc3 e_cl a_hd a_sr a_cd)), (a_sr, (arI G n_sr f_sr)), (a_cd, (arI G n_cd f_cd)), (a_hd, (arI G n_hd f_hd)), (a_pt, (arI G 200 f_pt)), (a_wa, (oc10 a_h a_k a_bo)), (a_bo, (arJ G 24 f_bo)), (a_wd, (arI G 24 f_wd))], rfl, ⟨(-1), (-1), z4, e_wn, e_ln, e_se, e_lh, e_br, e_we, e_me, e_ce, e_wy, e_ho, e_ov, f_pt, f_as, f_sk, f_bo, f_wd, h_e_ov, h_e_wn, (wand_1 (f := f_ro) (g := f_wd) (n := e_wn) (s := p_s) (c := p_c) (fun q => by unfold okD at q; omega)).1.symm, (wand_1 (f := f_ro) (g := f_wd) (n := e_wn) (s := p_s) (c := p_c) (fun q => by unfold okD at q; omega)).2.symm, rfl, rfl⟩, by rw [ht]; exact hP.sub [21, 22, 0, 1, 2, 3, 4, 5, 6, 7, 8, 9, 10, 11, 12, 13, 14, 15, 16, 17, 18, 19, 20] rfl, hD.sub [21, 22, 0, 1, 2, 3, 4, 5, 6, 7, 8, 9, 10, 11, 12, 13, 14, 15, 16, 17, 18, 19, 20] (by decide +kernel) rfl⟩, hS.F ht⟩) hS.2.2 dX11_wander_22
    ·
      have i_3 : p_s.toInt ≤ 1000000 := g5_gtN (a := p_s.toInt) (b := 1000000) rfl (by decide +kernel) c_3
      refine lv_iload_n hx hb dX11_wander_10 rfl (lv_at hl 2 rfl) ?_
      obtain ⟨hPc, hDc, hFc⟩ := g5_sub3 (wc := []) hP hD hS hA [] (by decide +kernel) rfl
      refine va_calli (va_runS (As := [.int p_c]) (rest := []) ⟨hx, hb, hml, hown, hts⟩ (x_isCellX l G s.heap.size p_c) (va_cwS 1 hts gS_X11_97 rfl rfl rfl hs_X11_isCell ⟨Nat.le_of_ble_eq_true rfl, Nat.le_of_ble_eq_true rfl⟩) (g5_preS hPc hK hDc hN hT hS hFc) rfl rfl hl.1 rfl (lv_room (Nat.le_of_ble_eq_true rfl)) dX11_wander_11 ⟨Nat.le_of_ble_eq_true rfl, Nat.le_of_ble_eq_true rfl⟩) hS (fun q _ h => hFc q h) hFc (fun r u t H locs ht hvm hw hB hz1 hk1 hS => ?_)
      obtain ⟨hP1, hD1⟩ := hB
      have hP1 := g5_ht ht hP1
      rcases hw with ⟨(i_5 : 0 ≤ p_c.toInt ∧ p_c.toInt ≤ 63), rfl, rfl⟩ | ⟨(i_6 : p_c.toInt < 0 ∨ 63 < p_c.toInt), rfl, rfl⟩
      ·
        have hJ9 := g5_same hP hk1
        clear hP hPc hDc hFc ht hvm hz1 hk1 hP1 hD1
        have hP := hJ9
        clear hJ9
        refine lv_if_ne (tgt := 23) hx hb dX11_wander_14 (by decide +kernel) (fun c_7 => ?_) (fun c_7 => ?_)
        ·
          refine lv_aload_n hx hb dX11_wander_23 rfl (lv_at hl 0 rfl) ?_
          refine va_get (D := G.1) (ci := 11) (v := .ref a_h) (C := RX11) (T := TX11) (N := 17) hx hb hts inG_X11 hown hK hP 0 rfl rfl 0 (by decide +kernel) (hts _ fl_X11_12) (fun _ h9 => h9) rfl dX11_wander_24 ?_
          refine va_get (D := G.1) (ci := 1) (v := .long e_wa) (C := RX1) (T := TX1) (N := 13) hx hb hts inG_X1 hown hK hP 3 rfl rfl 0 (by decide +kernel) (hts _ fl_X11_111) (fun _ h9 => h9) rfl dX11_wander_27 ?_
          refine lv_iload_n hx hb dX11_wander_30 rfl (lv_at hl 2 rfl) ?_
          refine W.eq (g2 := F0 m 31 ls [.int p_c, .long e_wa]) rfl ?_
          obtain ⟨hPc, hDc, hFc⟩ := g5_sub3 (wc := []) hP hD hS hA [] (by decide +kernel) rfl
          refine va_calli (va_runS (As := [.long e_wa, .int p_c]) (rest := []) ⟨hx, hb, hml, hown, hts⟩ (k_isOn l G H.size p_c e_wa i_5) (va_cwS 2 hts gS_X11_115 rfl rfl rfl hs_X11_isOn ⟨Nat.le_of_ble_eq_true rfl, Nat.le_of_ble_eq_true rfl⟩) (g5_preS hPc hK hDc hN hT hS hFc) rfl rfl hl.1 rfl (lv_room (Nat.le_of_ble_eq_true rfl)) dX11_wander_31 ⟨Nat.le_of_ble_eq_true rfl, Nat.le_of_ble_eq_true rfl⟩) hS (fun q _ h => hFc q h) hFc (fun r u t H locs ht hvm hw hB hz1 hk1 hS => ?_)
          obtain ⟨hP1, hD1⟩ := hB
          have hP1 := g5_ht ht hP1
          rcases hw with ⟨(i_8 : onB e_wa p_c.toInt = false), rfl, rfl⟩ | ⟨(i_9 : onB e_wa p_c.toInt = true), rfl, rfl⟩
          ·
            have hJ9 := g5_same hP hk1
            clear hP hPc hDc hFc ht hvm hz1 hk1 hP1 hD1
            have hP := hJ9
            clear hJ9
            refine lv_if_eq (tgt := 44) hx hb dX11_wander_34 (by decide +kernel) (fun c_10 => ?_) (fun c_10 => ?_)
            ·
              refine lv_aload_n hx hb dX11_wander_44 rfl (lv_at hl 0 rfl) ?_
              refine va_get (D := G.1) (ci := 11) (v := .ref a_wa) (C := RX11) (T := TX11) (N := 17) hx hb hts inG_X11 hown hK hP 0 rfl rfl 4 (by decide +kernel) (hts _ fl_X11_38) (fun _ h9 => h9) rfl dX11_wander_45 ?_
              obtain ⟨hPc, hDc, hFc⟩ := g5_sub3 (wc := [(a_k, (oc5 a_h a_j a_pt e_ln e_se e_lh e_br e_we e_me e_ce e_wy e_ho e_ov)), (a_h, (oc1 e_wa e_le e_st e_fo e_lc a_l a_g a_b a_s a_p a_w e_gb a_bb)), (a_g, (oc6 6 5 a_gn e_g)), (a_gn, (arI G 30 f_g)), (a_b, (oc6 5 24 a_bn e_b)), (a_bn, (arI G 120 f_b)), (a_p, (oc6 8 5 a_pn e_p)), (a_pn, (arI G 40 f_p)), (a_bb, (arJ G 24 f_bb)), (a_j, (oc2 a_as a_sk)), (a_as, (arI G 8 f_as)), (a_sk, (arJ G 50 f_sk)), (a_l, (arW G 6 f_l)), (a_lo, (oc3 e_cl a_hd a_sr a_cd)), (a_sr, (arI G n_sr f_sr)), (a_cd, (arI G n_cd f_cd)), (a_hd, (arI G n_hd f_hd)), (a_pt, (arI G 200 f_pt)), (a_wa, (oc10 a_h a_k a_bo)), (a_bo, (arJ G 24 f_bo))]) hP hD hS hA [2, 3, 4, 5, 6, 7, 8, 9, 10, 11, 12, 13, 14, 15, 16, 17, 18, 19, 20, 21] (by decide +kernel) rfl
              refine va_callv (va_runV (As := []) (rest := []) ⟨hx, hb, hml, hown, hts⟩ (w_lookAroundL l G a_k a_h a_g a_gn a_b a_bn a_p a_pn a_bb a_j a_as a_sk a_l a_lo a_sr a_cd a_hd a_pt a_wa a_bo a_s a_w H.size e_le e_st e_fo e_lc e_g e_b e_p e_cl e_ln e_se e_lh e_br e_we e_me e_ce e_wy e_ho e_ov e_wa e_gb f_g f_b f_p f_bb f_as f_sk f_l f_sr f_cd f_hd f_pt f_bo n_sr n_cd n_hd h_e_g h_e_b h_e_p h_e_cl h_e_ov (e_gk) (e_pk) (e_gi) (e_f) (e_a) (e_hn) (e_hs) (e_hk) (e_c)) (cwV 0 hts gV_X11_254 rfl rfl rfl hv_X10_lookAround ⟨Nat.le_of_ble_eq_true rfl, Nat.le_of_ble_eq_true rfl⟩) (g5_preV hPc hK hDc hN hT hS hFc (ci := 10) (q0 := 18) rfl rfl) rfl rfl hl.1 rfl (lv_room (Nat.le_of_ble_eq_true rfl)) dX11_wander_48 ⟨Nat.le_of_ble_eq_true rfl, Nat.le_of_ble_eq_true rfl⟩) hS (fun q _ h => hFc q h) hFc (fun u t H locs ht hvm hw hB hz1 hk1 hS => ?_)
              obtain ⟨hP1, hD1⟩ := hB
              have hP1 := g5_ht ht hP1
              obtain ⟨z12, z13, z14, z15, z16, z17, z18, z19, z20, z21, z22, z23, z24, z25, (i_11 : 0 ≤ z21.toInt ∧ z21.toInt ≤ 1), rfl⟩ := hw
              have hJ9 := va_join (wr := [(a_o, (oc11 a_h a_im a_ke a_k a_wa a_th a_ha a_wk a_r a_x e_tl e_fd e_fpl a_wd e_wn a_rf e_lr)), (a_rf, (arI G 5 f_rf)), (a_wd, (arI G 24 f_wd))]) hP hD [2, 3, 4, 5, 6, 7, 8, 9, 10, 11, 12, 13, 14, 15, 16, 17, 18, 19, 20, 21] [0, 1, 22] rfl rfl (by decide +kernel) (by decide +kernel) hk1 hFc hP1 hD1
              clear hP hD hPc hDc hFc ht hvm hz1 hk1 hP1 hD1
              obtain ⟨hP, hD⟩ := hJ9
              refine g5_rs [(a_o, (oc11 a_h a_im a_ke a_k a_wa a_th a_ha a_wk a_r a_x e_tl e_fd e_fpl a_wd e_wn a_rf e_lr)), (a_rf, (arI G 5 f_rf)), (a_wd, (arI G 24 f_wd)), (a_k, (oc5 a_h a_j a_pt z12 z13 z14 z15 z16 z17 z18 z19 z20 z21)), (a_h, (oc1 e_wa e_le e_st e_fo e_lc a_l a_g a_b a_s a_p a_w e_gb a_bb)), (a_g, (oc6 6 5 a_gn e_g)), (a_gn, (arI G 30 f_g)), (a_b, (oc6 5 24 a_bn e_b)), (a_bn, (arI G 120 f_b)), (a_p, (oc6 8 5 a_pn e_p)), (a_pn, (arI G 40 f_p)), (a_bb, (arJ G 24 f_bb)), (a_j, (oc2 a_as a_sk)), (a_as, (arI G 8 z23)), (a_sk, (arJ G 50 z24)), (a_l, (arW G 6 f_l)), (a_lo, (oc3 e_cl a_hd a_sr a_cd)), (a_sr, (arI G n_sr f_sr)), (a_cd, (arI G n_cd f_cd)), (a_hd, (arI G n_hd f_hd)), (a_pt, (arI G 200 z22)), (a_wa, (oc10 a_h a_k a_bo)), (a_bo, (arJ G 24 z25))] hP hD ?_
              clear hP hD
              intro hP hD
              refine lv_aload_n hx hb dX11_wander_51 rfl (lv_at hl 0 rfl) ?_
              refine W.eq (g2 := F0 m 52 ls [.ref a_o]) rfl ?_
              refine lv_iconst (v := 1) hx hb dX11_wander_52 (by decide +kernel) ?_
              refine va_put (D := G.1) (ci := 11) (v := .int 1) (ty := .boolean) (C := RX11) (T := TX11) (N := 17) hx hb hts inG_X11 tyX11 tyX11_ok nmX11 hown hK hP hD hS 0 rfl rfl 14 (by decide +kernel) (hts _ fl_X11_87) (fun _ h9 => h9) rfl (by decide +kernel) rfl rfl (Nat.le_of_ble_eq_true rfl) dX11_wander_53 ?_
              clear hP hD hS
              intro H locs hP hD hS
              refine g5_rs [(a_o, (oc11 a_h a_im a_ke a_k a_wa a_th a_ha a_wk a_r a_x e_tl e_fd e_fpl a_wd 1 a_rf e_lr)), (a_rf, (arI G 5 f_rf)), (a_wd, (arI G 24 f_wd)), (a_k, (oc5 a_h a_j a_pt z12 z13 z14 z15 z16 z17 z18 z19 z20 z21)), (a_h, (oc1 e_wa e_le e_st e_fo e_lc a_l a_g a_b a_s a_p a_w e_gb a_bb)), (a_g, (oc6 6 5 a_gn e_g)), (a_gn, (arI G 30 f_g)), (a_b, (oc6 5 24 a_bn e_b)), (a_bn, (arI G 120 f_b)), (a_p, (oc6 8 5 a_pn e_p)), (a_pn, (arI G 40 f_p)), (a_bb, (arJ G 24 f_bb)), (a_j, (oc2 a_as a_sk)), (a_as, (arI G 8 z23)), (a_sk, (arJ G 50 z24)), (a_l, (arW G 6 f_l)), (a_lo, (oc3 e_cl a_hd a_sr a_cd)), (a_sr, (arI G n_sr f_sr)), (a_cd, (arI G n_cd f_cd)), (a_hd, (arI G n_hd f_hd)), (a_pt, (arI G 200 z22)), (a_wa, (oc10 a_h a_k a_bo)), (a_bo, (arJ G 24 z25))] hP hD ?_
              clear hP hD
              intro hP hD
              refine lv_iload_n hx hb dX11_wander_56 rfl (lv_at hl 1 rfl) ?_
              refine lv_i2l (v := p_s.toInt64) hx hb dX11_wander_57 rfl ?_
              refine lv_lstore_n (lv' := [(3, .long p_s.toInt64), (0, .ref a_o), (1, .int p_s), (2, .int p_c)]) hx hb dX11_wander_58 rfl hl (by decide +kernel) rfl ?_
              clear hl
              intro ls hl
              refine W.eq (g2 := F0 m 59 ls []) rfl ?_
              refine lv_iload_n hx hb dX11_wander_59 rfl (lv_at hl 3 rfl) ?_
              refine lv_istore (lv' := [(5, .int p_c), (3, .long p_s.toInt64), (0, .ref a_o), (1, .int p_s), (2, .int p_c)]) hx hb dX11_wander_60 hl (by decide +kernel) rfl ?_
              clear hl
              intro ls hl
              refine lv_iconst (v := 0) hx hb dX11_wander_62 (by decide +kernel) ?_
              refine lv_istore (lv' := [(6, .int 0), (5, .int p_c), (3, .long p_s.toInt64), (0, .ref a_o), (1, .int p_s), (2, .int p_c)]) hx hb dX11_wander_63 hl (by decide +kernel) rfl ?_
              clear hl
              intro ls hl
              refine lv_iconst (v := 0) hx hb dX11_wander_65 (by decide +kernel) ?_
              refine W.eq (g2 := F0 m 66 ls [.int 0]) rfl ?_
              refine lv_istore (lv' := [(7, .int 0), (6, .int 0), (5, .int p_c), (3, .long p_s.toInt64), (0, .ref a_o), (1, .int p_s), (2, .int p_c)]) hx hb dX11_wander_66 hl (by decide +kernel) rfl ?_
              clear hl
              intro ls hl
              refine g5_loop (α := (Int64) × (Int32) × (Int32) × (Int32) × (Nat → Int32)) (fun (q : (Int64) × (Int32) × (Int32) × (Int32) × (Nat → Int32)) (ls : Array Slot) (H : Heap) (locs : List Loc) => match q with | (k_d, k_a, k_n, k_i, k_wd) => lv_has ls 9 [(3, .long k_d), (5, .int k_a), (6, .int k_n), (7, .int k_i), (0, .ref a_o), (1, .int p_s), (2, .int p_c)] ∧ va_P G.1 vwCl [(a_o, (oc11 a_h a_im a_ke a_k a_wa a_th a_ha a_wk a_r a_x e_tl e_fd e_fpl a_wd 1 a_rf e_lr)), (a_rf, (arI G 5 f_rf)), (a_wd, (arI G 24 k_wd)), (a_k, (oc5 a_h a_j a_pt z12 z13 z14 z15 z16 z17 z18 z19 z20 z21)), (a_h, (oc1 e_wa e_le e_st e_fo e_lc a_l a_g a_b a_s a_p a_w e_gb a_bb)), (a_g, (oc6 6 5 a_gn e_g)), (a_gn, (arI G 30 f_g)), (a_b, (oc6 5 24 a_bn e_b)), (a_bn, (arI G 120 f_b)), (a_p, (oc6 8 5 a_pn e_p)), (a_pn, (arI G 40 f_p)), (a_bb, (arJ G 24 f_bb)), (a_j, (oc2 a_as a_sk)), (a_as, (arI G 8 z23)), (a_sk, (arJ G 50 z24)), (a_l, (arW G 6 f_l)), (a_lo, (oc3 e_cl a_hd a_sr a_cd)), (a_sr, (arI G n_sr f_sr)), (a_cd, (arI G n_cd f_cd)), (a_hd, (arI G n_hd f_hd)), (a_pt, (arI G 200 z22)), (a_wa, (oc10 a_h a_k a_bo)), (a_bo, (arJ G 24 z25))] H ∧ va_D A [(a_o, (oc11 a_h a_im a_ke a_k a_wa a_th a_ha a_wk a_r a_x e_tl e_fd e_fpl a_wd 1 a_rf e_lr)), (a_rf, (arI G 5 f_rf)), (a_wd, (arI G 24 k_wd)), (a_k, (oc5 a_h a_j a_pt z12 z13 z14 z15 z16 z17 z18 z19 z20 z21)), (a_h, (oc1 e_wa e_le e_st e_fo e_lc a_l a_g a_b a_s a_p a_w e_gb a_bb)), (a_g, (oc6 6 5 a_gn e_g)), (a_gn, (arI G 30 f_g)), (a_b, (oc6 5 24 a_bn e_b)), (a_bn, (arI G 120 f_b)), (a_p, (oc6 8 5 a_pn e_p)), (a_pn, (arI G 40 f_p)), (a_bb, (arJ G 24 f_bb)), (a_j, (oc2 a_as a_sk)), (a_as, (arI G 8 z23)), (a_sk, (arJ G 50 z24)), (a_l, (arW G 6 f_l)), (a_lo, (oc3 e_cl a_hd a_sr a_cd)), (a_sr, (arI G n_sr f_sr)), (a_cd, (arI G n_cd f_cd)), (a_hd, (arI G n_hd f_hd)), (a_pt, (arI G 200 z22)), (a_wa, (oc10 a_h a_k a_bo)), (a_bo, (arJ G 24 z25))] ∧ va_S A s.heap H locs ∧ (0 ≤ k_a.toInt ∧ k_a.toInt ≤ 63) ∧ (0 ≤ k_i.toInt ∧ k_i.toInt ≤ 24) ∧ (k_d = wdS p_s.toInt64 (k_i.toInt.toNat - 1)) ∧ (k_a.toInt = wdC f_ro p_s.toInt64 p_c.toInt (k_i.toInt.toNat - 1)) ∧ (k_wd = wdR f_ro p_s.toInt64 p_c.toInt f_wd k_i.toInt.toNat)) (fun (q : (Int64) × (Int32) × (Int32) × (Int32) × (Nat → Int32)) => match q with | (k_d, k_a, k_n, k_i, k_wd) => Int.toNat (24 - k_i.toInt)) (p_s.toInt64, p_c, 0, 0, f_wd) ⟨lv_sub hl [3, 2, 1, 0, 4, 5, 6] rfl, hP, hD, hS, i_5, ⟨by decide, by decide⟩, by rw [show (0 : Int32).toInt.toNat = 0 from by decide]; rfl, by rw [show (0 : Int32).toInt.toNat = 0 from by decide]; rfl, by rw [show (0 : Int32).toInt.toNat = 0 from by decide]; rfl⟩ ?_
              rintro ⟨k_d, k_a, k_n, k_i, k_wd⟩ ls H locs ⟨hl, hP, hD, hS, (i_26 : 0 ≤ k_a.toInt ∧ k_a.toInt ≤ 63), (i_27 : 0 ≤ k_i.toInt ∧ k_i.toInt ≤ 24), (i_28 : k_d = wdS p_s.toInt64 (k_i.toInt.toNat - 1)), (i_29 : k_a.toInt = wdC f_ro p_s.toInt64 p_c.toInt (k_i.toInt.toNat - 1)), (i_30 : k_wd = wdR f_ro p_s.toInt64 p_c.toInt f_wd k_i.toInt.toNat)⟩ ih_68_31
              replace hl : lv_has ls 9 [(3, .long k_d), (5, .int k_a), (6, .int k_n), (7, .int k_i), (0, .ref a_o), (1, .int p_s), (2, .int p_c)] := hl
              refine g5_rs [(a_o, (oc11 a_h a_im a_ke a_k a_wa a_th a_ha a_wk a_r a_x e_tl e_fd e_fpl a_wd 1 a_rf e_lr)), (a_rf, (arI G 5 f_rf)), (a_wd, (arI G 24 k_wd)), (a_k, (oc5 a_h a_j a_pt z12 z13 z14 z15 z16 z17 z18 z19 z20 z21)), (a_h, (oc1 e_wa e_le e_st e_fo e_lc a_l a_g a_b a_s a_p a_w e_gb a_bb)), (a_g, (oc6 6 5 a_gn e_g)), (a_gn, (arI G 30 f_g)), (a_b, (oc6 5 24 a_bn e_b)), (a_bn, (arI G 120 f_b)), (a_p, (oc6 8 5 a_pn e_p)), (a_pn, (arI G 40 f_p)), (a_bb, (arJ G 24 f_bb)), (a_j, (oc2 a_as a_sk)), (a_as, (arI G 8 z23)), (a_sk, (arJ G 50 z24)), (a_l, (arW G 6 f_l)), (a_lo, (oc3 e_cl a_hd a_sr a_cd)), (a_sr, (arI G n_sr f_sr)), (a_cd, (arI G n_cd f_cd)), (a_hd, (arI G n_hd f_hd)), (a_pt, (arI G 200 z22)), (a_wa, (oc10 a_h a_k a_bo)), (a_bo, (arJ G 24 z25))] hP hD ?_
              clear hP hD
              intro hP hD
              refine lv_iload hx hb dX11_wander_68 (lv_at hl 3 rfl) ?_
              refine lv_bipush (v := 24) hx hb dX11_wander_70 (by decide +kernel) ?_
              refine lv_icmp_ge (tgt := 173) hx hb dX11_wander_72 (by decide +kernel) (fun c_32 => ?_) (fun c_32 => ?_)
              ·
                have i_32 : k_i.toInt ≥ 24 := g5_ge (a := k_i.toInt) (b := 24) rfl (by decide +kernel) c_32
                refine lv_aload_n hx hb dX11_wander_173 rfl (lv_at hl 4 rfl) ?_
                refine lv_iload hx hb dX11_wander_174 (lv_at hl 2 rfl) ?_
                obtain ⟨hPc, hDc, hFc⟩ := g5_sub3 (wc := [(a_o, (oc11 a_h a_im a_ke a_k a_wa a_th a_ha a_wk a_r a_x e_tl e_fd e_fpl a_wd 1 a_rf e_lr))]) hP hD hS hA [0] (by decide +kernel) rfl
                refine va_calli (va_runV (As := [.int k_n]) (rest := []) ⟨hx, hb, hml, hown, hts⟩ (x_done l G a_o a_h a_im a_ke a_k a_wa a_th a_ha a_wk a_r a_x a_wd a_rf H.size e_tl e_fd e_fpl 1 e_lr k_n h_e_tl ⟨by decide, by decide⟩) (cwV 1 hts gV_X11_121 rfl rfl rfl hv_X11_done ⟨Nat.le_of_ble_eq_true rfl, Nat.le_of_ble_eq_true rfl⟩) (g5_preV hPc hK hDc hN hT hS hFc (ci := 11) (q0 := 0) rfl rfl) rfl rfl hl.1 rfl (lv_room (Nat.le_of_ble_eq_true rfl)) dX11_wander_176 ⟨Nat.le_of_ble_eq_true rfl, Nat.le_of_ble_eq_true rfl⟩) hS (fun q _ h => hFc q h) hFc (fun r u t H locs ht hvm hw hB hz1 hk1 hS => ?_)
                obtain ⟨hP1, hD1⟩ := hB
                have hP1 := g5_ht ht hP1
                obtain ⟨y33, rfl⟩ := hw
                have hJ9 := va_join (wr := [(a_rf, (arI G 5 f_rf)), (a_wd, (arI G 24 k_wd)), (a_k, (oc5 a_h a_j a_pt z12 z13 z14 z15 z16 z17 z18 z19 z20 z21)), (a_h, (oc1 e_wa e_le e_st e_fo e_lc a_l a_g a_b a_s a_p a_w e_gb a_bb)), (a_g, (oc6 6 5 a_gn e_g)), (a_gn, (arI G 30 f_g)), (a_b, (oc6 5 24 a_bn e_b)), (a_bn, (arI G 120 f_b)), (a_p, (oc6 8 5 a_pn e_p)), (a_pn, (arI G 40 f_p)), (a_bb, (arJ G 24 f_bb)), (a_j, (oc2 a_as a_sk)), (a_as, (arI G 8 z23)), (a_sk, (arJ G 50 z24)), (a_l, (arW G 6 f_l)), (a_lo, (oc3 e_cl a_hd a_sr a_cd)), (a_sr, (arI G n_sr f_sr)), (a_cd, (arI G n_cd f_cd)), (a_hd, (arI G n_hd f_hd)), (a_pt, (arI G 200 z22)), (a_wa, (oc10 a_h a_k a_bo)), (a_bo, (arJ G 24 z25))]) hP hD [0] [1, 2, 3, 4, 5, 6, 7, 8, 9, 10, 11, 12, 13, 14, 15, 16, 17, 18, 19, 20, 21, 22] rfl rfl (by decide +kernel) (by decide +kernel) hk1 hFc hP1 hD1
                clear hP hD hPc hDc hFc ht hvm hz1 hk1 hP1 hD1
                obtain ⟨hP, hD⟩ := hJ9
                refine g5_rs [(a_rf, (arI G 5 f_rf)), (a_wd, (arI G 24 k_wd)), (a_k, (oc5 a_h a_j a_pt z12 z13 z14 z15 z16 z17 z18 z19 z20 z21)), (a_h, (oc1 e_wa e_le e_st e_fo e_lc a_l a_g a_b a_s a_p a_w e_gb a_bb)), (a_g, (oc6 6 5 a_gn e_g)), (a_gn, (arI G 30 f_g)), (a_b, (oc6 5 24 a_bn e_b)), (a_bn, (arI G 120 f_b)), (a_p, (oc6 8 5 a_pn e_p)), (a_pn, (arI G 40 f_p)), (a_bb, (arJ G 24 f_bb)), (a_j, (oc2 a_as a_sk)), (a_as, (arI G 8 z23)), (a_sk, (arJ G 50 z24)), (a_l, (arW G 6 f_l)), (a_lo, (oc3 e_cl a_hd a_sr a_cd)), (a_sr, (arI G n_sr f_sr)), (a_cd, (arI G n_cd f_cd)), (a_hd, (arI G n_hd f_hd)), (a_pt, (arI G 200 z22)), (a_wa, (oc10 a_h a_k a_bo)), (a_bo, (arJ G 24 z25)), (a_o, (oc11 a_h a_im a_ke a_k a_wa a_th a_ha a_wk a_r a_x e_tl e_fd e_fpl a_wd 1 a_rf 0))] hP hD ?_
                clear hP hD
                intro hP hD
                refine g5_ti (v := k_n) y33 ?_
                exact W.iret (v := k_n) hx hb hr (fun t ht hW => ⟨⟨k_n, [(a_o, (oc11 a_h a_im a_ke a_k a_wa a_th a_ha a_wk a_r a_x e_tl e_fd e_fpl a_wd 1 a_rf 0)), (a_rf, (arI G 5 f_rf)), (a_k, (oc5 a_h a_j a_pt z12 z13 z14 z15 z16 z17 z18 z19 z20 z21)), (a_h, (oc1 e_wa e_le e_st e_fo e_lc a_l a_g a_b a_s a_p a_w e_gb a_bb)), (a_g, (oc6 6 5 a_gn e_g)), (a_gn, (arI G 30 f_g)), (a_b, (oc6 5 24 a_bn e_b)), (a_bn, (arI G 120 f_b)), (a_p, (oc6 8 5 a_pn e_p)), (a_pn, (arI G 40 f_p)), (a_bb, (arJ G 24 f_bb)), (a_j, (oc2 a_as a_sk)), (a_as, (arI G 8 z23)), (a_sk, (arJ G 50 z24)), (a_l, (arW G 6 f_l)), (a_lo, (oc3 e_cl a_hd a_sr a_cd)), (a_sr, (arI G n_sr f_sr)), (a_cd, (arI G n_cd f_cd)), (a_hd, (arI G n_hd f_hd)), (a_pt, (arI G 200 z22)), (a_wa, (oc10 a_h a_k a_bo)), (a_bo, (arJ G 24 z25)), (a_wd, (arI G 24 k_wd))], rfl, ⟨k_n, 0, f_rf, 1, z12, z13, z14, z15, z16, z17, z18, z19, z20, z21, z22, z23, z24, z25, k_wd, i_11, ⟨by have zc_o_wn : (1 : Int32).toInt = 1 := (by decide +kernel); omega, by have zc_o_wn : (1 : Int32).toInt = 1 := (by decide +kernel); omega⟩, by rw [(wand_0 (f := f_ro) (g := f_wd) (n := e_wn) (s := p_s) (c := p_c) (by unfold okD; omega) (wl_n e_hh (by omega) (Or.inr i_8))).1, i_30, show k_i.toInt.toNat = 24 by omega], (wand_0 (f := f_ro) (g := f_wd) (n := e_wn) (s := p_s) (c := p_c) (by unfold okD; omega) (wl_n e_hh (by omega) (Or.inr i_8))).2.symm, rfl, rfl⟩, by rw [ht]; exact hP.sub [22, 0, 2, 3, 4, 5, 6, 7, 8, 9, 10, 11, 12, 13, 14, 15, 16, 17, 18, 19, 20, 21, 1] rfl, hD.sub [22, 0, 2, 3, 4, 5, 6, 7, 8, 9, 10, 11, 12, 13, 14, 15, 16, 17, 18, 19, 20, 21, 1] (by decide +kernel) rfl⟩, hS.F ht⟩) hS.2.2 dX11_wander_179
              ·
                have i_32 : k_i.toInt < 24 := g5_geN (a := k_i.toInt) (b := 24) rfl (by decide +kernel) c_32
                refine lv_iload hx hb dX11_wander_75 (lv_at hl 3 rfl) ?_
                refine lv_if_le (tgt := 137) hx hb dX11_wander_77 (by decide +kernel) (fun c_34 => ?_) (fun c_34 => ?_)
                ·
                  have i_34 : k_i.toInt ≤ 0 := g5_le (a := k_i.toInt) (b := 0) rfl (by decide +kernel) c_34
                  refine lv_aload_n hx hb dX11_wander_137 rfl (lv_at hl 4 rfl) ?_
                  refine va_get (D := G.1) (ci := 11) (v := .ref a_wd) (C := RX11) (T := TX11) (N := 17) hx hb hts inG_X11 hown hK hP 0 rfl rfl 13 (by decide +kernel) (hts _ fl_X11_84) (fun _ h9 => h9) rfl dX11_wander_138 ?_
                  refine lv_iload hx hb dX11_wander_141 (lv_at hl 3 rfl) ?_
                  refine lv_iload hx hb dX11_wander_143 (lv_at hl 1 rfl) ?_
                  refine W.eq (g2 := F0 m 145 ls [.int k_a, .int k_i, .ref a_wd]) rfl ?_
                  refine va_iast hx hb hK hP hD hS 2 0 rfl rfl (i := k_i) (x := k_a) (vp_in_iff.mpr ⟨by omega, by omega⟩) dX11_wander_145 ?_
                  clear hP hD hS
                  intro H locs hP hD hS
                  refine g5_rs [(a_o, (oc11 a_h a_im a_ke a_k a_wa a_th a_ha a_wk a_r a_x e_tl e_fd e_fpl a_wd 1 a_rf e_lr)), (a_rf, (arI G 5 f_rf)), (a_wd, (arI G 24 (upd k_wd k_i.toNatClampNeg k_a))), (a_k, (oc5 a_h a_j a_pt z12 z13 z14 z15 z16 z17 z18 z19 z20 z21)), (a_h, (oc1 e_wa e_le e_st e_fo e_lc a_l a_g a_b a_s a_p a_w e_gb a_bb)), (a_g, (oc6 6 5 a_gn e_g)), (a_gn, (arI G 30 f_g)), (a_b, (oc6 5 24 a_bn e_b)), (a_bn, (arI G 120 f_b)), (a_p, (oc6 8 5 a_pn e_p)), (a_pn, (arI G 40 f_p)), (a_bb, (arJ G 24 f_bb)), (a_j, (oc2 a_as a_sk)), (a_as, (arI G 8 z23)), (a_sk, (arJ G 50 z24)), (a_l, (arW G 6 f_l)), (a_lo, (oc3 e_cl a_hd a_sr a_cd)), (a_sr, (arI G n_sr f_sr)), (a_cd, (arI G n_cd f_cd)), (a_hd, (arI G n_hd f_hd)), (a_pt, (arI G 200 z22)), (a_wa, (oc10 a_h a_k a_bo)), (a_bo, (arJ G 24 z25))] hP hD ?_
                  clear hP hD
                  intro hP hD
                  refine lv_aload_n hx hb dX11_wander_146 rfl (lv_at hl 4 rfl) ?_
                  refine va_get (D := G.1) (ci := 11) (v := .ref a_wa) (C := RX11) (T := TX11) (N := 17) hx hb hts inG_X11 hown hK hP 0 rfl rfl 4 (by decide +kernel) (hts _ fl_X11_38) (fun _ h9 => h9) rfl dX11_wander_147 ?_
                  refine va_get (D := G.1) (ci := 10) (v := .ref a_bo) (C := RX10) (T := TX10) (N := 3) hx hb hts inG_X10 hown hK hP 21 rfl rfl 2 (by decide +kernel) (hts _ fl_X11_257) (fun _ h9 => h9) rfl dX11_wander_150 ?_
                  refine lv_iload hx hb dX11_wander_153 (lv_at hl 3 rfl) ?_
                  refine W.eq (g2 := F0 m 155 ls [.int k_i, .ref a_bo]) rfl ?_
                  refine va_lald hx hb hK hP 22 1 rfl rfl (i := k_i) (vp_in_iff.mpr ⟨by omega, by omega⟩) dX11_wander_155 ?_
                  refine lv_iload hx hb dX11_wander_156 (lv_at hl 1 rfl) ?_
                  obtain ⟨hPc, hDc, hFc⟩ := g5_sub3 (wc := []) hP hD hS hA [] (by decide +kernel) rfl
                  refine va_calli (va_runS (As := [.long (z25 k_i.toNatClampNeg), .int k_a]) (rest := []) ⟨hx, hb, hml, hown, hts⟩ (k_isOn l G H.size k_a (z25 k_i.toNatClampNeg) i_26) (va_cwS 2 hts gS_X11_115 rfl rfl rfl hs_X11_isOn ⟨Nat.le_of_ble_eq_true rfl, Nat.le_of_ble_eq_true rfl⟩) (g5_preS hPc hK hDc hN hT hS hFc) rfl rfl hl.1 rfl (lv_room (Nat.le_of_ble_eq_true rfl)) dX11_wander_158 ⟨Nat.le_of_ble_eq_true rfl, Nat.le_of_ble_eq_true rfl⟩) hS (fun q _ h => hFc q h) hFc (fun r u t H locs ht hvm hw hB hz1 hk1 hS => ?_)
                  obtain ⟨hP1, hD1⟩ := hB
                  have hP1 := g5_ht ht hP1
                  rcases hw with ⟨(i_35 : onB (z25 k_i.toNatClampNeg) k_a.toInt = false), rfl, rfl⟩ | ⟨(i_36 : onB (z25 k_i.toNatClampNeg) k_a.toInt = true), rfl, rfl⟩
                  ·
                    have hJ9 := g5_same hP hk1
                    clear hP hPc hDc hFc ht hvm hz1 hk1 hP1 hD1
                    have hP := hJ9
                    clear hJ9
                    refine lv_if_eq (tgt := 167) hx hb dX11_wander_161 (by decide +kernel) (fun c_37 => ?_) (fun c_37 => ?_)
                    ·
                      refine lv_iinc (v := (k_i + 1)) (lv' := [(7, .int (k_i + 1)), (3, .long k_d), (5, .int k_a), (6, .int k_n), (0, .ref a_o), (1, .int p_s), (2, .int p_c)]) hx hb dX11_wander_167 hl (k := 3) rfl rfl (by decide +kernel) rfl ?_
                      clear hl
                      intro ls hl
                      have t_38 : (k_i + 1).toInt = k_i.toInt + 1 := g5_iadd (a := k_i.toInt) (b := 1) rfl (by decide +kernel) (by omega) (by omega)
                      refine lv_goto (tgt := 68) hx hb dX11_wander_170 (by decide +kernel) ?_
                      exact ih_68_31 (k_d, k_a, k_n, (k_i + 1), (upd k_wd k_i.toNatClampNeg k_a)) ls H locs (show Int.toNat (24 - (k_i + 1).toInt) < Int.toNat (24 - k_i.toInt) from g_up (show k_i.toInt < (k_i + 1).toInt by omega) (show k_i.toInt < 24 by omega)) ⟨lv_sub hl [1, 2, 3, 0, 4, 5, 6] rfl, hP, hD, hS, i_26, ⟨by omega, by omega⟩, by rw [show (k_i + 1).toInt.toNat - 1 = k_i.toInt.toNat - 1 by omega]; exact i_28, by rw [show (k_i + 1).toInt.toNat - 1 = k_i.toInt.toNat - 1 by omega]; exact i_29, by rw [show (k_i + 1).toInt.toNat = k_i.toInt.toNat + 1 by omega]; exact wdR_S i_30 rfl (by rw [show k_i.toInt.toNat = k_i.toInt.toNat - 1 by omega]; exact i_29)⟩
                    ·
                      exact absurd c_37 (by decide +kernel)
                  ·
                    have hJ9 := g5_same hP hk1
                    clear hP hPc hDc hFc ht hvm hz1 hk1 hP1 hD1
                    have hP := hJ9
                    clear hJ9
                    refine lv_if_eq (tgt := 167) hx hb dX11_wander_161 (by decide +kernel) (fun c_39 => ?_) (fun c_39 => ?_)
                    ·
                      exact absurd c_39 (by decide +kernel)
                    ·
                      refine lv_iinc (v := (k_n + 1)) (lv' := [(6, .int (k_n + 1)), (3, .long k_d), (5, .int k_a), (7, .int k_i), (0, .ref a_o), (1, .int p_s), (2, .int p_c)]) hx hb dX11_wander_164 hl (k := 2) rfl rfl (by decide +kernel) rfl ?_
                      clear hl
                      intro ls hl
                      refine lv_iinc (v := (k_i + 1)) (lv' := [(7, .int (k_i + 1)), (6, .int (k_n + 1)), (3, .long k_d), (5, .int k_a), (0, .ref a_o), (1, .int p_s), (2, .int p_c)]) hx hb dX11_wander_167 hl (k := 3) rfl rfl (by decide +kernel) rfl ?_
                      clear hl
                      intro ls hl
                      have t_40 : (k_i + 1).toInt = k_i.toInt + 1 := g5_iadd (a := k_i.toInt) (b := 1) rfl (by decide +kernel) (by omega) (by omega)
                      refine lv_goto (tgt := 68) hx hb dX11_wander_170 (by decide +kernel) ?_
                      exact ih_68_31 (k_d, k_a, (k_n + 1), (k_i + 1), (upd k_wd k_i.toNatClampNeg k_a)) ls H locs (show Int.toNat (24 - (k_i + 1).toInt) < Int.toNat (24 - k_i.toInt) from g_up (show k_i.toInt < (k_i + 1).toInt by omega) (show k_i.toInt < 24 by omega)) ⟨lv_sub hl [2, 3, 1, 0, 4, 5, 6] rfl, hP, hD, hS, i_26, ⟨by omega, by omega⟩, by rw [show (k_i + 1).toInt.toNat - 1 = k_i.toInt.toNat - 1 by omega]; exact i_28, by rw [show (k_i + 1).toInt.toNat - 1 = k_i.toInt.toNat - 1 by omega]; exact i_29, by rw [show (k_i + 1).toInt.toNat = k_i.toInt.toNat + 1 by omega]; exact wdR_S i_30 rfl (by rw [show k_i.toInt.toNat = k_i.toInt.toNat - 1 by omega]; exact i_29)⟩
                ·
                  have i_34 : k_i.toInt > 0 := g5_leN (a := k_i.toInt) (b := 0) rfl (by decide +kernel) c_34
                  refine lv_lload_n hx hb dX11_wander_80 rfl (lv_at hl 0 rfl) ?_
                  refine lv_ldc2 (v := 1103) hx hb hown (hts _ kl_X11_340) dX11_wander_81 ?_
                  refine lv_lmul hx hb dX11_wander_84 ?_
                  refine lv_ldc2 (v := 12345) hx hb hown (hts _ kl_X11_342) dX11_wander_85 ?_
                  refine W.eq (g2 := F0 m 88 ls [.long 12345, .long (k_d * 1103)]) rfl ?_
                  refine lv_ladd hx hb dX11_wander_88 ?_
                  refine lv_ldc2 (v := 1000003) hx hb hown (hts _ kl_X11_344) dX11_wander_89 ?_
                  refine lv_lrem hx hb dX11_wander_92 (by decide +kernel) ?_
                  refine lv_lstore_n (lv' := [(3, .long (((k_d * 1103) + 12345) - ((k_d * 1103) + 12345) / 1000003 * 1000003)), (5, .int k_a), (6, .int k_n), (7, .int k_i), (0, .ref a_o), (1, .int p_s), (2, .int p_c)]) hx hb dX11_wander_93 rfl hl (by decide +kernel) rfl ?_
                  clear hl
                  intro ls hl
                  refine lv_iload hx hb dX11_wander_94 (lv_at hl 1 rfl) ?_
                  refine W.eq (g2 := F0 m 96 ls [.int k_a]) rfl ?_
                  refine lv_lload_n hx hb dX11_wander_96 rfl (lv_at hl 0 rfl) ?_
                  refine lv_ldc2 (v := 5) hx hb hown (hts _ kl_X11_346) dX11_wander_97 ?_
                  refine lv_lrem hx hb dX11_wander_100 (by decide +kernel) ?_
                  refine lv_l2i (v := ((((k_d * 1103) + 12345) - ((k_d * 1103) + 12345) / 1000003 * 1000003) - (((k_d * 1103) + 12345) - ((k_d * 1103) + 12345) / 1000003 * 1000003) / 5 * 5).toInt32) hx hb dX11_wander_101 rfl ?_
                  obtain ⟨y41, hy_41⟩ : ∃ y : Int32, ((((k_d * 1103) + 12345) - ((k_d * 1103) + 12345) / 1000003 * 1000003) - (((k_d * 1103) + 12345) - ((k_d * 1103) + 12345) / 1000003 * 1000003) / 5 * 5).toInt32 = y := ⟨_, rfl⟩
                  refine g5_ti (v := y41) hy_41 ?_
                  obtain ⟨hPc, hDc, hFc⟩ := g5_sub3 (wc := []) hP hD hS hA [] (by decide +kernel) rfl
                  refine va_calli (va_runS (As := [.int k_a, .int y41]) (rest := []) ⟨hx, hb, hml, hown, hts⟩ (k_beside l G H.size k_a y41 i_26) (va_cwS 2 hts gS_X11_348 rfl rfl rfl hs_X11_beside ⟨Nat.le_of_ble_eq_true rfl, Nat.le_of_ble_eq_true rfl⟩) (g5_preS hPc hK hDc hN hT hS hFc) rfl rfl hl.1 rfl (lv_room (Nat.le_of_ble_eq_true rfl)) dX11_wander_102 ⟨Nat.le_of_ble_eq_true rfl, Nat.le_of_ble_eq_true rfl⟩) hS (fun q _ h => hFc q h) hFc (fun r u t H locs ht hvm hw hB hz1 hk1 hS => ?_)
                  obtain ⟨hP1, hD1⟩ := hB
                  have hP1 := g5_ht ht hP1
                  obtain ⟨z44, (i_42 : z44.toInt = bs k_a.toInt y41.toInt), (i_43 : -1 ≤ z44.toInt ∧ z44.toInt ≤ 63), y45, rfl⟩ := hw
                  have hJ9 := g5_same hP hk1
                  clear hP hPc hDc hFc ht hvm hz1 hk1 hP1 hD1
                  have hP := hJ9
                  clear hJ9
                  refine g5_ti (v := z44) y45 ?_
                  refine W.eq (g2 := F0 m 105 ls [.int z44]) rfl ?_
                  refine lv_istore (lv' := [(8, .int z44), (3, .long (((k_d * 1103) + 12345) - ((k_d * 1103) + 12345) / 1000003 * 1000003)), (5, .int k_a), (6, .int k_n), (7, .int k_i), (0, .ref a_o), (1, .int p_s), (2, .int p_c)]) hx hb dX11_wander_105 hl (by decide +kernel) rfl ?_
                  clear hl
                  intro ls hl
                  refine lv_iload hx hb dX11_wander_107 (lv_at hl 0 rfl) ?_
                  refine lv_iconst (v := (-1)) hx hb dX11_wander_109 (by decide +kernel) ?_
                  refine lv_icmp_eq (tgt := 128) hx hb dX11_wander_110 (by decide +kernel) (fun c_46 => ?_) (fun c_46 => ?_)
                  ·
                    have i_46 : z44.toInt = (-1) := g5_eq (a := z44.toInt) (b := (-1)) rfl (by decide +kernel) c_46
                    refine lv_iload hx hb dX11_wander_128 (lv_at hl 2 rfl) ?_
                    refine lv_goto (tgt := 135) hx hb dX11_wander_130 (by decide +kernel) ?_
                    refine lv_istore (lv' := [(5, .int k_a), (8, .int z44), (3, .long (((k_d * 1103) + 12345) - ((k_d * 1103) + 12345) / 1000003 * 1000003)), (6, .int k_n), (7, .int k_i), (0, .ref a_o), (1, .int p_s), (2, .int p_c)]) hx hb dX11_wander_135 hl (by decide +kernel) rfl ?_
                    clear hl
                    intro ls hl
                    refine lv_aload_n hx hb dX11_wander_137 rfl (lv_at hl 5 rfl) ?_
                    refine W.eq (g2 := F0 m 138 ls [.ref a_o]) rfl ?_
                    refine va_get (D := G.1) (ci := 11) (v := .ref a_wd) (C := RX11) (T := TX11) (N := 17) hx hb hts inG_X11 hown hK hP 0 rfl rfl 13 (by decide +kernel) (hts _ fl_X11_84) (fun _ h9 => h9) rfl dX11_wander_138 ?_
                    refine lv_iload hx hb dX11_wander_141 (lv_at hl 4 rfl) ?_
                    refine lv_iload hx hb dX11_wander_143 (lv_at hl 0 rfl) ?_
                    refine va_iast hx hb hK hP hD hS 2 0 rfl rfl (i := k_i) (x := k_a) (vp_in_iff.mpr ⟨by omega, by omega⟩) dX11_wander_145 ?_
                    clear hP hD hS
                    intro H locs hP hD hS
                    refine g5_rs [(a_o, (oc11 a_h a_im a_ke a_k a_wa a_th a_ha a_wk a_r a_x e_tl e_fd e_fpl a_wd 1 a_rf e_lr)), (a_rf, (arI G 5 f_rf)), (a_wd, (arI G 24 (upd k_wd k_i.toNatClampNeg k_a))), (a_k, (oc5 a_h a_j a_pt z12 z13 z14 z15 z16 z17 z18 z19 z20 z21)), (a_h, (oc1 e_wa e_le e_st e_fo e_lc a_l a_g a_b a_s a_p a_w e_gb a_bb)), (a_g, (oc6 6 5 a_gn e_g)), (a_gn, (arI G 30 f_g)), (a_b, (oc6 5 24 a_bn e_b)), (a_bn, (arI G 120 f_b)), (a_p, (oc6 8 5 a_pn e_p)), (a_pn, (arI G 40 f_p)), (a_bb, (arJ G 24 f_bb)), (a_j, (oc2 a_as a_sk)), (a_as, (arI G 8 z23)), (a_sk, (arJ G 50 z24)), (a_l, (arW G 6 f_l)), (a_lo, (oc3 e_cl a_hd a_sr a_cd)), (a_sr, (arI G n_sr f_sr)), (a_cd, (arI G n_cd f_cd)), (a_hd, (arI G n_hd f_hd)), (a_pt, (arI G 200 z22)), (a_wa, (oc10 a_h a_k a_bo)), (a_bo, (arJ G 24 z25))] hP hD ?_
                    clear hP hD
                    intro hP hD
                    refine lv_aload_n hx hb dX11_wander_146 rfl (lv_at hl 5 rfl) ?_
                    refine W.eq (g2 := F0 m 147 ls [.ref a_o]) rfl ?_
                    refine va_get (D := G.1) (ci := 11) (v := .ref a_wa) (C := RX11) (T := TX11) (N := 17) hx hb hts inG_X11 hown hK hP 0 rfl rfl 4 (by decide +kernel) (hts _ fl_X11_38) (fun _ h9 => h9) rfl dX11_wander_147 ?_
                    refine va_get (D := G.1) (ci := 10) (v := .ref a_bo) (C := RX10) (T := TX10) (N := 3) hx hb hts inG_X10 hown hK hP 21 rfl rfl 2 (by decide +kernel) (hts _ fl_X11_257) (fun _ h9 => h9) rfl dX11_wander_150 ?_
                    refine lv_iload hx hb dX11_wander_153 (lv_at hl 4 rfl) ?_
                    refine va_lald hx hb hK hP 22 1 rfl rfl (i := k_i) (vp_in_iff.mpr ⟨by omega, by omega⟩) dX11_wander_155 ?_
                    refine lv_iload hx hb dX11_wander_156 (lv_at hl 0 rfl) ?_
                    refine W.eq (g2 := F0 m 158 ls [.int k_a, .long (z25 k_i.toNatClampNeg)]) rfl ?_
                    obtain ⟨hPc, hDc, hFc⟩ := g5_sub3 (wc := []) hP hD hS hA [] (by decide +kernel) rfl
                    refine va_calli (va_runS (As := [.long (z25 k_i.toNatClampNeg), .int k_a]) (rest := []) ⟨hx, hb, hml, hown, hts⟩ (k_isOn l G H.size k_a (z25 k_i.toNatClampNeg) i_26) (va_cwS 2 hts gS_X11_115 rfl rfl rfl hs_X11_isOn ⟨Nat.le_of_ble_eq_true rfl, Nat.le_of_ble_eq_true rfl⟩) (g5_preS hPc hK hDc hN hT hS hFc) rfl rfl hl.1 rfl (lv_room (Nat.le_of_ble_eq_true rfl)) dX11_wander_158 ⟨Nat.le_of_ble_eq_true rfl, Nat.le_of_ble_eq_true rfl⟩) hS (fun q _ h => hFc q h) hFc (fun r u t H locs ht hvm hw hB hz1 hk1 hS => ?_)
                    obtain ⟨hP1, hD1⟩ := hB
                    have hP1 := g5_ht ht hP1
                    rcases hw with ⟨(i_47 : onB (z25 k_i.toNatClampNeg) k_a.toInt = false), rfl, rfl⟩ | ⟨(i_48 : onB (z25 k_i.toNatClampNeg) k_a.toInt = true), rfl, rfl⟩
                    ·
                      have hJ9 := g5_same hP hk1
                      clear hP hPc hDc hFc ht hvm hz1 hk1 hP1 hD1
                      have hP := hJ9
                      clear hJ9
                      refine lv_if_eq (tgt := 167) hx hb dX11_wander_161 (by decide +kernel) (fun c_49 => ?_) (fun c_49 => ?_)
                      ·
                        refine lv_iinc (v := (k_i + 1)) (lv' := [(7, .int (k_i + 1)), (5, .int k_a), (8, .int z44), (3, .long (((k_d * 1103) + 12345) - ((k_d * 1103) + 12345) / 1000003 * 1000003)), (6, .int k_n), (0, .ref a_o), (1, .int p_s), (2, .int p_c)]) hx hb dX11_wander_167 hl (k := 4) rfl rfl (by decide +kernel) rfl ?_
                        clear hl
                        intro ls hl
                        have t_50 : (k_i + 1).toInt = k_i.toInt + 1 := g5_iadd (a := k_i.toInt) (b := 1) rfl (by decide +kernel) (by omega) (by omega)
                        refine lv_goto (tgt := 68) hx hb dX11_wander_170 (by decide +kernel) ?_
                        exact ih_68_31 ((((k_d * 1103) + 12345) - ((k_d * 1103) + 12345) / 1000003 * 1000003), k_a, k_n, (k_i + 1), (upd k_wd k_i.toNatClampNeg k_a)) ls H locs (show Int.toNat (24 - (k_i + 1).toInt) < Int.toNat (24 - k_i.toInt) from g_up (show k_i.toInt < (k_i + 1).toInt by omega) (show k_i.toInt < 24 by omega)) ⟨lv_sub hl [3, 1, 4, 0, 5, 6, 7] rfl, hP, hD, hS, i_26, ⟨by omega, by omega⟩, by rw [show (k_i + 1).toInt.toNat - 1 = (k_i.toInt.toNat - 1) + 1 by omega, wdS_S, ← i_28]; rfl, by rw [show (k_i + 1).toInt.toNat - 1 = (k_i.toInt.toNat - 1) + 1 by omega]; exact (by rw [wdC_S (wdk_of i_28 hy_41), ← i_29, ws_n (by rw [← i_42]; omega)]), by rw [show (k_i + 1).toInt.toNat = k_i.toInt.toNat + 1 by omega]; exact wdR_S i_30 rfl (by rw [show k_i.toInt.toNat = (k_i.toInt.toNat - 1) + 1 by omega]; exact (by rw [wdC_S (wdk_of i_28 hy_41), ← i_29, ws_n (by rw [← i_42]; omega)]))⟩
                      ·
                        exact absurd c_49 (by decide +kernel)
                    ·
                      have hJ9 := g5_same hP hk1
                      clear hP hPc hDc hFc ht hvm hz1 hk1 hP1 hD1
                      have hP := hJ9
                      clear hJ9
                      refine lv_if_eq (tgt := 167) hx hb dX11_wander_161 (by decide +kernel) (fun c_51 => ?_) (fun c_51 => ?_)
                      ·
                        exact absurd c_51 (by decide +kernel)
                      ·
                        refine lv_iinc (v := (k_n + 1)) (lv' := [(6, .int (k_n + 1)), (5, .int k_a), (8, .int z44), (3, .long (((k_d * 1103) + 12345) - ((k_d * 1103) + 12345) / 1000003 * 1000003)), (7, .int k_i), (0, .ref a_o), (1, .int p_s), (2, .int p_c)]) hx hb dX11_wander_164 hl (k := 3) rfl rfl (by decide +kernel) rfl ?_
                        clear hl
                        intro ls hl
                        refine lv_iinc (v := (k_i + 1)) (lv' := [(7, .int (k_i + 1)), (6, .int (k_n + 1)), (5, .int k_a), (8, .int z44), (3, .long (((k_d * 1103) + 12345) - ((k_d * 1103) + 12345) / 1000003 * 1000003)), (0, .ref a_o), (1, .int p_s), (2, .int p_c)]) hx hb dX11_wander_167 hl (k := 4) rfl rfl (by decide +kernel) rfl ?_
                        clear hl
                        intro ls hl
                        have t_52 : (k_i + 1).toInt = k_i.toInt + 1 := g5_iadd (a := k_i.toInt) (b := 1) rfl (by decide +kernel) (by omega) (by omega)
                        refine lv_goto (tgt := 68) hx hb dX11_wander_170 (by decide +kernel) ?_
                        exact ih_68_31 ((((k_d * 1103) + 12345) - ((k_d * 1103) + 12345) / 1000003 * 1000003), k_a, (k_n + 1), (k_i + 1), (upd k_wd k_i.toNatClampNeg k_a)) ls H locs (show Int.toNat (24 - (k_i + 1).toInt) < Int.toNat (24 - k_i.toInt) from g_up (show k_i.toInt < (k_i + 1).toInt by omega) (show k_i.toInt < 24 by omega)) ⟨lv_sub hl [4, 2, 1, 0, 5, 6, 7] rfl, hP, hD, hS, i_26, ⟨by omega, by omega⟩, by rw [show (k_i + 1).toInt.toNat - 1 = (k_i.toInt.toNat - 1) + 1 by omega, wdS_S, ← i_28]; rfl, by rw [show (k_i + 1).toInt.toNat - 1 = (k_i.toInt.toNat - 1) + 1 by omega]; exact (by rw [wdC_S (wdk_of i_28 hy_41), ← i_29, ws_n (by rw [← i_42]; omega)]), by rw [show (k_i + 1).toInt.toNat = k_i.toInt.toNat + 1 by omega]; exact wdR_S i_30 rfl (by rw [show k_i.toInt.toNat = (k_i.toInt.toNat - 1) + 1 by omega]; exact (by rw [wdC_S (wdk_of i_28 hy_41), ← i_29, ws_n (by rw [← i_42]; omega)]))⟩
                  ·
                    have n_46 : gNe (z44.toInt) ((-1)) := g5_eqN (a := z44.toInt) (b := (-1)) rfl (by decide +kernel) c_46
                    have i_46 : z44.toInt ≥ 0 := by have z := g5_eqN (a := z44.toInt) (b := (-1)) (by rfl) (by decide +kernel) c_46; omega
                    refine lv_aload_n hx hb dX11_wander_113 rfl (lv_at hl 5 rfl) ?_
                    refine va_get (D := G.1) (ci := 11) (v := .ref a_h) (C := RX11) (T := TX11) (N := 17) hx hb hts inG_X11 hown hK hP 0 rfl rfl 0 (by decide +kernel) (hts _ fl_X11_12) (fun _ h9 => h9) rfl dX11_wander_114 ?_
                    refine va_get (D := G.1) (ci := 1) (v := .long e_wa) (C := RX1) (T := TX1) (N := 13) hx hb hts inG_X1 hown hK hP 4 rfl rfl 0 (by decide +kernel) (hts _ fl_X11_111) (fun _ h9 => h9) rfl dX11_wander_117 ?_
                    refine lv_iload hx hb dX11_wander_120 (lv_at hl 0 rfl) ?_
                    refine W.eq (g2 := F0 m 122 ls [.int z44, .long e_wa]) rfl ?_
                    obtain ⟨hPc, hDc, hFc⟩ := g5_sub3 (wc := []) hP hD hS hA [] (by decide +kernel) rfl
                    refine va_calli (va_runS (As := [.long e_wa, .int z44]) (rest := []) ⟨hx, hb, hml, hown, hts⟩ (k_isOn l G H.size z44 e_wa ⟨by omega, by omega⟩) (va_cwS 2 hts gS_X11_115 rfl rfl rfl hs_X11_isOn ⟨Nat.le_of_ble_eq_true rfl, Nat.le_of_ble_eq_true rfl⟩) (g5_preS hPc hK hDc hN hT hS hFc) rfl rfl hl.1 rfl (lv_room (Nat.le_of_ble_eq_true rfl)) dX11_wander_122 ⟨Nat.le_of_ble_eq_true rfl, Nat.le_of_ble_eq_true rfl⟩) hS (fun q _ h => hFc q h) hFc (fun r u t H locs ht hvm hw hB hz1 hk1 hS => ?_)
                    obtain ⟨hP1, hD1⟩ := hB
                    have hP1 := g5_ht ht hP1
                    rcases hw with ⟨(i_53 : onB e_wa z44.toInt = false), rfl, rfl⟩ | ⟨(i_54 : onB e_wa z44.toInt = true), rfl, rfl⟩
                    ·
                      have hJ9 := g5_same hP hk1
                      clear hP hPc hDc hFc ht hvm hz1 hk1 hP1 hD1
                      have hP := hJ9
                      clear hJ9
                      refine lv_if_eq (tgt := 133) hx hb dX11_wander_125 (by decide +kernel) (fun c_55 => ?_) (fun c_55 => ?_)
                      ·
                        refine lv_iload hx hb dX11_wander_133 (lv_at hl 0 rfl) ?_
                        refine lv_istore (lv' := [(5, .int z44), (8, .int z44), (3, .long (((k_d * 1103) + 12345) - ((k_d * 1103) + 12345) / 1000003 * 1000003)), (6, .int k_n), (7, .int k_i), (0, .ref a_o), (1, .int p_s), (2, .int p_c)]) hx hb dX11_wander_135 hl (by decide +kernel) rfl ?_
                        clear hl
                        intro ls hl
                        refine lv_aload_n hx hb dX11_wander_137 rfl (lv_at hl 5 rfl) ?_
                        refine va_get (D := G.1) (ci := 11) (v := .ref a_wd) (C := RX11) (T := TX11) (N := 17) hx hb hts inG_X11 hown hK hP 0 rfl rfl 13 (by decide +kernel) (hts _ fl_X11_84) (fun _ h9 => h9) rfl dX11_wander_138 ?_
                        refine W.eq (g2 := F0 m 141 ls [.ref a_wd]) rfl ?_
                        refine lv_iload hx hb dX11_wander_141 (lv_at hl 4 rfl) ?_
                        refine lv_iload hx hb dX11_wander_143 (lv_at hl 0 rfl) ?_
                        refine va_iast hx hb hK hP hD hS 2 0 rfl rfl (i := k_i) (x := z44) (vp_in_iff.mpr ⟨by omega, by omega⟩) dX11_wander_145 ?_
                        clear hP hD hS
                        intro H locs hP hD hS
                        refine g5_rs [(a_o, (oc11 a_h a_im a_ke a_k a_wa a_th a_ha a_wk a_r a_x e_tl e_fd e_fpl a_wd 1 a_rf e_lr)), (a_rf, (arI G 5 f_rf)), (a_wd, (arI G 24 (upd k_wd k_i.toNatClampNeg z44))), (a_k, (oc5 a_h a_j a_pt z12 z13 z14 z15 z16 z17 z18 z19 z20 z21)), (a_h, (oc1 e_wa e_le e_st e_fo e_lc a_l a_g a_b a_s a_p a_w e_gb a_bb)), (a_g, (oc6 6 5 a_gn e_g)), (a_gn, (arI G 30 f_g)), (a_b, (oc6 5 24 a_bn e_b)), (a_bn, (arI G 120 f_b)), (a_p, (oc6 8 5 a_pn e_p)), (a_pn, (arI G 40 f_p)), (a_bb, (arJ G 24 f_bb)), (a_j, (oc2 a_as a_sk)), (a_as, (arI G 8 z23)), (a_sk, (arJ G 50 z24)), (a_l, (arW G 6 f_l)), (a_lo, (oc3 e_cl a_hd a_sr a_cd)), (a_sr, (arI G n_sr f_sr)), (a_cd, (arI G n_cd f_cd)), (a_hd, (arI G n_hd f_hd)), (a_pt, (arI G 200 z22)), (a_wa, (oc10 a_h a_k a_bo)), (a_bo, (arJ G 24 z25))] hP hD ?_
                        clear hP hD
                        intro hP hD
                        refine lv_aload_n hx hb dX11_wander_146 rfl (lv_at hl 5 rfl) ?_
                        refine va_get (D := G.1) (ci := 11) (v := .ref a_wa) (C := RX11) (T := TX11) (N := 17) hx hb hts inG_X11 hown hK hP 0 rfl rfl 4 (by decide +kernel) (hts _ fl_X11_38) (fun _ h9 => h9) rfl dX11_wander_147 ?_
                        refine W.eq (g2 := F0 m 150 ls [.ref a_wa]) rfl ?_
                        refine va_get (D := G.1) (ci := 10) (v := .ref a_bo) (C := RX10) (T := TX10) (N := 3) hx hb hts inG_X10 hown hK hP 21 rfl rfl 2 (by decide +kernel) (hts _ fl_X11_257) (fun _ h9 => h9) rfl dX11_wander_150 ?_
                        refine lv_iload hx hb dX11_wander_153 (lv_at hl 4 rfl) ?_
                        refine va_lald hx hb hK hP 22 1 rfl rfl (i := k_i) (vp_in_iff.mpr ⟨by omega, by omega⟩) dX11_wander_155 ?_
                        refine lv_iload hx hb dX11_wander_156 (lv_at hl 0 rfl) ?_
                        obtain ⟨hPc, hDc, hFc⟩ := g5_sub3 (wc := []) hP hD hS hA [] (by decide +kernel) rfl
                        refine va_calli (va_runS (As := [.long (z25 k_i.toNatClampNeg), .int z44]) (rest := []) ⟨hx, hb, hml, hown, hts⟩ (k_isOn l G H.size z44 (z25 k_i.toNatClampNeg) ⟨by omega, by omega⟩) (va_cwS 2 hts gS_X11_115 rfl rfl rfl hs_X11_isOn ⟨Nat.le_of_ble_eq_true rfl, Nat.le_of_ble_eq_true rfl⟩) (g5_preS hPc hK hDc hN hT hS hFc) rfl rfl hl.1 rfl (lv_room (Nat.le_of_ble_eq_true rfl)) dX11_wander_158 ⟨Nat.le_of_ble_eq_true rfl, Nat.le_of_ble_eq_true rfl⟩) hS (fun q _ h => hFc q h) hFc (fun r u t H locs ht hvm hw hB hz1 hk1 hS => ?_)
                        obtain ⟨hP1, hD1⟩ := hB
                        have hP1 := g5_ht ht hP1
                        rcases hw with ⟨(i_56 : onB (z25 k_i.toNatClampNeg) z44.toInt = false), rfl, rfl⟩ | ⟨(i_57 : onB (z25 k_i.toNatClampNeg) z44.toInt = true), rfl, rfl⟩
                        ·
                          have hJ9 := g5_same hP hk1
                          clear hP hPc hDc hFc ht hvm hz1 hk1 hP1 hD1
                          have hP := hJ9
                          clear hJ9
                          refine lv_if_eq (tgt := 167) hx hb dX11_wander_161 (by decide +kernel) (fun c_58 => ?_) (fun c_58 => ?_)
                          ·
                            refine lv_iinc (v := (k_i + 1)) (lv' := [(7, .int (k_i + 1)), (5, .int z44), (8, .int z44), (3, .long (((k_d * 1103) + 12345) - ((k_d * 1103) + 12345) / 1000003 * 1000003)), (6, .int k_n), (0, .ref a_o), (1, .int p_s), (2, .int p_c)]) hx hb dX11_wander_167 hl (k := 4) rfl rfl (by decide +kernel) rfl ?_
                            clear hl
                            intro ls hl
                            have t_59 : (k_i + 1).toInt = k_i.toInt + 1 := g5_iadd (a := k_i.toInt) (b := 1) rfl (by decide +kernel) (by omega) (by omega)
                            refine lv_goto (tgt := 68) hx hb dX11_wander_170 (by decide +kernel) ?_
                            exact ih_68_31 ((((k_d * 1103) + 12345) - ((k_d * 1103) + 12345) / 1000003 * 1000003), z44, k_n, (k_i + 1), (upd k_wd k_i.toNatClampNeg z44)) ls H locs (show Int.toNat (24 - (k_i + 1).toInt) < Int.toNat (24 - k_i.toInt) from g_up (show k_i.toInt < (k_i + 1).toInt by omega) (show k_i.toInt < 24 by omega)) ⟨lv_sub hl [3, 1, 4, 0, 5, 6, 7] rfl, hP, hD, hS, ⟨by omega, by omega⟩, ⟨by omega, by omega⟩, by rw [show (k_i + 1).toInt.toNat - 1 = (k_i.toInt.toNat - 1) + 1 by omega, wdS_S, ← i_28]; rfl, by rw [show (k_i + 1).toInt.toNat - 1 = (k_i.toInt.toNat - 1) + 1 by omega]; exact (by rw [wdC_S (wdk_of i_28 hy_41), ← i_29, ws_y (by rw [← i_42]; exact n_46) (by rw [← i_42]; exact wl_n e_hh (by omega) (Or.inr i_53)), ← i_42]), by rw [show (k_i + 1).toInt.toNat = k_i.toInt.toNat + 1 by omega]; exact wdR_S i_30 rfl (by rw [show k_i.toInt.toNat = (k_i.toInt.toNat - 1) + 1 by omega]; exact (by rw [wdC_S (wdk_of i_28 hy_41), ← i_29, ws_y (by rw [← i_42]; exact n_46) (by rw [← i_42]; exact wl_n e_hh (by omega) (Or.inr i_53)), ← i_42]))⟩
                          ·
                            exact absurd c_58 (by decide +kernel)
                        ·
                          have hJ9 := g5_same hP hk1
                          clear hP hPc hDc hFc ht hvm hz1 hk1 hP1 hD1
                          have hP := hJ9
                          clear hJ9
                          refine lv_if_eq (tgt := 167) hx hb dX11_wander_161 (by decide +kernel) (fun c_60 => ?_) (fun c_60 => ?_)
                          ·
                            exact absurd c_60 (by decide +kernel)
                          ·
                            refine lv_iinc (v := (k_n + 1)) (lv' := [(6, .int (k_n + 1)), (5, .int z44), (8, .int z44), (3, .long (((k_d * 1103) + 12345) - ((k_d * 1103) + 12345) / 1000003 * 1000003)), (7, .int k_i), (0, .ref a_o), (1, .int p_s), (2, .int p_c)]) hx hb dX11_wander_164 hl (k := 3) rfl rfl (by decide +kernel) rfl ?_
                            clear hl
                            intro ls hl
                            refine lv_iinc (v := (k_i + 1)) (lv' := [(7, .int (k_i + 1)), (6, .int (k_n + 1)), (5, .int z44), (8, .int z44), (3, .long (((k_d * 1103) + 12345) - ((k_d * 1103) + 12345) / 1000003 * 1000003)), (0, .ref a_o), (1, .int p_s), (2, .int p_c)]) hx hb dX11_wander_167 hl (k := 4) rfl rfl (by decide +kernel) rfl ?_
                            clear hl
                            intro ls hl
                            have t_61 : (k_i + 1).toInt = k_i.toInt + 1 := g5_iadd (a := k_i.toInt) (b := 1) rfl (by decide +kernel) (by omega) (by omega)
                            refine lv_goto (tgt := 68) hx hb dX11_wander_170 (by decide +kernel) ?_
                            exact ih_68_31 ((((k_d * 1103) + 12345) - ((k_d * 1103) + 12345) / 1000003 * 1000003), z44, (k_n + 1), (k_i + 1), (upd k_wd k_i.toNatClampNeg z44)) ls H locs (show Int.toNat (24 - (k_i + 1).toInt) < Int.toNat (24 - k_i.toInt) from g_up (show k_i.toInt < (k_i + 1).toInt by omega) (show k_i.toInt < 24 by omega)) ⟨lv_sub hl [4, 2, 1, 0, 5, 6, 7] rfl, hP, hD, hS, ⟨by omega, by omega⟩, ⟨by omega, by omega⟩, by rw [show (k_i + 1).toInt.toNat - 1 = (k_i.toInt.toNat - 1) + 1 by omega, wdS_S, ← i_28]; rfl, by rw [show (k_i + 1).toInt.toNat - 1 = (k_i.toInt.toNat - 1) + 1 by omega]; exact (by rw [wdC_S (wdk_of i_28 hy_41), ← i_29, ws_y (by rw [← i_42]; exact n_46) (by rw [← i_42]; exact wl_n e_hh (by omega) (Or.inr i_53)), ← i_42]), by rw [show (k_i + 1).toInt.toNat = k_i.toInt.toNat + 1 by omega]; exact wdR_S i_30 rfl (by rw [show k_i.toInt.toNat = (k_i.toInt.toNat - 1) + 1 by omega]; exact (by rw [wdC_S (wdk_of i_28 hy_41), ← i_29, ws_y (by rw [← i_42]; exact n_46) (by rw [← i_42]; exact wl_n e_hh (by omega) (Or.inr i_53)), ← i_42]))⟩
                      ·
                        exact absurd c_55 (by decide +kernel)
                    ·
                      have hJ9 := g5_same hP hk1
                      clear hP hPc hDc hFc ht hvm hz1 hk1 hP1 hD1
                      have hP := hJ9
                      clear hJ9
                      refine lv_if_eq (tgt := 133) hx hb dX11_wander_125 (by decide +kernel) (fun c_62 => ?_) (fun c_62 => ?_)
                      ·
                        exact absurd c_62 (by decide +kernel)
                      ·
                        refine lv_iload hx hb dX11_wander_128 (lv_at hl 2 rfl) ?_
                        refine lv_goto (tgt := 135) hx hb dX11_wander_130 (by decide +kernel) ?_
                        refine lv_istore (lv' := [(5, .int k_a), (8, .int z44), (3, .long (((k_d * 1103) + 12345) - ((k_d * 1103) + 12345) / 1000003 * 1000003)), (6, .int k_n), (7, .int k_i), (0, .ref a_o), (1, .int p_s), (2, .int p_c)]) hx hb dX11_wander_135 hl (by decide +kernel) rfl ?_
                        clear hl
                        intro ls hl
                        refine lv_aload_n hx hb dX11_wander_137 rfl (lv_at hl 5 rfl) ?_
                        refine W.eq (g2 := F0 m 138 ls [.ref a_o]) rfl ?_
                        refine va_get (D := G.1) (ci := 11) (v := .ref a_wd) (C := RX11) (T := TX11) (N := 17) hx hb hts inG_X11 hown hK hP 0 rfl rfl 13 (by decide +kernel) (hts _ fl_X11_84) (fun _ h9 => h9) rfl dX11_wander_138 ?_
                        refine lv_iload hx hb dX11_wander_141 (lv_at hl 4 rfl) ?_
                        refine lv_iload hx hb dX11_wander_143 (lv_at hl 0 rfl) ?_
                        refine va_iast hx hb hK hP hD hS 2 0 rfl rfl (i := k_i) (x := k_a) (vp_in_iff.mpr ⟨by omega, by omega⟩) dX11_wander_145 ?_
                        clear hP hD hS
                        intro H locs hP hD hS
                        refine g5_rs [(a_o, (oc11 a_h a_im a_ke a_k a_wa a_th a_ha a_wk a_r a_x e_tl e_fd e_fpl a_wd 1 a_rf e_lr)), (a_rf, (arI G 5 f_rf)), (a_wd, (arI G 24 (upd k_wd k_i.toNatClampNeg k_a))), (a_k, (oc5 a_h a_j a_pt z12 z13 z14 z15 z16 z17 z18 z19 z20 z21)), (a_h, (oc1 e_wa e_le e_st e_fo e_lc a_l a_g a_b a_s a_p a_w e_gb a_bb)), (a_g, (oc6 6 5 a_gn e_g)), (a_gn, (arI G 30 f_g)), (a_b, (oc6 5 24 a_bn e_b)), (a_bn, (arI G 120 f_b)), (a_p, (oc6 8 5 a_pn e_p)), (a_pn, (arI G 40 f_p)), (a_bb, (arJ G 24 f_bb)), (a_j, (oc2 a_as a_sk)), (a_as, (arI G 8 z23)), (a_sk, (arJ G 50 z24)), (a_l, (arW G 6 f_l)), (a_lo, (oc3 e_cl a_hd a_sr a_cd)), (a_sr, (arI G n_sr f_sr)), (a_cd, (arI G n_cd f_cd)), (a_hd, (arI G n_hd f_hd)), (a_pt, (arI G 200 z22)), (a_wa, (oc10 a_h a_k a_bo)), (a_bo, (arJ G 24 z25))] hP hD ?_
                        clear hP hD
                        intro hP hD
                        refine lv_aload_n hx hb dX11_wander_146 rfl (lv_at hl 5 rfl) ?_
                        refine W.eq (g2 := F0 m 147 ls [.ref a_o]) rfl ?_
                        refine va_get (D := G.1) (ci := 11) (v := .ref a_wa) (C := RX11) (T := TX11) (N := 17) hx hb hts inG_X11 hown hK hP 0 rfl rfl 4 (by decide +kernel) (hts _ fl_X11_38) (fun _ h9 => h9) rfl dX11_wander_147 ?_
                        refine va_get (D := G.1) (ci := 10) (v := .ref a_bo) (C := RX10) (T := TX10) (N := 3) hx hb hts inG_X10 hown hK hP 21 rfl rfl 2 (by decide +kernel) (hts _ fl_X11_257) (fun _ h9 => h9) rfl dX11_wander_150 ?_
                        refine lv_iload hx hb dX11_wander_153 (lv_at hl 4 rfl) ?_
                        refine va_lald hx hb hK hP 22 1 rfl rfl (i := k_i) (vp_in_iff.mpr ⟨by omega, by omega⟩) dX11_wander_155 ?_
                        refine lv_iload hx hb dX11_wander_156 (lv_at hl 0 rfl) ?_
                        refine W.eq (g2 := F0 m 158 ls [.int k_a, .long (z25 k_i.toNatClampNeg)]) rfl ?_
                        obtain ⟨hPc, hDc, hFc⟩ := g5_sub3 (wc := []) hP hD hS hA [] (by decide +kernel) rfl
                        refine va_calli (va_runS (As := [.long (z25 k_i.toNatClampNeg), .int k_a]) (rest := []) ⟨hx, hb, hml, hown, hts⟩ (k_isOn l G H.size k_a (z25 k_i.toNatClampNeg) i_26) (va_cwS 2 hts gS_X11_115 rfl rfl rfl hs_X11_isOn ⟨Nat.le_of_ble_eq_true rfl, Nat.le_of_ble_eq_true rfl⟩) (g5_preS hPc hK hDc hN hT hS hFc) rfl rfl hl.1 rfl (lv_room (Nat.le_of_ble_eq_true rfl)) dX11_wander_158 ⟨Nat.le_of_ble_eq_true rfl, Nat.le_of_ble_eq_true rfl⟩) hS (fun q _ h => hFc q h) hFc (fun r u t H locs ht hvm hw hB hz1 hk1 hS => ?_)
                        obtain ⟨hP1, hD1⟩ := hB
                        have hP1 := g5_ht ht hP1
                        rcases hw with ⟨(i_63 : onB (z25 k_i.toNatClampNeg) k_a.toInt = false), rfl, rfl⟩ | ⟨(i_64 : onB (z25 k_i.toNatClampNeg) k_a.toInt = true), rfl, rfl⟩
                        ·
                          have hJ9 := g5_same hP hk1
                          clear hP hPc hDc hFc ht hvm hz1 hk1 hP1 hD1
                          have hP := hJ9
                          clear hJ9
                          refine lv_if_eq (tgt := 167) hx hb dX11_wander_161 (by decide +kernel) (fun c_65 => ?_) (fun c_65 => ?_)
                          ·
                            refine lv_iinc (v := (k_i + 1)) (lv' := [(7, .int (k_i + 1)), (5, .int k_a), (8, .int z44), (3, .long (((k_d * 1103) + 12345) - ((k_d * 1103) + 12345) / 1000003 * 1000003)), (6, .int k_n), (0, .ref a_o), (1, .int p_s), (2, .int p_c)]) hx hb dX11_wander_167 hl (k := 4) rfl rfl (by decide +kernel) rfl ?_
                            clear hl
                            intro ls hl
                            have t_66 : (k_i + 1).toInt = k_i.toInt + 1 := g5_iadd (a := k_i.toInt) (b := 1) rfl (by decide +kernel) (by omega) (by omega)
                            refine lv_goto (tgt := 68) hx hb dX11_wander_170 (by decide +kernel) ?_
                            exact ih_68_31 ((((k_d * 1103) + 12345) - ((k_d * 1103) + 12345) / 1000003 * 1000003), k_a, k_n, (k_i + 1), (upd k_wd k_i.toNatClampNeg k_a)) ls H locs (show Int.toNat (24 - (k_i + 1).toInt) < Int.toNat (24 - k_i.toInt) from g_up (show k_i.toInt < (k_i + 1).toInt by omega) (show k_i.toInt < 24 by omega)) ⟨lv_sub hl [3, 1, 4, 0, 5, 6, 7] rfl, hP, hD, hS, i_26, ⟨by omega, by omega⟩, by rw [show (k_i + 1).toInt.toNat - 1 = (k_i.toInt.toNat - 1) + 1 by omega, wdS_S, ← i_28]; rfl, by rw [show (k_i + 1).toInt.toNat - 1 = (k_i.toInt.toNat - 1) + 1 by omega]; exact (by rw [wdC_S (wdk_of i_28 hy_41), ← i_29, ws_w (by rw [← i_42]; exact wl_y e_hh (by omega) ⟨by omega, i_54⟩)]), by rw [show (k_i + 1).toInt.toNat = k_i.toInt.toNat + 1 by omega]; exact wdR_S i_30 rfl (by rw [show k_i.toInt.toNat = (k_i.toInt.toNat - 1) + 1 by omega]; exact (by rw [wdC_S (wdk_of i_28 hy_41), ← i_29, ws_w (by rw [← i_42]; exact wl_y e_hh (by omega) ⟨by omega, i_54⟩)]))⟩
                          ·
                            exact absurd c_65 (by decide +kernel)
                        ·
                          have hJ9 := g5_same hP hk1
                          clear hP hPc hDc hFc ht hvm hz1 hk1 hP1 hD1
                          have hP := hJ9
                          clear hJ9
                          refine lv_if_eq (tgt := 167) hx hb dX11_wander_161 (by decide +kernel) (fun c_67 => ?_) (fun c_67 => ?_)
                          ·
                            exact absurd c_67 (by decide +kernel)
                          ·
                            refine lv_iinc (v := (k_n + 1)) (lv' := [(6, .int (k_n + 1)), (5, .int k_a), (8, .int z44), (3, .long (((k_d * 1103) + 12345) - ((k_d * 1103) + 12345) / 1000003 * 1000003)), (7, .int k_i), (0, .ref a_o), (1, .int p_s), (2, .int p_c)]) hx hb dX11_wander_164 hl (k := 3) rfl rfl (by decide +kernel) rfl ?_
                            clear hl
                            intro ls hl
                            refine lv_iinc (v := (k_i + 1)) (lv' := [(7, .int (k_i + 1)), (6, .int (k_n + 1)), (5, .int k_a), (8, .int z44), (3, .long (((k_d * 1103) + 12345) - ((k_d * 1103) + 12345) / 1000003 * 1000003)), (0, .ref a_o), (1, .int p_s), (2, .int p_c)]) hx hb dX11_wander_167 hl (k := 4) rfl rfl (by decide +kernel) rfl ?_
                            clear hl
                            intro ls hl
                            have t_68 : (k_i + 1).toInt = k_i.toInt + 1 := g5_iadd (a := k_i.toInt) (b := 1) rfl (by decide +kernel) (by omega) (by omega)
                            refine lv_goto (tgt := 68) hx hb dX11_wander_170 (by decide +kernel) ?_
                            exact ih_68_31 ((((k_d * 1103) + 12345) - ((k_d * 1103) + 12345) / 1000003 * 1000003), k_a, (k_n + 1), (k_i + 1), (upd k_wd k_i.toNatClampNeg k_a)) ls H locs (show Int.toNat (24 - (k_i + 1).toInt) < Int.toNat (24 - k_i.toInt) from g_up (show k_i.toInt < (k_i + 1).toInt by omega) (show k_i.toInt < 24 by omega)) ⟨lv_sub hl [4, 2, 1, 0, 5, 6, 7] rfl, hP, hD, hS, i_26, ⟨by omega, by omega⟩, by rw [show (k_i + 1).toInt.toNat - 1 = (k_i.toInt.toNat - 1) + 1 by omega, wdS_S, ← i_28]; rfl, by rw [show (k_i + 1).toInt.toNat - 1 = (k_i.toInt.toNat - 1) + 1 by omega]; exact (by rw [wdC_S (wdk_of i_28 hy_41), ← i_29, ws_w (by rw [← i_42]; exact wl_y e_hh (by omega) ⟨by omega, i_54⟩)]), by rw [show (k_i + 1).toInt.toNat = k_i.toInt.toNat + 1 by omega]; exact wdR_S i_30 rfl (by rw [show k_i.toInt.toNat = (k_i.toInt.toNat - 1) + 1 by omega]; exact (by rw [wdC_S (wdk_of i_28 hy_41), ← i_29, ws_w (by rw [← i_42]; exact wl_y e_hh (by omega) ⟨by omega, i_54⟩)]))⟩
            ·
              exact absurd c_10 (by decide +kernel)
          ·
            have hJ9 := g5_same hP hk1
            clear hP hPc hDc hFc ht hvm hz1 hk1 hP1 hD1
            have hP := hJ9
            clear hJ9
            refine lv_if_eq (tgt := 44) hx hb dX11_wander_34 (by decide +kernel) (fun c_69 => ?_) (fun c_69 => ?_)
            ·
              exact absurd c_69 (by decide +kernel)
            ·
              refine lv_aload_n hx hb dX11_wander_37 rfl (lv_at hl 0 rfl) ?_
              refine lv_bipush (v := (-3)) hx hb dX11_wander_38 (by decide +kernel) ?_
              obtain ⟨hPc, hDc, hFc⟩ := g5_sub3 (wc := [(a_o, (oc11 a_h a_im a_ke a_k a_wa a_th a_ha a_wk a_r a_x e_tl e_fd e_fpl a_wd e_wn a_rf e_lr)), (a_rf, (arI G 5 f_rf))]) hP hD hS hA [0, 1] (by decide +kernel) rfl
              refine va_calli (va_runV (As := [.int (-3)]) (rest := []) ⟨hx, hb, hml, hown, hts⟩ (x_refuse3 l G a_o a_rf a_h a_im a_ke a_k a_wa a_th a_ha a_wk a_r a_x a_wd H.size e_tl e_fd e_fpl e_wn e_lr f_rf h_e_tl h_e_wn) (cwV 1 hts gV_X11_104 rfl rfl rfl hv_X11_refuse ⟨Nat.le_of_ble_eq_true rfl, Nat.le_of_ble_eq_true rfl⟩) (g5_preV hPc hK hDc hN hT hS hFc (ci := 11) (q0 := 0) rfl rfl) rfl rfl hl.1 rfl (lv_room (Nat.le_of_ble_eq_true rfl)) dX11_wander_40 ⟨Nat.le_of_ble_eq_true rfl, Nat.le_of_ble_eq_true rfl⟩) hS (fun q _ h => hFc q h) hFc (fun r u t H locs ht hvm hw hB hz1 hk1 hS => ?_)
              obtain ⟨hP1, hD1⟩ := hB
              have hP1 := g5_ht ht hP1
              obtain ⟨z70, rfl, rfl⟩ := hw
              have hJ9 := va_join (wr := [(a_k, (oc5 a_h a_j a_pt e_ln e_se e_lh e_br e_we e_me e_ce e_wy e_ho e_ov)), (a_h, (oc1 e_wa e_le e_st e_fo e_lc a_l a_g a_b a_s a_p a_w e_gb a_bb)), (a_g, (oc6 6 5 a_gn e_g)), (a_gn, (arI G 30 f_g)), (a_b, (oc6 5 24 a_bn e_b)), (a_bn, (arI G 120 f_b)), (a_p, (oc6 8 5 a_pn e_p)), (a_pn, (arI G 40 f_p)), (a_bb, (arJ G 24 f_bb)), (a_j, (oc2 a_as a_sk)), (a_as, (arI G 8 f_as)), (a_sk, (arJ G 50 f_sk)), (a_l, (arW G 6 f_l)), (a_lo, (oc3 e_cl a_hd a_sr a_cd)), (a_sr, (arI G n_sr f_sr)), (a_cd, (arI G n_cd f_cd)), (a_hd, (arI G n_hd f_hd)), (a_pt, (arI G 200 f_pt)), (a_wa, (oc10 a_h a_k a_bo)), (a_bo, (arJ G 24 f_bo)), (a_wd, (arI G 24 f_wd))]) hP hD [0, 1] [2, 3, 4, 5, 6, 7, 8, 9, 10, 11, 12, 13, 14, 15, 16, 17, 18, 19, 20, 21, 22] rfl rfl (by decide +kernel) (by decide +kernel) hk1 hFc hP1 hD1
              clear hP hD hPc hDc hFc ht hvm hz1 hk1 hP1 hD1
              obtain ⟨hP, hD⟩ := hJ9
              refine g5_rs [(a_k, (oc5 a_h a_j a_pt e_ln e_se e_lh e_br e_we e_me e_ce e_wy e_ho e_ov)), (a_h, (oc1 e_wa e_le e_st e_fo e_lc a_l a_g a_b a_s a_p a_w e_gb a_bb)), (a_g, (oc6 6 5 a_gn e_g)), (a_gn, (arI G 30 f_g)), (a_b, (oc6 5 24 a_bn e_b)), (a_bn, (arI G 120 f_b)), (a_p, (oc6 8 5 a_pn e_p)), (a_pn, (arI G 40 f_p)), (a_bb, (arJ G 24 f_bb)), (a_j, (oc2 a_as a_sk)), (a_as, (arI G 8 f_as)), (a_sk, (arJ G 50 f_sk)), (a_l, (arW G 6 f_l)), (a_lo, (oc3 e_cl a_hd a_sr a_cd)), (a_sr, (arI G n_sr f_sr)), (a_cd, (arI G n_cd f_cd)), (a_hd, (arI G n_hd f_hd)), (a_pt, (arI G 200 f_pt)), (a_wa, (oc10 a_h a_k a_bo)), (a_bo, (arJ G 24 f_bo)), (a_wd, (arI G 24 f_wd)), (a_o, (oc11 a_h a_im a_ke a_k a_wa a_th a_ha a_wk a_r a_x e_tl e_fd e_fpl a_wd e_wn a_rf (-3))), (a_rf, (arI G 5 z70))] hP hD ?_
              clear hP hD
              intro hP hD
              exact W.iret (v := (-3)) hx hb hr (fun t ht hW => ⟨⟨(-3), [(a_o, (oc11 a_h a_im a_ke a_k a_wa a_th a_ha a_wk a_r a_x e_tl e_fd e_fpl a_wd e_wn a_rf (-3))), (a_rf, (arI G 5 z70)), (a_k, (oc5 a_h a_j a_pt e_ln e_se e_lh e_br e_we e_me e_ce e_wy e_ho e_ov)), (a_h, (oc1 e_wa e_le e_st e_fo e_lc a_l a_g a_b a_s a_p a_w e_gb a_bb)), (a_g, (oc6 6 5 a_gn e_g)), (a_gn, (arI G 30 f_g)), (a_b, (oc6 5 24 a_bn e_b)), (a_bn, (arI G 120 f_b)), (a_p, (oc6 8 5 a_pn e_p)), (a_pn, (arI G 40 f_p)), (a_bb, (arJ G 24 f_bb)), (a_j, (oc2 a_as a_sk)), (a_as, (arI G 8 f_as)), (a_sk, (arJ G 50 f_sk)), (a_l, (arW G 6 f_l)), (a_lo, (oc3 e_cl a_hd a_sr a_cd)), (a_sr, (arI G n_sr f_sr)), (a_cd, (arI G n_cd f_cd)), (a_hd, (arI G n_hd f_hd)), (a_pt, (arI G 200 f_pt)), (a_wa, (oc10 a_h a_k a_bo)), (a_bo, (arJ G 24 f_bo)), (a_wd, (arI G 24 f_wd))], rfl, ⟨(-3), (-3), z70, e_wn, e_ln, e_se, e_lh, e_br, e_we, e_me, e_ce, e_wy, e_ho, e_ov, f_pt, f_as, f_sk, f_bo, f_wd, h_e_ov, h_e_wn, (wand_3 (f := f_ro) (g := f_wd) (n := e_wn) (s := p_s) (c := p_c) (wl_y e_hh (by omega) ⟨by omega, i_9⟩)).1.symm, (wand_3 (f := f_ro) (g := f_wd) (n := e_wn) (s := p_s) (c := p_c) (wl_y e_hh (by omega) ⟨by omega, i_9⟩)).2.symm, rfl, rfl⟩, by rw [ht]; exact hP.sub [21, 22, 0, 1, 2, 3, 4, 5, 6, 7, 8, 9, 10, 11, 12, 13, 14, 15, 16, 17, 18, 19, 20] rfl, hD.sub [21, 22, 0, 1, 2, 3, 4, 5, 6, 7, 8, 9, 10, 11, 12, 13, 14, 15, 16, 17, 18, 19, 20] (by decide +kernel) rfl⟩, hS.F ht⟩) hS.2.2 dX11_wander_43
        ·
          exact absurd c_7 (by decide +kernel)
      ·
        have hJ9 := g5_same hP hk1
        clear hP hPc hDc hFc ht hvm hz1 hk1 hP1 hD1
        have hP := hJ9
        clear hJ9
        refine lv_if_ne (tgt := 23) hx hb dX11_wander_14 (by decide +kernel) (fun c_71 => ?_) (fun c_71 => ?_)
        ·
          exact absurd c_71 (by decide +kernel)
        ·
          refine lv_aload_n hx hb dX11_wander_17 rfl (lv_at hl 0 rfl) ?_
          refine lv_iconst (v := (-1)) hx hb dX11_wander_18 (by decide +kernel) ?_
          obtain ⟨hPc, hDc, hFc⟩ := g5_sub3 (wc := [(a_o, (oc11 a_h a_im a_ke a_k a_wa a_th a_ha a_wk a_r a_x e_tl e_fd e_fpl a_wd e_wn a_rf e_lr)), (a_rf, (arI G 5 f_rf))]) hP hD hS hA [0, 1] (by decide +kernel) rfl
          refine va_calli (va_runV (As := [.int (-1)]) (rest := []) ⟨hx, hb, hml, hown, hts⟩ (x_refuse1 l G a_o a_rf a_h a_im a_ke a_k a_wa a_th a_ha a_wk a_r a_x a_wd H.size e_tl e_fd e_fpl e_wn e_lr f_rf h_e_tl h_e_wn) (cwV 1 hts gV_X11_104 rfl rfl rfl hv_X11_refuse ⟨Nat.le_of_ble_eq_true rfl, Nat.le_of_ble_eq_true rfl⟩) (g5_preV hPc hK hDc hN hT hS hFc (ci := 11) (q0 := 0) rfl rfl) rfl rfl hl.1 rfl (lv_room (Nat.le_of_ble_eq_true rfl)) dX11_wander_19 ⟨Nat.le_of_ble_eq_true rfl, Nat.le_of_ble_eq_true rfl⟩) hS (fun q _ h => hFc q h) hFc (fun r u t H locs ht hvm hw hB hz1 hk1 hS => ?_)
          obtain ⟨hP1, hD1⟩ := hB
          have hP1 := g5_ht ht hP1
          obtain ⟨z72, rfl, rfl⟩ := hw
          have hJ9 := va_join (wr := [(a_k, (oc5 a_h a_j a_pt e_ln e_se e_lh e_br e_we e_me e_ce e_wy e_ho e_ov)), (a_h, (oc1 e_wa e_le e_st e_fo e_lc a_l a_g a_b a_s a_p a_w e_gb a_bb)), (a_g, (oc6 6 5 a_gn e_g)), (a_gn, (arI G 30 f_g)), (a_b, (oc6 5 24 a_bn e_b)), (a_bn, (arI G 120 f_b)), (a_p, (oc6 8 5 a_pn e_p)), (a_pn, (arI G 40 f_p)), (a_bb, (arJ G 24 f_bb)), (a_j, (oc2 a_as a_sk)), (a_as, (arI G 8 f_as)), (a_sk, (arJ G 50 f_sk)), (a_l, (arW G 6 f_l)), (a_lo, (oc3 e_cl a_hd a_sr a_cd)), (a_sr, (arI G n_sr f_sr)), (a_cd, (arI G n_cd f_cd)), (a_hd, (arI G n_hd f_hd)), (a_pt, (arI G 200 f_pt)), (a_wa, (oc10 a_h a_k a_bo)), (a_bo, (arJ G 24 f_bo)), (a_wd, (arI G 24 f_wd))]) hP hD [0, 1] [2, 3, 4, 5, 6, 7, 8, 9, 10, 11, 12, 13, 14, 15, 16, 17, 18, 19, 20, 21, 22] rfl rfl (by decide +kernel) (by decide +kernel) hk1 hFc hP1 hD1
          clear hP hD hPc hDc hFc ht hvm hz1 hk1 hP1 hD1
          obtain ⟨hP, hD⟩ := hJ9
          refine g5_rs [(a_k, (oc5 a_h a_j a_pt e_ln e_se e_lh e_br e_we e_me e_ce e_wy e_ho e_ov)), (a_h, (oc1 e_wa e_le e_st e_fo e_lc a_l a_g a_b a_s a_p a_w e_gb a_bb)), (a_g, (oc6 6 5 a_gn e_g)), (a_gn, (arI G 30 f_g)), (a_b, (oc6 5 24 a_bn e_b)), (a_bn, (arI G 120 f_b)), (a_p, (oc6 8 5 a_pn e_p)), (a_pn, (arI G 40 f_p)), (a_bb, (arJ G 24 f_bb)), (a_j, (oc2 a_as a_sk)), (a_as, (arI G 8 f_as)), (a_sk, (arJ G 50 f_sk)), (a_l, (arW G 6 f_l)), (a_lo, (oc3 e_cl a_hd a_sr a_cd)), (a_sr, (arI G n_sr f_sr)), (a_cd, (arI G n_cd f_cd)), (a_hd, (arI G n_hd f_hd)), (a_pt, (arI G 200 f_pt)), (a_wa, (oc10 a_h a_k a_bo)), (a_bo, (arJ G 24 f_bo)), (a_wd, (arI G 24 f_wd)), (a_o, (oc11 a_h a_im a_ke a_k a_wa a_th a_ha a_wk a_r a_x e_tl e_fd e_fpl a_wd e_wn a_rf (-1))), (a_rf, (arI G 5 z72))] hP hD ?_
          clear hP hD
          intro hP hD
          exact W.iret (v := (-1)) hx hb hr (fun t ht hW => ⟨⟨(-1), [(a_o, (oc11 a_h a_im a_ke a_k a_wa a_th a_ha a_wk a_r a_x e_tl e_fd e_fpl a_wd e_wn a_rf (-1))), (a_rf, (arI G 5 z72)), (a_k, (oc5 a_h a_j a_pt e_ln e_se e_lh e_br e_we e_me e_ce e_wy e_ho e_ov)), (a_h, (oc1 e_wa e_le e_st e_fo e_lc a_l a_g a_b a_s a_p a_w e_gb a_bb)), (a_g, (oc6 6 5 a_gn e_g)), (a_gn, (arI G 30 f_g)), (a_b, (oc6 5 24 a_bn e_b)), (a_bn, (arI G 120 f_b)), (a_p, (oc6 8 5 a_pn e_p)), (a_pn, (arI G 40 f_p)), (a_bb, (arJ G 24 f_bb)), (a_j, (oc2 a_as a_sk)), (a_as, (arI G 8 f_as)), (a_sk, (arJ G 50 f_sk)), (a_l, (arW G 6 f_l)), (a_lo, (oc3 e_cl a_hd a_sr a_cd)), (a_sr, (arI G n_sr f_sr)), (a_cd, (arI G n_cd f_cd)), (a_hd, (arI G n_hd f_hd)), (a_pt, (arI G 200 f_pt)), (a_wa, (oc10 a_h a_k a_bo)), (a_bo, (arJ G 24 f_bo)), (a_wd, (arI G 24 f_wd))], rfl, ⟨(-1), (-1), z72, e_wn, e_ln, e_se, e_lh, e_br, e_we, e_me, e_ce, e_wy, e_ho, e_ov, f_pt, f_as, f_sk, f_bo, f_wd, h_e_ov, h_e_wn, (wand_1 (f := f_ro) (g := f_wd) (n := e_wn) (s := p_s) (c := p_c) (fun q => by unfold okD at q; omega)).1.symm, (wand_1 (f := f_ro) (g := f_wd) (n := e_wn) (s := p_s) (c := p_c) (fun q => by unfold okD at q; omega)).2.symm, rfl, rfl⟩, by rw [ht]; exact hP.sub [21, 22, 0, 1, 2, 3, 4, 5, 6, 7, 8, 9, 10, 11, 12, 13, 14, 15, 16, 17, 18, 19, 20] rfl, hD.sub [21, 22, 0, 1, 2, 3, 4, 5, 6, 7, 8, 9, 10, 11, 12, 13, 14, 15, 16, 17, 18, 19, 20] (by decide +kernel) rfl⟩, hS.F ht⟩) hS.2.2 dX11_wander_22
set_option maxHeartbeats 4000000 in
set_option maxRecDepth 100000 in
theorem x_drawnX (l : Launch) (G : g5_G) (a_o a_wd a_h a_im a_ke a_k a_wa a_th a_ha a_wk a_r a_x a_rf : Nat) (sz : Nat) (e_tl : Int32) (e_fd : Int32) (e_fpl : Int32) (e_wn : Int32) (e_lr : Int32) (p_h : Int32) (f_wd : Nat → Int32) (h_e_tl : 0 ≤ e_tl.toInt ∧ e_tl.toInt ≤ 400) (h_e_wn : 0 ≤ e_wn.toInt ∧ e_wn.toInt ≤ 1) : Met l yX11_drawn (wsG yX11_drawn cX11_drawn 2 (some .int)) ({ frames := 1, cells := 0, slots := 0, locals := 20 }) (va_Pc [.ref a_o, .int p_h] (g5_P G [(a_o, (oc11 a_h a_im a_ke a_k a_wa a_th a_ha a_wk a_r a_x e_tl e_fd e_fpl a_wd e_wn a_rf e_lr)), (a_wd, (arI G 24 f_wd))] sz)) (va_Qi (fun (r : Int32) (u : va_W) => (∃ (o_r : Int32), (o_r = adrawn f_wd e_wn p_h) ∧ (r = o_r) ∧ (u = [(a_o, (oc11 a_h a_im a_ke a_k a_wa a_th a_ha a_wk a_r a_x e_tl e_fd e_fpl a_wd e_wn a_rf e_lr)), (a_wd, (arI G 24 f_wd))]))) (g5_B G (va_A [(a_o, (oc11 a_h a_im a_ke a_k a_wa a_th a_ha a_wk a_r a_x e_tl e_fd e_fpl a_wd e_wn a_rf e_lr)), (a_wd, (arI G 24 f_wd))] sz)) (va_A [(a_o, (oc11 a_h a_im a_ke a_k a_wa a_th a_ha a_wk a_r a_x e_tl e_fd e_fpl a_wd e_wn a_rf e_lr)), (a_wd, (arI G 24 f_wd))] sz)) 0 0 (va_A [(a_o, (oc11 a_h a_im a_ke a_k a_wa a_th a_ha a_wk a_r a_x e_tl e_fd e_fpl a_wd e_wn a_rf e_lr)), (a_wd, (arI G 24 f_wd))] sz) := by
  refine Met.ofW (cc := cX11_drawn) (maxL := 2) (ret := (some .int)) (by decide +kernel) rfl ?_
  intro p e s m args below meth c s₁ B hml hv
  obtain ⟨rfl, hsz, hP, hK, hD0, hN, hT⟩ := hv
  have hx := B.exec
  have hb := B.bytes
  have hr := B.returns
  have hts : ∀ w ∈ tblG, w.before _ s = true := fun w h => atoms_spec (ws := (wsG yX11_drawn cX11_drawn 2 (some .int))) B.pre w (List.mem_cons_of_mem _ h)
  have hown : s.vm.findClass RX11 = some m.cls := findClass_of_methodNamed B.named
  have hlocks := B.notSynchronized
  subst hsz
  have hD := hD0.self (sz := s.heap.size)
  generalize hAe : va_A [(a_o, (oc11 a_h a_im a_ke a_k a_wa a_th a_ha a_wk a_r a_x e_tl e_fd e_fpl a_wd e_wn a_rf e_lr)), (a_wd, (arI G 24 f_wd))] s.heap.size = A at hD hT ⊢
  have hA : ∀ q : Nat, s.heap.size ≤ q → A q := fun q h => by rw [← hAe]; exact Or.inr h
  have hS : va_S A s.heap s.heap [] := va_S.rf
  replace hP : va_P G.1 vwCl [(a_o, (oc11 a_h a_im a_ke a_k a_wa a_th a_ha a_wk a_r a_x e_tl e_fd e_fpl a_wd e_wn a_rf e_lr)), (a_wd, (arI G 24 f_wd))] s.heap := hP
  have hl := lv_entry ([.ref a_o, .int p_h]) (n := 2) (Nat.le_of_ble_eq_true rfl)
  rw [lg_entry_eq]
  generalize (lg_sl ([.ref a_o, .int p_h]) ++ List.replicate (2 - (lg_sl ([.ref a_o, .int p_h])).length) Slot.unset).toArray = ls at hl ⊢
  replace hl : lv_has ls 2 [(0, .ref a_o), (1, .int p_h)] := hl
  refine lv_aload_n hx hb dX11_drawn_0 rfl (lv_at hl 0 rfl) ?_
  refine va_get (D := G.1) (ci := 11) (v := .int e_wn) (C := RX11) (T := TX11) (N := 17) hx hb hts inG_X11 hown hK hP 0 rfl rfl 14 (by decide +kernel) (hts _ fl_X11_87) (fun _ h9 => h9) rfl dX11_drawn_1 ?_
  refine lv_if_eq (tgt := 23) hx hb dX11_drawn_4 (by decide +kernel) (fun c_1 => ?_) (fun c_1 => ?_)
  ·
    have i_1 : e_wn.toInt = 0 := g5_eq (a := e_wn.toInt) (b := 0) rfl (by decide +kernel) c_1
    refine lv_iconst (v := (-1)) hx hb dX11_drawn_23 (by decide +kernel) ?_
    exact W.iret (v := (-1)) hx hb hr (fun t ht hW => ⟨⟨(-1), [(a_o, (oc11 a_h a_im a_ke a_k a_wa a_th a_ha a_wk a_r a_x e_tl e_fd e_fpl a_wd e_wn a_rf e_lr)), (a_wd, (arI G 24 f_wd))], rfl, ⟨(-1), (cif_f (fun q => by have q1 := q.1; have q2 := q.2; omega)).symm, rfl, rfl⟩, by rw [ht]; exact hP.sub [0, 1] rfl, hD.sub [0, 1] (by decide +kernel) rfl⟩, hS.F ht⟩) hS.2.2 dX11_drawn_24
  ·
    have n_1 : gNe (e_wn.toInt) (0) := g5_eqN (a := e_wn.toInt) (b := 0) rfl (by decide +kernel) c_1
    have i_1 : e_wn.toInt ≥ 1 := by have z := g5_eqN (a := e_wn.toInt) (b := 0) (by rfl) (by decide +kernel) c_1; omega
    refine lv_iload_n hx hb dX11_drawn_7 rfl (lv_at hl 1 rfl) ?_
    obtain ⟨hPc, hDc, hFc⟩ := g5_sub3 (wc := []) hP hD hS hA [] (by decide +kernel) rfl
    refine va_calli (va_runS (As := [.int p_h]) (rest := []) ⟨hx, hb, hml, hown, hts⟩ (x_isHourX l G s.heap.size p_h) (va_cwS 1 hts gS_X11_127 rfl rfl rfl hs_X11_isHour ⟨Nat.le_of_ble_eq_true rfl, Nat.le_of_ble_eq_true rfl⟩) (g5_preS hPc hK hDc hN hT hS hFc) rfl rfl hl.1 rfl (lv_room (Nat.le_of_ble_eq_true rfl)) dX11_drawn_8 ⟨Nat.le_of_ble_eq_true rfl, Nat.le_of_ble_eq_true rfl⟩) hS (fun q _ h => hFc q h) hFc (fun r u t H locs ht hvm hw hB hz1 hk1 hS => ?_)
    obtain ⟨hP1, hD1⟩ := hB
    have hP1 := g5_ht ht hP1
    rcases hw with ⟨(i_2 : 0 ≤ p_h.toInt ∧ p_h.toInt ≤ 23), rfl, rfl⟩ | ⟨(i_3 : p_h.toInt < 0 ∨ 23 < p_h.toInt), rfl, rfl⟩
    ·
      have hJ9 := g5_same hP hk1
      clear hP hPc hDc hFc ht hvm hz1 hk1 hP1 hD1
      have hP := hJ9
      clear hJ9
      refine lv_if_eq (tgt := 23) hx hb dX11_drawn_11 (by decide +kernel) (fun c_4 => ?_) (fun c_4 => ?_)
      ·
        exact absurd c_4 (by decide +kernel)
      ·
        refine lv_aload_n hx hb dX11_drawn_14 rfl (lv_at hl 0 rfl) ?_
        refine va_get (D := G.1) (ci := 11) (v := .ref a_wd) (C := RX11) (T := TX11) (N := 17) hx hb hts inG_X11 hown hK hP 0 rfl rfl 13 (by decide +kernel) (hts _ fl_X11_84) (fun _ h9 => h9) rfl dX11_drawn_15 ?_
        refine lv_iload_n hx hb dX11_drawn_18 rfl (lv_at hl 1 rfl) ?_
        refine va_iald hx hb hK hP 1 0 rfl rfl (i := p_h) (vp_in_iff.mpr ⟨by omega, by omega⟩) dX11_drawn_19 ?_
        refine W.eq (g2 := F0 m 20 ls [.int (f_wd p_h.toNatClampNeg)]) rfl ?_
        refine lv_goto (tgt := 24) hx hb dX11_drawn_20 (by decide +kernel) ?_
        exact W.iret (v := (f_wd p_h.toNatClampNeg)) hx hb hr (fun t ht hW => ⟨⟨(f_wd p_h.toNatClampNeg), [(a_o, (oc11 a_h a_im a_ke a_k a_wa a_th a_ha a_wk a_r a_x e_tl e_fd e_fpl a_wd e_wn a_rf e_lr)), (a_wd, (arI G 24 f_wd))], rfl, ⟨(f_wd p_h.toNatClampNeg), (cif_t ⟨by omega, by omega, by omega⟩).symm, rfl, rfl⟩, by rw [ht]; exact hP.sub [0, 1] rfl, hD.sub [0, 1] (by decide +kernel) rfl⟩, hS.F ht⟩) hS.2.2 dX11_drawn_24
    ·
      have hJ9 := g5_same hP hk1
      clear hP hPc hDc hFc ht hvm hz1 hk1 hP1 hD1
      have hP := hJ9
      clear hJ9
      refine lv_if_eq (tgt := 23) hx hb dX11_drawn_11 (by decide +kernel) (fun c_5 => ?_) (fun c_5 => ?_)
      ·
        refine lv_iconst (v := (-1)) hx hb dX11_drawn_23 (by decide +kernel) ?_
        exact W.iret (v := (-1)) hx hb hr (fun t ht hW => ⟨⟨(-1), [(a_o, (oc11 a_h a_im a_ke a_k a_wa a_th a_ha a_wk a_r a_x e_tl e_fd e_fpl a_wd e_wn a_rf e_lr)), (a_wd, (arI G 24 f_wd))], rfl, ⟨(-1), (cif_f (fun q => by have q1 := q.1; have q2 := q.2; omega)).symm, rfl, rfl⟩, by rw [ht]; exact hP.sub [0, 1] rfl, hD.sub [0, 1] (by decide +kernel) rfl⟩, hS.F ht⟩) hS.2.2 dX11_drawn_24
      ·
        exact absurd c_5 (by decide +kernel)
set_option maxHeartbeats 4000000 in
set_option maxRecDepth 100000 in
theorem n_besideE (l : Launch) (G : g5_G) (sz : Nat) (p_0 : Int32) (p_1 : Int32) (h_p_0 : 0 ≤ p_0.toInt ∧ p_0.toInt ≤ 63) (h_p_1 : 0 ≤ p_1.toInt ∧ p_1.toInt ≤ 3) : Met l yX12_beside (wsG yX12_beside cX12_beside 2 (some .int)) ({ frames := 0, cells := 0, slots := 0, locals := 0 }) (va_Pc [.int p_0, .int p_1] (g5_P G [] sz)) (va_Qi (fun (r : Int32) (u : va_W) => (∃ (o_r : Int32), (o_r.toInt = bs p_0.toInt p_1.toInt) ∧ (-1 ≤ o_r.toInt ∧ o_r.toInt ≤ 63) ∧ (r = o_r) ∧ (u = []))) (g5_B G (va_A [] sz)) (va_A [] sz)) 0 0 (va_A [] sz) := by
  refine Met.ofW (cc := cX12_beside) (maxL := 2) (ret := (some .int)) (by decide) rfl ?_
  intro p e s m args below meth c s₁ B hml hv
  obtain ⟨rfl, hsz, hP, hK, hD0, hN, hT⟩ := hv
  have hx := B.exec
  have hb := B.bytes
  have hr := B.returns
  have hts : ∀ w ∈ tblG, w.before _ s = true := fun w h => atoms_spec (ws := (wsG yX12_beside cX12_beside 2 (some .int))) B.pre w (List.mem_cons_of_mem _ h)
  have hown : s.vm.findClass RX12 = some m.cls := findClass_of_methodNamed B.named
  have hlocks := B.notSynchronized
  subst hsz
  have hD := hD0.self (sz := s.heap.size)
  generalize hAe : va_A [] s.heap.size = A at hD hT ⊢
  have hA : ∀ q : Nat, s.heap.size ≤ q → A q := fun q h => by rw [← hAe]; exact Or.inr h
  have hS : va_S A s.heap s.heap [] := va_S.rf
  have hP : va_P G.1 vwCl [] s.heap := hP
  have hl := lv_entry ([.int p_0, .int p_1]) (n := 2) (Nat.le_of_ble_eq_true rfl)
  rw [lg_entry_eq]
  generalize (lg_sl ([.int p_0, .int p_1]) ++ List.replicate (2 - (lg_sl ([.int p_0, .int p_1])).length) Slot.unset).toArray = ls at hl ⊢
  have hl : lv_has ls 2 [(0, .int p_0), (1, .int p_1)] := hl
  refine lv_iload_n hx hb dX12_beside_0 rfl (lv_at hl 1 rfl) ?_
  rcases (show p_1.toInt = 0 ∨ p_1.toInt = 1 ∨ p_1.toInt = 2 ∨ p_1.toInt > 2 by omega) with s_1 | s_1 | s_1 | s_1
  ·
    have i_1 : p_1.toInt = 0 := by omega
    refine lv_tableIn (tgt := 28) hx hb dX12_beside_1 (by omega) (by omega) (by rw [s_1]; rfl) (by decide) ?_
    refine lv_iload_n hx hb dX12_beside_28 rfl (lv_at hl 0 rfl) ?_
    refine lv_bipush (v := 8) hx hb dX12_beside_29 (by decide) ?_
    refine lv_icmp_lt (tgt := 41) hx hb dX12_beside_31 (by decide) (fun c_2 => ?_) (fun c_2 => ?_)
    ·
      have i_2 : p_0.toInt < 8 := by have z := g5_lt (a := p_0.toInt) (b := 8) (by rfl) (by decide) c_2; omega
      refine lv_iconst (v := (-1)) hx hb dX12_beside_41 (by decide) ?_
      exact W.iret (v := (-1)) hx hb hr (fun t ht hW => ⟨⟨(-1), [], rfl, ⟨(-1), by have zc_o_r : ((-1) : Int32).toInt = (-1) := (by decide); unfold bs; omega, ⟨by have zc_o_r : ((-1) : Int32).toInt = (-1) := (by decide); omega, by have zc_o_r : ((-1) : Int32).toInt = (-1) := (by decide); omega⟩, rfl, rfl⟩, by rw [ht]; exact hP.sub [] rfl, hD.sub [] (by decide) rfl⟩, hS.F ht⟩) hS.2.2 dX12_beside_42
    ·
      have i_2 : p_0.toInt ≥ 8 := by have z := g5_ltN (a := p_0.toInt) (b := 8) (by rfl) (by decide) c_2; omega
      refine lv_iload_n hx hb dX12_beside_34 rfl (lv_at hl 0 rfl) ?_
      refine lv_bipush (v := 8) hx hb dX12_beside_35 (by decide) ?_
      refine lv_isub hx hb dX12_beside_37 ?_
      have t_3 : (p_0 - 8).toInt = p_0.toInt - 8 := g5_isub (a := p_0.toInt) (b := 8) (by rfl) (by decide) (by omega) (by omega)
      refine lv_goto (tgt := 42) hx hb dX12_beside_38 (by decide) ?_
      refine W.eq (g2 := F0 m 42 ls [.int (p_0 - 8)]) rfl ?_
      exact W.iret (v := (p_0 - 8)) hx hb hr (fun t ht hW => ⟨⟨(p_0 - 8), [], rfl, ⟨(p_0 - 8), by unfold bs; omega, ⟨by omega, by omega⟩, rfl, rfl⟩, by rw [ht]; exact hP.sub [] rfl, hD.sub [] (by decide) rfl⟩, hS.F ht⟩) hS.2.2 dX12_beside_42
  ·
    have i_1 : p_1.toInt = 1 := by omega
    refine lv_tableIn (tgt := 43) hx hb dX12_beside_1 (by omega) (by omega) (by rw [s_1]; rfl) (by decide) ?_
    refine lv_iload_n hx hb dX12_beside_43 rfl (lv_at hl 0 rfl) ?_
    refine lv_bipush (v := 8) hx hb dX12_beside_44 (by decide) ?_
    refine lv_irem hx hb dX12_beside_46 (by decide) ?_
    have t_4 : (p_0 - p_0 / 8 * 8).toInt = p_0.toInt % 8 := g5_irem (a := p_0.toInt) (b := 8) rfl (by decide) (by omega) (by decide)
    refine lv_bipush (v := 7) hx hb dX12_beside_47 (by decide) ?_
    refine W.eq (g2 := F0 m 49 ls [.int 7, .int (p_0 - p_0 / 8 * 8)]) rfl ?_
    refine lv_icmp_ge (tgt := 58) hx hb dX12_beside_49 (by decide) (fun c_5 => ?_) (fun c_5 => ?_)
    ·
      have i_5 : (p_0.toInt % 8) ≥ 7 := by have z := g5_ge (a := (p_0 - p_0 / 8 * 8).toInt) (b := 7) (by rfl) (by decide) c_5; omega
      refine lv_iconst (v := (-1)) hx hb dX12_beside_58 (by decide) ?_
      exact W.iret (v := (-1)) hx hb hr (fun t ht hW => ⟨⟨(-1), [], rfl, ⟨(-1), by have zc_o_r : ((-1) : Int32).toInt = (-1) := (by decide); unfold bs; omega, ⟨by have zc_o_r : ((-1) : Int32).toInt = (-1) := (by decide); omega, by have zc_o_r : ((-1) : Int32).toInt = (-1) := (by decide); omega⟩, rfl, rfl⟩, by rw [ht]; exact hP.sub [] rfl, hD.sub [] (by decide) rfl⟩, hS.F ht⟩) hS.2.2 dX12_beside_59
    ·
      have i_5 : (p_0.toInt % 8) < 7 := by have z := g5_geN (a := (p_0 - p_0 / 8 * 8).toInt) (b := 7) (by rfl) (by decide) c_5; omega
      refine lv_iload_n hx hb dX12_beside_52 rfl (lv_at hl 0 rfl) ?_
      refine lv_iconst (v := 1) hx hb dX12_beside_53 (by decide) ?_
      refine lv_iadd hx hb dX12_beside_54 ?_
      have t_6 : (p_0 + 1).toInt = p_0.toInt + 1 := g5_iadd (a := p_0.toInt) (b := 1) (by rfl) (by decide) (by omega) (by omega)
      refine lv_goto (tgt := 59) hx hb dX12_beside_55 (by decide) ?_
      refine W.eq (g2 := F0 m 59 ls [.int (p_0 + 1)]) rfl ?_
      exact W.iret (v := (p_0 + 1)) hx hb hr (fun t ht hW => ⟨⟨(p_0 + 1), [], rfl, ⟨(p_0 + 1), by unfold bs; omega, ⟨by omega, by omega⟩, rfl, rfl⟩, by rw [ht]; exact hP.sub [] rfl, hD.sub [] (by decide) rfl⟩, hS.F ht⟩) hS.2.2 dX12_beside_59
  ·
    have i_1 : p_1.toInt = 2 := by omega
    refine lv_tableIn (tgt := 60) hx hb dX12_beside_1 (by omega) (by omega) (by rw [s_1]; rfl) (by decide) ?_
    refine lv_iload_n hx hb dX12_beside_60 rfl (lv_at hl 0 rfl) ?_
    refine lv_bipush (v := 56) hx hb dX12_beside_61 (by decide) ?_
    refine lv_icmp_ge (tgt := 73) hx hb dX12_beside_63 (by decide) (fun c_7 => ?_) (fun c_7 => ?_)
    ·
      have i_7 : p_0.toInt ≥ 56 := by have z := g5_ge (a := p_0.toInt) (b := 56) (by rfl) (by decide) c_7; omega
      refine lv_iconst (v := (-1)) hx hb dX12_beside_73 (by decide) ?_
      exact W.iret (v := (-1)) hx hb hr (fun t ht hW => ⟨⟨(-1), [], rfl, ⟨(-1), by have zc_o_r : ((-1) : Int32).toInt = (-1) := (by decide); unfold bs; omega, ⟨by have zc_o_r : ((-1) : Int32).toInt = (-1) := (by decide); omega, by have zc_o_r : ((-1) : Int32).toInt = (-1) := (by decide); omega⟩, rfl, rfl⟩, by rw [ht]; exact hP.sub [] rfl, hD.sub [] (by decide) rfl⟩, hS.F ht⟩) hS.2.2 dX12_beside_74
    ·
      have i_7 : p_0.toInt < 56 := by have z := g5_geN (a := p_0.toInt) (b := 56) (by rfl) (by decide) c_7; omega
      refine lv_iload_n hx hb dX12_beside_66 rfl (lv_at hl 0 rfl) ?_
      refine lv_bipush (v := 8) hx hb dX12_beside_67 (by decide) ?_
      refine lv_iadd hx hb dX12_beside_69 ?_
      have t_8 : (p_0 + 8).toInt = p_0.toInt + 8 := g5_iadd (a := p_0.toInt) (b := 8) (by rfl) (by decide) (by omega) (by omega)
      refine lv_goto (tgt := 74) hx hb dX12_beside_70 (by decide) ?_
      refine W.eq (g2 := F0 m 74 ls [.int (p_0 + 8)]) rfl ?_
      exact W.iret (v := (p_0 + 8)) hx hb hr (fun t ht hW => ⟨⟨(p_0 + 8), [], rfl, ⟨(p_0 + 8), by unfold bs; omega, ⟨by omega, by omega⟩, rfl, rfl⟩, by rw [ht]; exact hP.sub [] rfl, hD.sub [] (by decide) rfl⟩, hS.F ht⟩) hS.2.2 dX12_beside_74
  ·
    have i_1 : p_1.toInt > 2 := by omega
    refine lv_tableOut (tgt := 75) hx hb dX12_beside_1 (by omega) (by decide) ?_
    refine lv_iload_n hx hb dX12_beside_75 rfl (lv_at hl 0 rfl) ?_
    refine lv_bipush (v := 8) hx hb dX12_beside_76 (by decide) ?_
    refine lv_irem hx hb dX12_beside_78 (by decide) ?_
    have t_9 : (p_0 - p_0 / 8 * 8).toInt = p_0.toInt % 8 := g5_irem (a := p_0.toInt) (b := 8) rfl (by decide) (by omega) (by decide)
    refine lv_if_le (tgt := 88) hx hb dX12_beside_79 (by decide) (fun c_10 => ?_) (fun c_10 => ?_)
    ·
      have i_10 : (p_0.toInt % 8) ≤ 0 := by have z := g5_le (a := (p_0 - p_0 / 8 * 8).toInt) (b := 0) (by rfl) (by decide) c_10; omega
      refine lv_iconst (v := (-1)) hx hb dX12_beside_88 (by decide) ?_
      exact W.iret (v := (-1)) hx hb hr (fun t ht hW => ⟨⟨(-1), [], rfl, ⟨(-1), by have zc_o_r : ((-1) : Int32).toInt = (-1) := (by decide); unfold bs; omega, ⟨by have zc_o_r : ((-1) : Int32).toInt = (-1) := (by decide); omega, by have zc_o_r : ((-1) : Int32).toInt = (-1) := (by decide); omega⟩, rfl, rfl⟩, by rw [ht]; exact hP.sub [] rfl, hD.sub [] (by decide) rfl⟩, hS.F ht⟩) hS.2.2 dX12_beside_89
    ·
      have i_10 : (p_0.toInt % 8) > 0 := by have z := g5_leN (a := (p_0 - p_0 / 8 * 8).toInt) (b := 0) (by rfl) (by decide) c_10; omega
      refine lv_iload_n hx hb dX12_beside_82 rfl (lv_at hl 0 rfl) ?_
      refine lv_iconst (v := 1) hx hb dX12_beside_83 (by decide) ?_
      refine lv_isub hx hb dX12_beside_84 ?_
      have t_11 : (p_0 - 1).toInt = p_0.toInt - 1 := g5_isub (a := p_0.toInt) (b := 1) (by rfl) (by decide) (by omega) (by omega)
      refine lv_goto (tgt := 89) hx hb dX12_beside_85 (by decide) ?_
      refine W.eq (g2 := F0 m 89 ls [.int (p_0 - 1)]) rfl ?_
      exact W.iret (v := (p_0 - 1)) hx hb hr (fun t ht hW => ⟨⟨(p_0 - 1), [], rfl, ⟨(p_0 - 1), by unfold bs; omega, ⟨by omega, by omega⟩, rfl, rfl⟩, by rw [ht]; exact hP.sub [] rfl, hD.sub [] (by decide) rfl⟩, hS.F ht⟩) hS.2.2 dX12_beside_89
set_option maxHeartbeats 4000000 in
set_option maxRecDepth 100000 in
theorem n_wanderE (l : Launch) (G : g5_G) (b_o b_rf b_ro b_se b_re b_pt b_ip b_wn b_im b_ke b_tp b_nl b_op b_ar b_pi b_pa b_ws b_hw b_ah b_be b_me b_tr b_ld : Nat) (sz : Nat) (u_th : Int32) (u_sa : Int32) (u_fd : Int32) (u_td : Int32) (u_fr : Int32) (u_to : Int32) (u_so : Int32) (u_fa : Int32) (u_bd : Int32) (u_nc : Int32) (u_co : Int32) (u_le : Int32) (u_pd : Int32) (u_od : Int32) (u_la : Int32) (u_bk : Int32) (u_ce : Int32) (u_ho : Int32) (u_wy : Int32) (u_bt : Int32) (u_ps : Int32) (u_tg : Int32) (u_sn : Int32) (u_ic : Int32) (u_wd : Int32) (u_id : Int32) (p_1 : Int32) (p_2 : Int32) (u_wo : Int64) (u_va : Int64) (u_su : Int64) (u_st : Int64) (v_rf : Nat → Int32) (v_ro : Nat → Int32) (v_se : Nat → Int64) (v_re : Nat → Int64) (v_pt : Nat → Int32) (v_ip : Nat → Int32) (v_wn : Nat → Int32) (h_u_td : 0 ≤ u_td.toInt ∧ u_td.toInt ≤ 400) (h_u_fr : 0 ≤ u_fr.toInt ∧ u_fr.toInt ≤ 400) (h_u_to : 0 ≤ u_to.toInt ∧ u_to.toInt ≤ 400) (h_u_bd : 0 ≤ u_bd.toInt ∧ u_bd.toInt ≤ 1) (h_u_nc : 0 ≤ u_nc.toInt ∧ u_nc.toInt ≤ 12) (h_u_co : 0 ≤ u_co.toInt ∧ u_co.toInt ≤ 400) (h_u_pd : 0 ≤ u_pd.toInt ∧ u_pd.toInt ≤ 400) (h_u_la : 0 ≤ u_la.toInt ∧ u_la.toInt ≤ 4840) (h_u_bk : 0 ≤ u_bk.toInt ∧ u_bk.toInt ≤ 1) (h_u_ce : 0 ≤ u_ce.toInt ∧ u_ce.toInt ≤ 63) (h_u_ho : 0 ≤ u_ho.toInt ∧ u_ho.toInt ≤ 23) (h_u_wy : 0 ≤ u_wy.toInt ∧ u_wy.toInt ≤ 3) (h_u_bt : 0 ≤ u_bt.toInt ∧ u_bt.toInt ≤ 1000000) (h_u_ps : 0 ≤ u_ps.toInt ∧ u_ps.toInt ≤ 200) (h_u_ic : 0 ≤ u_ic.toInt ∧ u_ic.toInt ≤ 1) (h_u_id : 0 ≤ u_id.toInt ∧ u_id.toInt ≤ 1) (r_ro : MI v_ro) (r_pt : PTI v_pt) (r_wn : WNI v_wn) : Met l yX12_wander (wsG yX12_wander cX12_wander 7 (some .int)) ({ frames := 9, cells := 0, slots := 0, locals := 222 }) (va_Pc [.ref b_o, .int p_1, .int p_2] (g5_P G [(b_o, (oc12 u_th u_sa b_rf b_ro b_im b_ke u_fd b_tp u_td u_fr u_to u_so u_wo u_fa u_bd u_nc b_nl u_co b_op b_ar u_le b_pi b_pa u_pd u_od b_ws b_hw u_la b_se b_re u_bk u_va u_su u_ce u_ho u_wy u_bt u_ps b_pt u_tg u_sn b_ip u_ic b_ah b_be b_me u_wd b_tr b_ld u_st b_wn u_id)), (b_rf, (arI G 7 v_rf)), (b_ro, (arI G 5740 v_ro)), (b_se, (arJ G 13 v_se)), (b_re, (arJ G 400 v_re)), (b_pt, (arI G 200 v_pt)), (b_ip, (arZ G 1536 v_ip)), (b_wn, (arI G 24 v_wn))] sz)) (va_Qi (fun (r : Int32) (u : va_W) => (∃ (o_r : Int32) (o_th : Int32) (o_sa : Int32) (o_la : Int32) (o_bk : Int32) (o_va : Int64) (o_su : Int64) (o_ce : Int32) (o_ho : Int32) (o_wy : Int32) (o_bt : Int32) (o_ps : Int32) (o_tg : Int32) (o_sn : Int32) (o_ic : Int32) (o_st : Int64) (o_id : Int32) (o_rf : Nat → Int32) (o_se : Nat → Int64) (o_re : Nat → Int64) (o_pt : Nat → Int32) (o_ip : Nat → Int32) (o_wn : Nat → Int32), (0 ≤ o_la.toInt ∧ o_la.toInt ≤ 4840) ∧ (0 ≤ o_bk.toInt ∧ o_bk.toInt ≤ 1) ∧ (0 ≤ o_ce.toInt ∧ o_ce.toInt ≤ 63) ∧ (0 ≤ o_ho.toInt ∧ o_ho.toInt ≤ 23) ∧ (0 ≤ o_wy.toInt ∧ o_wy.toInt ≤ 3) ∧ (0 ≤ o_bt.toInt ∧ o_bt.toInt ≤ 1000000) ∧ (0 ≤ o_ps.toInt ∧ o_ps.toInt ≤ 200) ∧ (PTI o_pt) ∧ (0 ≤ o_ic.toInt ∧ o_ic.toInt ≤ 1) ∧ (WNI o_wn) ∧ (0 ≤ o_id.toInt ∧ o_id.toInt ≤ 1) ∧ (o_wn = swand v_ro v_wn p_1 p_2) ∧ (o_id = swanf v_ro u_id p_1 p_2) ∧ (r = o_r) ∧ (u = [(b_o, (oc12 o_th o_sa b_rf b_ro b_im b_ke u_fd b_tp u_td u_fr u_to u_so u_wo u_fa u_bd u_nc b_nl u_co b_op b_ar u_le b_pi b_pa u_pd u_od b_ws b_hw o_la b_se b_re o_bk o_va o_su o_ce o_ho o_wy o_bt o_ps b_pt o_tg o_sn b_ip o_ic b_ah b_be b_me u_wd b_tr b_ld o_st b_wn o_id)), (b_rf, (arI G 7 o_rf)), (b_ro, (arI G 5740 v_ro)), (b_se, (arJ G 13 o_se)), (b_re, (arJ G 400 o_re)), (b_pt, (arI G 200 o_pt)), (b_ip, (arZ G 1536 o_ip)), (b_wn, (arI G 24 o_wn))]))) (g5_B G (va_A [(b_o, (oc12 u_th u_sa b_rf b_ro b_im b_ke u_fd b_tp u_td u_fr u_to u_so u_wo u_fa u_bd u_nc b_nl u_co b_op b_ar u_le b_pi b_pa u_pd u_od b_ws b_hw u_la b_se b_re u_bk u_va u_su u_ce u_ho u_wy u_bt u_ps b_pt u_tg u_sn b_ip u_ic b_ah b_be b_me u_wd b_tr b_ld u_st b_wn u_id)), (b_rf, (arI G 7 v_rf)), (b_ro, (arI G 5740 v_ro)), (b_se, (arJ G 13 v_se)), (b_re, (arJ G 400 v_re)), (b_pt, (arI G 200 v_pt)), (b_ip, (arZ G 1536 v_ip)), (b_wn, (arI G 24 v_wn))] sz)) (va_A [(b_o, (oc12 u_th u_sa b_rf b_ro b_im b_ke u_fd b_tp u_td u_fr u_to u_so u_wo u_fa u_bd u_nc b_nl u_co b_op b_ar u_le b_pi b_pa u_pd u_od b_ws b_hw u_la b_se b_re u_bk u_va u_su u_ce u_ho u_wy u_bt u_ps b_pt u_tg u_sn b_ip u_ic b_ah b_be b_me u_wd b_tr b_ld u_st b_wn u_id)), (b_rf, (arI G 7 v_rf)), (b_ro, (arI G 5740 v_ro)), (b_se, (arJ G 13 v_se)), (b_re, (arJ G 400 v_re)), (b_pt, (arI G 200 v_pt)), (b_ip, (arZ G 1536 v_ip)), (b_wn, (arI G 24 v_wn))] sz)) 0 0 (va_A [(b_o, (oc12 u_th u_sa b_rf b_ro b_im b_ke u_fd b_tp u_td u_fr u_to u_so u_wo u_fa u_bd u_nc b_nl u_co b_op b_ar u_le b_pi b_pa u_pd u_od b_ws b_hw u_la b_se b_re u_bk u_va u_su u_ce u_ho u_wy u_bt u_ps b_pt u_tg u_sn b_ip u_ic b_ah b_be b_me u_wd b_tr b_ld u_st b_wn u_id)), (b_rf, (arI G 7 v_rf)), (b_ro, (arI G 5740 v_ro)), (b_se, (arJ G 13 v_se)), (b_re, (arJ G 400 v_re)), (b_pt, (arI G 200 v_pt)), (b_ip, (arZ G 1536 v_ip)), (b_wn, (arI G 24 v_wn))] sz) := by
  refine Met.ofW (cc := cX12_wander) (maxL := 7) (ret := (some .int)) (by decide +kernel) rfl ?_
  intro p e s m args below meth c s₁ B hml hv
  obtain ⟨rfl, hsz, hP, hK, hD0, hN, hT⟩ := hv
  have hx := B.exec
  have hb := B.bytes
  have hr := B.returns
  have hts : ∀ w ∈ tblG, w.before _ s = true := fun w h => atoms_spec (ws := (wsG yX12_wander cX12_wander 7 (some .int))) B.pre w (List.mem_cons_of_mem _ h)
  have hown : s.vm.findClass RX12 = some m.cls := findClass_of_methodNamed B.named
  have hlocks := B.notSynchronized
  subst hsz
  have hD := hD0.self (sz := s.heap.size)
  generalize hAe : va_A [(b_o, (oc12 u_th u_sa b_rf b_ro b_im b_ke u_fd b_tp u_td u_fr u_to u_so u_wo u_fa u_bd u_nc b_nl u_co b_op b_ar u_le b_pi b_pa u_pd u_od b_ws b_hw u_la b_se b_re u_bk u_va u_su u_ce u_ho u_wy u_bt u_ps b_pt u_tg u_sn b_ip u_ic b_ah b_be b_me u_wd b_tr b_ld u_st b_wn u_id)), (b_rf, (arI G 7 v_rf)), (b_ro, (arI G 5740 v_ro)), (b_se, (arJ G 13 v_se)), (b_re, (arJ G 400 v_re)), (b_pt, (arI G 200 v_pt)), (b_ip, (arZ G 1536 v_ip)), (b_wn, (arI G 24 v_wn))] s.heap.size = A at hD hT ⊢
  have hA : ∀ q : Nat, s.heap.size ≤ q → A q := fun q h => by rw [← hAe]; exact Or.inr h
  have hS : va_S A s.heap s.heap [] := va_S.rf
  replace hP : va_P G.1 vwCl [(b_o, (oc12 u_th u_sa b_rf b_ro b_im b_ke u_fd b_tp u_td u_fr u_to u_so u_wo u_fa u_bd u_nc b_nl u_co b_op b_ar u_le b_pi b_pa u_pd u_od b_ws b_hw u_la b_se b_re u_bk u_va u_su u_ce u_ho u_wy u_bt u_ps b_pt u_tg u_sn b_ip u_ic b_ah b_be b_me u_wd b_tr b_ld u_st b_wn u_id)), (b_rf, (arI G 7 v_rf)), (b_ro, (arI G 5740 v_ro)), (b_se, (arJ G 13 v_se)), (b_re, (arJ G 400 v_re)), (b_pt, (arI G 200 v_pt)), (b_ip, (arZ G 1536 v_ip)), (b_wn, (arI G 24 v_wn))] s.heap := hP
  have hl := lv_entry ([.ref b_o, .int p_1, .int p_2]) (n := 7) (Nat.le_of_ble_eq_true rfl)
  rw [lg_entry_eq]
  generalize (lg_sl ([.ref b_o, .int p_1, .int p_2]) ++ List.replicate (7 - (lg_sl ([.ref b_o, .int p_1, .int p_2])).length) Slot.unset).toArray = ls at hl ⊢
  replace hl : lv_has ls 7 [(0, .ref b_o), (1, .int p_1), (2, .int p_2)] := hl
  refine lv_aload_n hx hb dX12_wander_0 rfl (lv_at hl 0 rfl) ?_
  refine lv_iconst (v := 0) hx hb dX12_wander_1 (by decide +kernel) ?_
  refine va_put (D := G.1) (ci := 12) (v := .int 0) (ty := .int) (C := RX12) (T := TX12) (N := 52) hx hb hts inG_X12 tyX12 tyX12_ok nmX12 hown hK hP hD hS 0 rfl rfl 0 (by decide +kernel) (hts _ fl_X12_107) (fun _ h9 => h9) rfl (by decide +kernel) rfl rfl (Nat.le_of_ble_eq_true rfl) dX12_wander_2 ?_
  clear hP hD hS
  intro H locs hP hD hS
  refine g5_rs [(b_o, (oc12 0 u_sa b_rf b_ro b_im b_ke u_fd b_tp u_td u_fr u_to u_so u_wo u_fa u_bd u_nc b_nl u_co b_op b_ar u_le b_pi b_pa u_pd u_od b_ws b_hw u_la b_se b_re u_bk u_va u_su u_ce u_ho u_wy u_bt u_ps b_pt u_tg u_sn b_ip u_ic b_ah b_be b_me u_wd b_tr b_ld u_st b_wn u_id)), (b_rf, (arI G 7 v_rf)), (b_ro, (arI G 5740 v_ro)), (b_se, (arJ G 13 v_se)), (b_re, (arJ G 400 v_re)), (b_pt, (arI G 200 v_pt)), (b_ip, (arZ G 1536 v_ip)), (b_wn, (arI G 24 v_wn))] hP hD ?_
  clear hP hD
  intro hP hD
  refine lv_iload_n hx hb dX12_wander_5 rfl (lv_at hl 1 rfl) ?_
  refine W.eq (g2 := F0 m 6 ls [.int p_1]) rfl ?_
  refine lv_i2l (v := p_1.toInt64) hx hb dX12_wander_6 rfl ?_
  refine lv_lconst (v := 0) hx hb dX12_wander_7 (by decide +kernel) ?_
  refine lv_ldc2 (v := 1000000) hx hb hown (hts _ kl_X12_190) dX12_wander_8 ?_
  obtain ⟨hPc, hDc, hFc⟩ := g5_sub3 (wc := []) hP hD hS hA [] (by decide +kernel) rfl
  refine va_calli (va_runS (As := [.long p_1.toInt64, .long 0, .long 1000000]) (rest := []) ⟨hx, hb, hml, hown, hts⟩ (n_in_0_1000000 l G H.size p_1) (va_cwS 3 hts gS_X12_121 rfl rfl rfl hs_X12_in ⟨Nat.le_of_ble_eq_true rfl, Nat.le_of_ble_eq_true rfl⟩) (g5_preS hPc hK hDc hN hT hS hFc) rfl rfl hl.1 rfl (lv_room (Nat.le_of_ble_eq_true rfl)) dX12_wander_11 ⟨Nat.le_of_ble_eq_true rfl, Nat.le_of_ble_eq_true rfl⟩) hS (fun q _ h => hFc q h) hFc (fun r u t H locs ht hvm hw hB hz1 hk1 hS => ?_)
  obtain ⟨hP1, hD1⟩ := hB
  have hP1 := g5_ht ht hP1
  rcases hw with ⟨(i_1 : p_1.toInt < 0 ∨ 1000000 < p_1.toInt), rfl, rfl⟩ | ⟨(i_2 : 0 ≤ p_1.toInt ∧ p_1.toInt ≤ 1000000), rfl, rfl⟩
  ·
    have hJ9 := g5_same hP hk1
    clear hP hPc hDc hFc ht hvm hz1 hk1 hP1 hD1
    have hP := hJ9
    clear hJ9
    refine lv_if_eq (tgt := 24) hx hb dX12_wander_14 (by decide +kernel) (fun c_3 => ?_) (fun c_3 => ?_)
    ·
      refine lv_aload_n hx hb dX12_wander_24 rfl (lv_at hl 0 rfl) ?_
      refine lv_iconst (v := (-1)) hx hb dX12_wander_25 (by decide +kernel) ?_
      obtain ⟨hPc, hDc, hFc⟩ := g5_sub3 (wc := [(b_o, (oc12 0 u_sa b_rf b_ro b_im b_ke u_fd b_tp u_td u_fr u_to u_so u_wo u_fa u_bd u_nc b_nl u_co b_op b_ar u_le b_pi b_pa u_pd u_od b_ws b_hw u_la b_se b_re u_bk u_va u_su u_ce u_ho u_wy u_bt u_ps b_pt u_tg u_sn b_ip u_ic b_ah b_be b_me u_wd b_tr b_ld u_st b_wn u_id)), (b_rf, (arI G 7 v_rf))]) hP hD hS hA [0, 1] (by decide +kernel) rfl
      refine va_calli (va_runV (As := [.int (-1)]) (rest := []) ⟨hx, hb, hml, hown, hts⟩ (n_tell1 l G b_o b_rf b_ro b_im b_ke b_tp b_nl b_op b_ar b_pi b_pa b_ws b_hw b_se b_re b_pt b_ip b_ah b_be b_me b_tr b_ld b_wn H.size 0 u_sa u_fd u_td u_fr u_to u_so u_fa u_bd u_nc u_co u_le u_pd u_od u_la u_bk u_ce u_ho u_wy u_bt u_ps u_tg u_sn u_ic u_wd u_id u_wo u_va u_su u_st v_rf h_u_td h_u_fr h_u_to h_u_bd h_u_nc h_u_co h_u_pd h_u_la h_u_bk h_u_ce h_u_ho h_u_wy h_u_bt h_u_ps h_u_ic h_u_id) (cwV 1 hts gV_X12_125 rfl rfl rfl hv_X12_tell ⟨Nat.le_of_ble_eq_true rfl, Nat.le_of_ble_eq_true rfl⟩) (g5_preV hPc hK hDc hN hT hS hFc (ci := 12) (q0 := 0) rfl rfl) rfl rfl hl.1 rfl (lv_room (Nat.le_of_ble_eq_true rfl)) dX12_wander_26 ⟨Nat.le_of_ble_eq_true rfl, Nat.le_of_ble_eq_true rfl⟩) hS (fun q _ h => hFc q h) hFc (fun r u t H locs ht hvm hw hB hz1 hk1 hS => ?_)
      obtain ⟨hP1, hD1⟩ := hB
      have hP1 := g5_ht ht hP1
      obtain ⟨z5, z6, z7, (i_4 : 0 ≤ z6.toInt ∧ z6.toInt ≤ 1), rfl, rfl⟩ := hw
      have hJ9 := va_join (wr := [(b_ro, (arI G 5740 v_ro)), (b_se, (arJ G 13 v_se)), (b_re, (arJ G 400 v_re)), (b_pt, (arI G 200 v_pt)), (b_ip, (arZ G 1536 v_ip)), (b_wn, (arI G 24 v_wn))]) hP hD [0, 1] [2, 3, 4, 5, 6, 7] rfl rfl (by decide +kernel) (by decide +kernel) hk1 hFc hP1 hD1
      clear hP hD hPc hDc hFc ht hvm hz1 hk1 hP1 hD1
      obtain ⟨hP, hD⟩ := hJ9
      refine g5_rs [(b_ro, (arI G 5740 v_ro)), (b_se, (arJ G 13 v_se)), (b_re, (arJ G 400 v_re)), (b_pt, (arI G 200 v_pt)), (b_ip, (arZ G 1536 v_ip)), (b_wn, (arI G 24 v_wn)), (b_o, (oc12 0 z5 b_rf b_ro b_im b_ke u_fd b_tp u_td u_fr u_to u_so u_wo u_fa u_bd u_nc b_nl u_co b_op b_ar u_le b_pi b_pa u_pd u_od b_ws b_hw u_la b_se b_re u_bk u_va u_su u_ce u_ho u_wy u_bt u_ps b_pt u_tg u_sn b_ip z6 b_ah b_be b_me u_wd b_tr b_ld u_st b_wn u_id)), (b_rf, (arI G 7 z7))] hP hD ?_
      clear hP hD
      intro hP hD
      exact W.iret (v := (-1)) hx hb hr (fun t ht hW => ⟨⟨(-1), [(b_o, (oc12 0 z5 b_rf b_ro b_im b_ke u_fd b_tp u_td u_fr u_to u_so u_wo u_fa u_bd u_nc b_nl u_co b_op b_ar u_le b_pi b_pa u_pd u_od b_ws b_hw u_la b_se b_re u_bk u_va u_su u_ce u_ho u_wy u_bt u_ps b_pt u_tg u_sn b_ip z6 b_ah b_be b_me u_wd b_tr b_ld u_st b_wn u_id)), (b_rf, (arI G 7 z7)), (b_ro, (arI G 5740 v_ro)), (b_se, (arJ G 13 v_se)), (b_re, (arJ G 400 v_re)), (b_pt, (arI G 200 v_pt)), (b_ip, (arZ G 1536 v_ip)), (b_wn, (arI G 24 v_wn))], rfl, ⟨(-1), 0, z5, u_la, u_bk, u_va, u_su, u_ce, u_ho, u_wy, u_bt, u_ps, u_tg, u_sn, z6, u_st, u_id, z7, v_se, v_re, v_pt, v_ip, v_wn, h_u_la, h_u_bk, h_u_ce, h_u_ho, h_u_wy, h_u_bt, h_u_ps, r_pt, i_4, r_wn, h_u_id, (wand_1 (f := v_ro) (g := v_wn) (n := u_id) (s := p_1) (c := p_2) (fun q => by unfold okD at q; omega)).1.symm, (wand_1 (f := v_ro) (g := v_wn) (n := u_id) (s := p_1) (c := p_2) (fun q => by unfold okD at q; omega)).2.symm, rfl, rfl⟩, by rw [ht]; exact hP.sub [6, 7, 0, 1, 2, 3, 4, 5] rfl, hD.sub [6, 7, 0, 1, 2, 3, 4, 5] (by decide +kernel) rfl⟩, hS.F ht⟩) hS.2.2 dX12_wander_29
    ·
      exact absurd c_3 (by decide +kernel)
  ·
    have hJ9 := g5_same hP hk1
    clear hP hPc hDc hFc ht hvm hz1 hk1 hP1 hD1
    have hP := hJ9
    clear hJ9
    refine lv_if_eq (tgt := 24) hx hb dX12_wander_14 (by decide +kernel) (fun c_8 => ?_) (fun c_8 => ?_)
    ·
      exact absurd c_8 (by decide +kernel)
    ·
      refine lv_iload_n hx hb dX12_wander_17 rfl (lv_at hl 2 rfl) ?_
      obtain ⟨hPc, hDc, hFc⟩ := g5_sub3 (wc := []) hP hD hS hA [] (by decide +kernel) rfl
      refine va_calli (va_runS (As := [.int p_2]) (rest := []) ⟨hx, hb, hml, hown, hts⟩ (n_isCellE l G H.size p_2) (va_cwS 1 hts gS_X12_138 rfl rfl rfl hs_X12_isCell ⟨Nat.le_of_ble_eq_true rfl, Nat.le_of_ble_eq_true rfl⟩) (g5_preS hPc hK hDc hN hT hS hFc) rfl rfl hl.1 rfl (lv_room (Nat.le_of_ble_eq_true rfl)) dX12_wander_18 ⟨Nat.le_of_ble_eq_true rfl, Nat.le_of_ble_eq_true rfl⟩) hS (fun q _ h => hFc q h) hFc (fun r u t H locs ht hvm hw hB hz1 hk1 hS => ?_)
      obtain ⟨hP1, hD1⟩ := hB
      have hP1 := g5_ht ht hP1
      rcases hw with ⟨(i_9 : 0 ≤ p_2.toInt ∧ p_2.toInt ≤ 63), rfl, rfl⟩ | ⟨(i_10 : p_2.toInt < 0 ∨ 63 < p_2.toInt), rfl, rfl⟩
      ·
        have hJ9 := g5_same hP hk1
        clear hP hPc hDc hFc ht hvm hz1 hk1 hP1 hD1
        have hP := hJ9
        clear hJ9
        refine lv_if_ne (tgt := 30) hx hb dX12_wander_21 (by decide +kernel) (fun c_11 => ?_) (fun c_11 => ?_)
        ·
          refine lv_aload_n hx hb dX12_wander_30 rfl (lv_at hl 0 rfl) ?_
          refine lv_iload_n hx hb dX12_wander_31 rfl (lv_at hl 2 rfl) ?_
          obtain ⟨hPc, hDc, hFc⟩ := g5_sub3 (wc := [(b_o, (oc12 0 u_sa b_rf b_ro b_im b_ke u_fd b_tp u_td u_fr u_to u_so u_wo u_fa u_bd u_nc b_nl u_co b_op b_ar u_le b_pi b_pa u_pd u_od b_ws b_hw u_la b_se b_re u_bk u_va u_su u_ce u_ho u_wy u_bt u_ps b_pt u_tg u_sn b_ip u_ic b_ah b_be b_me u_wd b_tr b_ld u_st b_wn u_id)), (b_ro, (arI G 5740 v_ro))]) hP hD hS hA [0, 2] (by decide +kernel) rfl
          refine va_calli (va_runV (As := [.int p_2]) (rest := []) ⟨hx, hb, hml, hown, hts⟩ (n_isWallE l G b_o b_ro b_rf b_im b_ke b_tp b_nl b_op b_ar b_pi b_pa b_ws b_hw b_se b_re b_pt b_ip b_ah b_be b_me b_tr b_ld b_wn H.size 0 u_sa u_fd u_td u_fr u_to u_so u_fa u_bd u_nc u_co u_le u_pd u_od u_la u_bk u_ce u_ho u_wy u_bt u_ps u_tg u_sn u_ic u_wd u_id p_2 u_wo u_va u_su u_st v_ro h_u_td h_u_fr h_u_to h_u_bd h_u_nc h_u_co h_u_pd h_u_la h_u_bk h_u_ce h_u_ho h_u_wy h_u_bt h_u_ps h_u_ic h_u_id i_9 (r_ro)) (cwV 1 hts gV_X12_160 rfl rfl rfl hv_X12_isWall ⟨Nat.le_of_ble_eq_true rfl, Nat.le_of_ble_eq_true rfl⟩) (g5_preV hPc hK hDc hN hT hS hFc (ci := 12) (q0 := 0) rfl rfl) rfl rfl hl.1 rfl (lv_room (Nat.le_of_ble_eq_true rfl)) dX12_wander_32 ⟨Nat.le_of_ble_eq_true rfl, Nat.le_of_ble_eq_true rfl⟩) hS (fun q _ h => hFc q h) hFc (fun r u t H locs ht hvm hw hB hz1 hk1 hS => ?_)
          obtain ⟨hP1, hD1⟩ := hB
          have hP1 := g5_ht ht hP1
          rcases hw with ⟨(i_12 : wallAt v_ro p_2.toInt), rfl, rfl⟩ | ⟨(i_13 : ¬ wallAt v_ro p_2.toInt), rfl, rfl⟩
          ·
            have hJ9 := va_join (wr := [(b_rf, (arI G 7 v_rf)), (b_se, (arJ G 13 v_se)), (b_re, (arJ G 400 v_re)), (b_pt, (arI G 200 v_pt)), (b_ip, (arZ G 1536 v_ip)), (b_wn, (arI G 24 v_wn))]) hP hD [0, 2] [1, 3, 4, 5, 6, 7] rfl rfl (by decide +kernel) (by decide +kernel) hk1 hFc hP1 hD1
            clear hP hD hPc hDc hFc ht hvm hz1 hk1 hP1 hD1
            obtain ⟨hP, hD⟩ := hJ9
            refine g5_rs [(b_rf, (arI G 7 v_rf)), (b_se, (arJ G 13 v_se)), (b_re, (arJ G 400 v_re)), (b_pt, (arI G 200 v_pt)), (b_ip, (arZ G 1536 v_ip)), (b_wn, (arI G 24 v_wn)), (b_o, (oc12 0 u_sa b_rf b_ro b_im b_ke u_fd b_tp u_td u_fr u_to u_so u_wo u_fa u_bd u_nc b_nl u_co b_op b_ar u_le b_pi b_pa u_pd u_od b_ws b_hw u_la b_se b_re u_bk u_va u_su u_ce u_ho u_wy u_bt u_ps b_pt u_tg u_sn b_ip u_ic b_ah b_be b_me u_wd b_tr b_ld u_st b_wn u_id)), (b_ro, (arI G 5740 v_ro))] hP hD ?_
            clear hP hD
            intro hP hD
            refine lv_if_eq (tgt := 45) hx hb dX12_wander_35 (by decide +kernel) (fun c_14 => ?_) (fun c_14 => ?_)
            ·
              exact absurd c_14 (by decide +kernel)
            ·
              refine lv_aload_n hx hb dX12_wander_38 rfl (lv_at hl 0 rfl) ?_
              refine lv_bipush (v := (-3)) hx hb dX12_wander_39 (by decide +kernel) ?_
              obtain ⟨hPc, hDc, hFc⟩ := g5_sub3 (wc := [(b_o, (oc12 0 u_sa b_rf b_ro b_im b_ke u_fd b_tp u_td u_fr u_to u_so u_wo u_fa u_bd u_nc b_nl u_co b_op b_ar u_le b_pi b_pa u_pd u_od b_ws b_hw u_la b_se b_re u_bk u_va u_su u_ce u_ho u_wy u_bt u_ps b_pt u_tg u_sn b_ip u_ic b_ah b_be b_me u_wd b_tr b_ld u_st b_wn u_id)), (b_rf, (arI G 7 v_rf))]) hP hD hS hA [6, 0] (by decide +kernel) rfl
              refine va_calli (va_runV (As := [.int (-3)]) (rest := []) ⟨hx, hb, hml, hown, hts⟩ (n_tell3 l G b_o b_rf b_ro b_im b_ke b_tp b_nl b_op b_ar b_pi b_pa b_ws b_hw b_se b_re b_pt b_ip b_ah b_be b_me b_tr b_ld b_wn H.size 0 u_sa u_fd u_td u_fr u_to u_so u_fa u_bd u_nc u_co u_le u_pd u_od u_la u_bk u_ce u_ho u_wy u_bt u_ps u_tg u_sn u_ic u_wd u_id u_wo u_va u_su u_st v_rf h_u_td h_u_fr h_u_to h_u_bd h_u_nc h_u_co h_u_pd h_u_la h_u_bk h_u_ce h_u_ho h_u_wy h_u_bt h_u_ps h_u_ic h_u_id) (cwV 1 hts gV_X12_125 rfl rfl rfl hv_X12_tell ⟨Nat.le_of_ble_eq_true rfl, Nat.le_of_ble_eq_true rfl⟩) (g5_preV hPc hK hDc hN hT hS hFc (ci := 12) (q0 := 0) rfl rfl) rfl rfl hl.1 rfl (lv_room (Nat.le_of_ble_eq_true rfl)) dX12_wander_41 ⟨Nat.le_of_ble_eq_true rfl, Nat.le_of_ble_eq_true rfl⟩) hS (fun q _ h => hFc q h) hFc (fun r u t H locs ht hvm hw hB hz1 hk1 hS => ?_)
              obtain ⟨hP1, hD1⟩ := hB
              have hP1 := g5_ht ht hP1
              obtain ⟨z16, z17, z18, (i_15 : 0 ≤ z17.toInt ∧ z17.toInt ≤ 1), rfl, rfl⟩ := hw
              have hJ9 := va_join (wr := [(b_se, (arJ G 13 v_se)), (b_re, (arJ G 400 v_re)), (b_pt, (arI G 200 v_pt)), (b_ip, (arZ G 1536 v_ip)), (b_wn, (arI G 24 v_wn)), (b_ro, (arI G 5740 v_ro))]) hP hD [6, 0] [1, 2, 3, 4, 5, 7] rfl rfl (by decide +kernel) (by decide +kernel) hk1 hFc hP1 hD1
              clear hP hD hPc hDc hFc ht hvm hz1 hk1 hP1 hD1
              obtain ⟨hP, hD⟩ := hJ9
              refine g5_rs [(b_se, (arJ G 13 v_se)), (b_re, (arJ G 400 v_re)), (b_pt, (arI G 200 v_pt)), (b_ip, (arZ G 1536 v_ip)), (b_wn, (arI G 24 v_wn)), (b_ro, (arI G 5740 v_ro)), (b_o, (oc12 0 z16 b_rf b_ro b_im b_ke u_fd b_tp u_td u_fr u_to u_so u_wo u_fa u_bd u_nc b_nl u_co b_op b_ar u_le b_pi b_pa u_pd u_od b_ws b_hw u_la b_se b_re u_bk u_va u_su u_ce u_ho u_wy u_bt u_ps b_pt u_tg u_sn b_ip z17 b_ah b_be b_me u_wd b_tr b_ld u_st b_wn u_id)), (b_rf, (arI G 7 z18))] hP hD ?_
              clear hP hD
              intro hP hD
              exact W.iret (v := (-3)) hx hb hr (fun t ht hW => ⟨⟨(-3), [(b_o, (oc12 0 z16 b_rf b_ro b_im b_ke u_fd b_tp u_td u_fr u_to u_so u_wo u_fa u_bd u_nc b_nl u_co b_op b_ar u_le b_pi b_pa u_pd u_od b_ws b_hw u_la b_se b_re u_bk u_va u_su u_ce u_ho u_wy u_bt u_ps b_pt u_tg u_sn b_ip z17 b_ah b_be b_me u_wd b_tr b_ld u_st b_wn u_id)), (b_rf, (arI G 7 z18)), (b_ro, (arI G 5740 v_ro)), (b_se, (arJ G 13 v_se)), (b_re, (arJ G 400 v_re)), (b_pt, (arI G 200 v_pt)), (b_ip, (arZ G 1536 v_ip)), (b_wn, (arI G 24 v_wn))], rfl, ⟨(-3), 0, z16, u_la, u_bk, u_va, u_su, u_ce, u_ho, u_wy, u_bt, u_ps, u_tg, u_sn, z17, u_st, u_id, z18, v_se, v_re, v_pt, v_ip, v_wn, h_u_la, h_u_bk, h_u_ce, h_u_ho, h_u_wy, h_u_bt, h_u_ps, r_pt, i_15, r_wn, h_u_id, (wand_3 (f := v_ro) (g := v_wn) (n := u_id) (s := p_1) (c := p_2) i_12).1.symm, (wand_3 (f := v_ro) (g := v_wn) (n := u_id) (s := p_1) (c := p_2) i_12).2.symm, rfl, rfl⟩, by rw [ht]; exact hP.sub [6, 7, 5, 0, 1, 2, 3, 4] rfl, hD.sub [6, 7, 5, 0, 1, 2, 3, 4] (by decide +kernel) rfl⟩, hS.F ht⟩) hS.2.2 dX12_wander_44
          ·
            have hJ9 := va_join (wr := [(b_rf, (arI G 7 v_rf)), (b_se, (arJ G 13 v_se)), (b_re, (arJ G 400 v_re)), (b_pt, (arI G 200 v_pt)), (b_ip, (arZ G 1536 v_ip)), (b_wn, (arI G 24 v_wn))]) hP hD [0, 2] [1, 3, 4, 5, 6, 7] rfl rfl (by decide +kernel) (by decide +kernel) hk1 hFc hP1 hD1
            clear hP hD hPc hDc hFc ht hvm hz1 hk1 hP1 hD1
            obtain ⟨hP, hD⟩ := hJ9
            refine g5_rs [(b_rf, (arI G 7 v_rf)), (b_se, (arJ G 13 v_se)), (b_re, (arJ G 400 v_re)), (b_pt, (arI G 200 v_pt)), (b_ip, (arZ G 1536 v_ip)), (b_wn, (arI G 24 v_wn)), (b_o, (oc12 0 u_sa b_rf b_ro b_im b_ke u_fd b_tp u_td u_fr u_to u_so u_wo u_fa u_bd u_nc b_nl u_co b_op b_ar u_le b_pi b_pa u_pd u_od b_ws b_hw u_la b_se b_re u_bk u_va u_su u_ce u_ho u_wy u_bt u_ps b_pt u_tg u_sn b_ip u_ic b_ah b_be b_me u_wd b_tr b_ld u_st b_wn u_id)), (b_ro, (arI G 5740 v_ro))] hP hD ?_
            clear hP hD
            intro hP hD
            refine lv_if_eq (tgt := 45) hx hb dX12_wander_35 (by decide +kernel) (fun c_19 => ?_) (fun c_19 => ?_)
            ·
              refine lv_aload_n hx hb dX12_wander_45 rfl (lv_at hl 0 rfl) ?_
              refine lv_iload_n hx hb dX12_wander_46 rfl (lv_at hl 1 rfl) ?_
              refine lv_i2l (v := p_1.toInt64) hx hb dX12_wander_47 rfl ?_
              refine va_put (D := G.1) (ci := 12) (v := .long p_1.toInt64) (ty := .long) (C := RX12) (T := TX12) (N := 52) hx hb hts inG_X12 tyX12 tyX12_ok nmX12 hown hK hP hD hS 6 rfl rfl 49 (by decide +kernel) (hts _ fl_X12_469) (fun _ h9 => h9) rfl (by decide +kernel) rfl rfl (Nat.le_of_ble_eq_true rfl) dX12_wander_48 ?_
              clear hP hD hS
              intro H locs hP hD hS
              refine g5_rs [(b_rf, (arI G 7 v_rf)), (b_se, (arJ G 13 v_se)), (b_re, (arJ G 400 v_re)), (b_pt, (arI G 200 v_pt)), (b_ip, (arZ G 1536 v_ip)), (b_wn, (arI G 24 v_wn)), (b_o, (oc12 0 u_sa b_rf b_ro b_im b_ke u_fd b_tp u_td u_fr u_to u_so u_wo u_fa u_bd u_nc b_nl u_co b_op b_ar u_le b_pi b_pa u_pd u_od b_ws b_hw u_la b_se b_re u_bk u_va u_su u_ce u_ho u_wy u_bt u_ps b_pt u_tg u_sn b_ip u_ic b_ah b_be b_me u_wd b_tr b_ld p_1.toInt64 b_wn u_id)), (b_ro, (arI G 5740 v_ro))] hP hD ?_
              clear hP hD
              intro hP hD
              refine W.eq (g2 := F0 m 51 ls []) rfl ?_
              refine lv_iload_n hx hb dX12_wander_51 rfl (lv_at hl 2 rfl) ?_
              refine lv_istore_n (lv' := [(3, .int p_2), (0, .ref b_o), (1, .int p_1), (2, .int p_2)]) hx hb dX12_wander_52 rfl hl (by decide +kernel) rfl ?_
              clear hl
              intro ls hl
              refine lv_iconst (v := 0) hx hb dX12_wander_53 (by decide +kernel) ?_
              refine lv_istore (lv' := [(4, .int 0), (3, .int p_2), (0, .ref b_o), (1, .int p_1), (2, .int p_2)]) hx hb dX12_wander_54 hl (by decide +kernel) rfl ?_
              clear hl
              intro ls hl
              refine g5_loop (α := (Int32) × (Int32) × (Int64) × (Nat → Int32)) (fun (q : (Int32) × (Int32) × (Int64) × (Nat → Int32)) (ls : Array Slot) (H : Heap) (locs : List Loc) => match q with | (k56_4, k56_3, k56_st, k56_wn) => lv_has ls 7 [(3, .int k56_3), (4, .int k56_4), (0, .ref b_o), (1, .int p_1), (2, .int p_2)] ∧ va_P G.1 vwCl [(b_rf, (arI G 7 v_rf)), (b_se, (arJ G 13 v_se)), (b_re, (arJ G 400 v_re)), (b_pt, (arI G 200 v_pt)), (b_ip, (arZ G 1536 v_ip)), (b_wn, (arI G 24 k56_wn)), (b_o, (oc12 0 u_sa b_rf b_ro b_im b_ke u_fd b_tp u_td u_fr u_to u_so u_wo u_fa u_bd u_nc b_nl u_co b_op b_ar u_le b_pi b_pa u_pd u_od b_ws b_hw u_la b_se b_re u_bk u_va u_su u_ce u_ho u_wy u_bt u_ps b_pt u_tg u_sn b_ip u_ic b_ah b_be b_me u_wd b_tr b_ld k56_st b_wn u_id)), (b_ro, (arI G 5740 v_ro))] H ∧ va_D A [(b_rf, (arI G 7 v_rf)), (b_se, (arJ G 13 v_se)), (b_re, (arJ G 400 v_re)), (b_pt, (arI G 200 v_pt)), (b_ip, (arZ G 1536 v_ip)), (b_wn, (arI G 24 k56_wn)), (b_o, (oc12 0 u_sa b_rf b_ro b_im b_ke u_fd b_tp u_td u_fr u_to u_so u_wo u_fa u_bd u_nc b_nl u_co b_op b_ar u_le b_pi b_pa u_pd u_od b_ws b_hw u_la b_se b_re u_bk u_va u_su u_ce u_ho u_wy u_bt u_ps b_pt u_tg u_sn b_ip u_ic b_ah b_be b_me u_wd b_tr b_ld k56_st b_wn u_id)), (b_ro, (arI G 5740 v_ro))] ∧ va_S A s.heap H locs ∧ (0 ≤ k56_4.toInt ∧ k56_4.toInt ≤ 24) ∧ (0 ≤ k56_3.toInt ∧ k56_3.toInt ≤ 63) ∧ (WNI k56_wn) ∧ (k56_st = wdS p_1.toInt64 (k56_4.toInt.toNat - 1)) ∧ (k56_3.toInt = wdC v_ro p_1.toInt64 p_2.toInt (k56_4.toInt.toNat - 1)) ∧ (k56_wn = wdR v_ro p_1.toInt64 p_2.toInt v_wn k56_4.toInt.toNat)) (fun (q : (Int32) × (Int32) × (Int64) × (Nat → Int32)) => match q with | (k56_4, k56_3, k56_st, k56_wn) => Int.toNat (24 - k56_4.toInt)) (0, p_2, p_1.toInt64, v_wn) ⟨lv_sub hl [1, 0, 2, 3, 4] rfl, hP, hD, hS, ⟨by decide, by decide⟩, i_9, r_wn, by rw [show (0 : Int32).toInt.toNat = 0 from by decide]; rfl, by rw [show (0 : Int32).toInt.toNat = 0 from by decide]; rfl, by rw [show (0 : Int32).toInt.toNat = 0 from by decide]; rfl⟩ ?_
              rintro ⟨k56_4, k56_3, k56_st, k56_wn⟩ ls H locs ⟨hl, hP, hD, hS, (i_20 : 0 ≤ k56_4.toInt ∧ k56_4.toInt ≤ 24), (i_21 : 0 ≤ k56_3.toInt ∧ k56_3.toInt ≤ 63), (i_22 : WNI k56_wn), (i_23 : k56_st = wdS p_1.toInt64 (k56_4.toInt.toNat - 1)), (i_24 : k56_3.toInt = wdC v_ro p_1.toInt64 p_2.toInt (k56_4.toInt.toNat - 1)), (i_25 : k56_wn = wdR v_ro p_1.toInt64 p_2.toInt v_wn k56_4.toInt.toNat)⟩ ih_56_26
              replace hl : lv_has ls 7 [(3, .int k56_3), (4, .int k56_4), (0, .ref b_o), (1, .int p_1), (2, .int p_2)] := hl
              refine g5_rs [(b_rf, (arI G 7 v_rf)), (b_se, (arJ G 13 v_se)), (b_re, (arJ G 400 v_re)), (b_pt, (arI G 200 v_pt)), (b_ip, (arZ G 1536 v_ip)), (b_wn, (arI G 24 k56_wn)), (b_o, (oc12 0 u_sa b_rf b_ro b_im b_ke u_fd b_tp u_td u_fr u_to u_so u_wo u_fa u_bd u_nc b_nl u_co b_op b_ar u_le b_pi b_pa u_pd u_od b_ws b_hw u_la b_se b_re u_bk u_va u_su u_ce u_ho u_wy u_bt u_ps b_pt u_tg u_sn b_ip u_ic b_ah b_be b_me u_wd b_tr b_ld k56_st b_wn u_id)), (b_ro, (arI G 5740 v_ro))] hP hD ?_
              clear hP hD
              intro hP hD
              refine lv_iload hx hb dX12_wander_56 (lv_at hl 1 rfl) ?_
              refine lv_bipush (v := 24) hx hb dX12_wander_58 (by decide +kernel) ?_
              refine lv_icmp_ge (tgt := 162) hx hb dX12_wander_60 (by decide +kernel) (fun c_27 => ?_) (fun c_27 => ?_)
              ·
                have i_27 : k56_4.toInt ≥ 24 := g5_ge (a := k56_4.toInt) (b := 24) rfl (by decide +kernel) c_27
                refine lv_aload_n hx hb dX12_wander_162 rfl (lv_at hl 2 rfl) ?_
                refine lv_iconst (v := 1) hx hb dX12_wander_163 (by decide +kernel) ?_
                refine va_put (D := G.1) (ci := 12) (v := .int 1) (ty := .boolean) (C := RX12) (T := TX12) (N := 52) hx hb hts inG_X12 tyX12 tyX12_ok nmX12 hown hK hP hD hS 6 rfl rfl 51 (by decide +kernel) (hts _ fl_X12_478) (fun _ h9 => h9) rfl (by decide +kernel) rfl rfl (Nat.le_of_ble_eq_true rfl) dX12_wander_164 ?_
                clear hP hD hS
                intro H locs hP hD hS
                refine g5_rs [(b_rf, (arI G 7 v_rf)), (b_se, (arJ G 13 v_se)), (b_re, (arJ G 400 v_re)), (b_pt, (arI G 200 v_pt)), (b_ip, (arZ G 1536 v_ip)), (b_wn, (arI G 24 k56_wn)), (b_o, (oc12 0 u_sa b_rf b_ro b_im b_ke u_fd b_tp u_td u_fr u_to u_so u_wo u_fa u_bd u_nc b_nl u_co b_op b_ar u_le b_pi b_pa u_pd u_od b_ws b_hw u_la b_se b_re u_bk u_va u_su u_ce u_ho u_wy u_bt u_ps b_pt u_tg u_sn b_ip u_ic b_ah b_be b_me u_wd b_tr b_ld k56_st b_wn 1)), (b_ro, (arI G 5740 v_ro))] hP hD ?_
                clear hP hD
                intro hP hD
                refine lv_aload_n hx hb dX12_wander_167 rfl (lv_at hl 2 rfl) ?_
                refine W.eq (g2 := F0 m 168 ls [.ref b_o]) rfl ?_
                obtain ⟨hPc, hDc, hFc⟩ := g5_sub3 (wc := [(b_o, (oc12 0 u_sa b_rf b_ro b_im b_ke u_fd b_tp u_td u_fr u_to u_so u_wo u_fa u_bd u_nc b_nl u_co b_op b_ar u_le b_pi b_pa u_pd u_od b_ws b_hw u_la b_se b_re u_bk u_va u_su u_ce u_ho u_wy u_bt u_ps b_pt u_tg u_sn b_ip u_ic b_ah b_be b_me u_wd b_tr b_ld k56_st b_wn 1)), (b_ro, (arI G 5740 v_ro)), (b_se, (arJ G 13 v_se)), (b_re, (arJ G 400 v_re)), (b_pt, (arI G 200 v_pt)), (b_ip, (arZ G 1536 v_ip))]) hP hD hS hA [6, 7, 1, 2, 3, 4] (by decide +kernel) rfl
                refine va_callv (va_runV (As := []) (rest := []) ⟨hx, hb, hml, hown, hts⟩ (n_markAll l G b_o b_ro b_se b_re b_pt b_ip b_rf b_im b_ke b_tp b_nl b_op b_ar b_pi b_pa b_ws b_hw b_ah b_be b_me b_tr b_ld b_wn H.size 0 u_sa u_fd u_td u_fr u_to u_so u_fa u_bd u_nc u_co u_le u_pd u_od u_la u_bk u_ce u_ho u_wy u_bt u_ps u_tg u_sn u_ic u_wd 1 u_wo u_va u_su k56_st v_ro v_se v_re v_pt v_ip h_u_td h_u_fr h_u_to h_u_bd h_u_nc h_u_co h_u_pd h_u_la h_u_bk h_u_ce h_u_ho h_u_wy h_u_bt h_u_ps h_u_ic ⟨by decide, by decide⟩ (r_ro) (r_pt)) (cwV 0 hts gV_X12_419 rfl rfl rfl hv_X12_markAll ⟨Nat.le_of_ble_eq_true rfl, Nat.le_of_ble_eq_true rfl⟩) (g5_preV hPc hK hDc hN hT hS hFc (ci := 12) (q0 := 0) rfl rfl) rfl rfl hl.1 rfl (lv_room (Nat.le_of_ble_eq_true rfl)) dX12_wander_168 ⟨Nat.le_of_ble_eq_true rfl, Nat.le_of_ble_eq_true rfl⟩) hS (fun q _ h => hFc q h) hFc (fun u t H locs ht hvm hw hB hz1 hk1 hS => ?_)
                obtain ⟨hP1, hD1⟩ := hB
                have hP1 := g5_ht ht hP1
                obtain ⟨z36, z37, z38, z39, z40, z41, z42, z43, z44, z45, z46, z47, z48, z49, z50, (i_28 : 0 ≤ z36.toInt ∧ z36.toInt ≤ 4840), (i_29 : 0 ≤ z37.toInt ∧ z37.toInt ≤ 1), (i_30 : 0 ≤ z40.toInt ∧ z40.toInt ≤ 63), (i_31 : 0 ≤ z41.toInt ∧ z41.toInt ≤ 23), (i_32 : 0 ≤ z42.toInt ∧ z42.toInt ≤ 3), (i_33 : 0 ≤ z43.toInt ∧ z43.toInt ≤ 1000000), (i_34 : 0 ≤ z44.toInt ∧ z44.toInt ≤ 200), (i_35 : PTI z49), rfl⟩ := hw
                have hJ9 := va_join (wr := [(b_rf, (arI G 7 v_rf)), (b_wn, (arI G 24 k56_wn))]) hP hD [6, 7, 1, 2, 3, 4] [0, 5] rfl rfl (by decide +kernel) (by decide +kernel) hk1 hFc hP1 hD1
                clear hP hD hPc hDc hFc ht hvm hz1 hk1 hP1 hD1
                obtain ⟨hP, hD⟩ := hJ9
                refine g5_rs [(b_rf, (arI G 7 v_rf)), (b_wn, (arI G 24 k56_wn)), (b_o, (oc12 0 u_sa b_rf b_ro b_im b_ke u_fd b_tp u_td u_fr u_to u_so u_wo u_fa u_bd u_nc b_nl u_co b_op b_ar u_le b_pi b_pa u_pd u_od b_ws b_hw z36 b_se b_re z37 z38 z39 z40 z41 z42 z43 z44 b_pt z45 z46 b_ip u_ic b_ah b_be b_me u_wd b_tr b_ld k56_st b_wn 1)), (b_ro, (arI G 5740 v_ro)), (b_se, (arJ G 13 z47)), (b_re, (arJ G 400 z48)), (b_pt, (arI G 200 z49)), (b_ip, (arZ G 1536 z50))] hP hD ?_
                clear hP hD
                intro hP hD
                refine lv_iconst (v := 0) hx hb dX12_wander_171 (by decide +kernel) ?_
                refine lv_istore (lv' := [(4, .int 0), (3, .int k56_3), (0, .ref b_o), (1, .int p_1), (2, .int p_2)]) hx hb dX12_wander_172 hl (by decide +kernel) rfl ?_
                clear hl
                intro ls hl
                refine lv_iconst (v := 0) hx hb dX12_wander_174 (by decide +kernel) ?_
                refine lv_istore (lv' := [(5, .int 0), (4, .int 0), (3, .int k56_3), (0, .ref b_o), (1, .int p_1), (2, .int p_2)]) hx hb dX12_wander_175 hl (by decide +kernel) rfl ?_
                clear hl
                intro ls hl
                refine g5_loop (α := (Int32) × (Int32)) (fun (q : (Int32) × (Int32)) (ls : Array Slot) (H : Heap) (locs : List Loc) => match q with | (k177_5, k177_4) => lv_has ls 7 [(4, .int k177_4), (5, .int k177_5), (3, .int k56_3), (0, .ref b_o), (1, .int p_1), (2, .int p_2)] ∧ va_P G.1 vwCl [(b_rf, (arI G 7 v_rf)), (b_wn, (arI G 24 k56_wn)), (b_o, (oc12 0 u_sa b_rf b_ro b_im b_ke u_fd b_tp u_td u_fr u_to u_so u_wo u_fa u_bd u_nc b_nl u_co b_op b_ar u_le b_pi b_pa u_pd u_od b_ws b_hw z36 b_se b_re z37 z38 z39 z40 z41 z42 z43 z44 b_pt z45 z46 b_ip u_ic b_ah b_be b_me u_wd b_tr b_ld k56_st b_wn 1)), (b_ro, (arI G 5740 v_ro)), (b_se, (arJ G 13 z47)), (b_re, (arJ G 400 z48)), (b_pt, (arI G 200 z49)), (b_ip, (arZ G 1536 z50))] H ∧ va_D A [(b_rf, (arI G 7 v_rf)), (b_wn, (arI G 24 k56_wn)), (b_o, (oc12 0 u_sa b_rf b_ro b_im b_ke u_fd b_tp u_td u_fr u_to u_so u_wo u_fa u_bd u_nc b_nl u_co b_op b_ar u_le b_pi b_pa u_pd u_od b_ws b_hw z36 b_se b_re z37 z38 z39 z40 z41 z42 z43 z44 b_pt z45 z46 b_ip u_ic b_ah b_be b_me u_wd b_tr b_ld k56_st b_wn 1)), (b_ro, (arI G 5740 v_ro)), (b_se, (arJ G 13 z47)), (b_re, (arJ G 400 z48)), (b_pt, (arI G 200 z49)), (b_ip, (arZ G 1536 z50))] ∧ va_S A s.heap H locs ∧ (0 ≤ k177_5.toInt ∧ k177_5.toInt ≤ 24) ∧ (0 ≤ k177_4.toInt ∧ k177_4.toInt ≤ 24) ∧ (k177_4.toInt ≤ k177_5.toInt)) (fun (q : (Int32) × (Int32)) => match q with | (k177_5, k177_4) => Int.toNat (24 - k177_5.toInt)) (0, 0) ⟨lv_sub hl [1, 0, 2, 3, 4, 5] rfl, hP, hD, hS, ⟨by decide, by decide⟩, ⟨by decide, by decide⟩, Int.le_refl _⟩ ?_
                rintro ⟨k177_5, k177_4⟩ ls H locs ⟨hl, hP, hD, hS, (i_51 : 0 ≤ k177_5.toInt ∧ k177_5.toInt ≤ 24), (i_52 : 0 ≤ k177_4.toInt ∧ k177_4.toInt ≤ 24), (i_53 : k177_4.toInt ≤ k177_5.toInt)⟩ ih_177_54
                replace hl : lv_has ls 7 [(4, .int k177_4), (5, .int k177_5), (3, .int k56_3), (0, .ref b_o), (1, .int p_1), (2, .int p_2)] := hl
                refine g5_rs [(b_rf, (arI G 7 v_rf)), (b_wn, (arI G 24 k56_wn)), (b_o, (oc12 0 u_sa b_rf b_ro b_im b_ke u_fd b_tp u_td u_fr u_to u_so u_wo u_fa u_bd u_nc b_nl u_co b_op b_ar u_le b_pi b_pa u_pd u_od b_ws b_hw z36 b_se b_re z37 z38 z39 z40 z41 z42 z43 z44 b_pt z45 z46 b_ip u_ic b_ah b_be b_me u_wd b_tr b_ld k56_st b_wn 1)), (b_ro, (arI G 5740 v_ro)), (b_se, (arJ G 13 z47)), (b_re, (arJ G 400 z48)), (b_pt, (arI G 200 z49)), (b_ip, (arZ G 1536 z50))] hP hD ?_
                clear hP hD
                intro hP hD
                refine lv_iload hx hb dX12_wander_177 (lv_at hl 1 rfl) ?_
                refine lv_bipush (v := 24) hx hb dX12_wander_179 (by decide +kernel) ?_
                refine lv_icmp_ge (tgt := 221) hx hb dX12_wander_181 (by decide +kernel) (fun c_55 => ?_) (fun c_55 => ?_)
                ·
                  have i_55 : k177_5.toInt ≥ 24 := g5_ge (a := k177_5.toInt) (b := 24) rfl (by decide +kernel) c_55
                  refine lv_aload_n hx hb dX12_wander_221 rfl (lv_at hl 3 rfl) ?_
                  refine lv_iload hx hb dX12_wander_222 (lv_at hl 0 rfl) ?_
                  obtain ⟨hPc, hDc, hFc⟩ := g5_sub3 (wc := [(b_o, (oc12 0 u_sa b_rf b_ro b_im b_ke u_fd b_tp u_td u_fr u_to u_so u_wo u_fa u_bd u_nc b_nl u_co b_op b_ar u_le b_pi b_pa u_pd u_od b_ws b_hw z36 b_se b_re z37 z38 z39 z40 z41 z42 z43 z44 b_pt z45 z46 b_ip u_ic b_ah b_be b_me u_wd b_tr b_ld k56_st b_wn 1)), (b_rf, (arI G 7 v_rf))]) hP hD hS hA [2, 0] (by decide +kernel) rfl
                  refine va_calli (va_runV (As := [.int k177_4]) (rest := []) ⟨hx, hb, hml, hown, hts⟩ (n_tell l G b_o b_rf b_ro b_im b_ke b_tp b_nl b_op b_ar b_pi b_pa b_ws b_hw b_se b_re b_pt b_ip b_ah b_be b_me b_tr b_ld b_wn H.size 0 u_sa u_fd u_td u_fr u_to u_so u_fa u_bd u_nc u_co u_le u_pd u_od z36 z37 z40 z41 z42 z43 z44 z45 z46 u_ic u_wd 1 k177_4 u_wo z38 z39 k56_st v_rf h_u_td h_u_fr h_u_to h_u_bd h_u_nc h_u_co h_u_pd i_28 i_29 i_30 i_31 i_32 i_33 i_34 h_u_ic ⟨by decide, by decide⟩ ⟨by omega, by omega⟩) (cwV 1 hts gV_X12_125 rfl rfl rfl hv_X12_tell ⟨Nat.le_of_ble_eq_true rfl, Nat.le_of_ble_eq_true rfl⟩) (g5_preV hPc hK hDc hN hT hS hFc (ci := 12) (q0 := 0) rfl rfl) rfl rfl hl.1 rfl (lv_room (Nat.le_of_ble_eq_true rfl)) dX12_wander_224 ⟨Nat.le_of_ble_eq_true rfl, Nat.le_of_ble_eq_true rfl⟩) hS (fun q _ h => hFc q h) hFc (fun r u t H locs ht hvm hw hB hz1 hk1 hS => ?_)
                  obtain ⟨hP1, hD1⟩ := hB
                  have hP1 := g5_ht ht hP1
                  obtain ⟨z57, z58, z59, (i_56 : 0 ≤ z58.toInt ∧ z58.toInt ≤ 1), y60, rfl⟩ := hw
                  have hJ9 := va_join (wr := [(b_wn, (arI G 24 k56_wn)), (b_ro, (arI G 5740 v_ro)), (b_se, (arJ G 13 z47)), (b_re, (arJ G 400 z48)), (b_pt, (arI G 200 z49)), (b_ip, (arZ G 1536 z50))]) hP hD [2, 0] [1, 3, 4, 5, 6, 7] rfl rfl (by decide +kernel) (by decide +kernel) hk1 hFc hP1 hD1
                  clear hP hD hPc hDc hFc ht hvm hz1 hk1 hP1 hD1
                  obtain ⟨hP, hD⟩ := hJ9
                  refine g5_rs [(b_wn, (arI G 24 k56_wn)), (b_ro, (arI G 5740 v_ro)), (b_se, (arJ G 13 z47)), (b_re, (arJ G 400 z48)), (b_pt, (arI G 200 z49)), (b_ip, (arZ G 1536 z50)), (b_o, (oc12 0 z57 b_rf b_ro b_im b_ke u_fd b_tp u_td u_fr u_to u_so u_wo u_fa u_bd u_nc b_nl u_co b_op b_ar u_le b_pi b_pa u_pd u_od b_ws b_hw z36 b_se b_re z37 z38 z39 z40 z41 z42 z43 z44 b_pt z45 z46 b_ip z58 b_ah b_be b_me u_wd b_tr b_ld k56_st b_wn 1)), (b_rf, (arI G 7 z59))] hP hD ?_
                  clear hP hD
                  intro hP hD
                  refine g5_ti (v := k177_4) y60 ?_
                  exact W.iret (v := k177_4) hx hb hr (fun t ht hW => ⟨⟨k177_4, [(b_o, (oc12 0 z57 b_rf b_ro b_im b_ke u_fd b_tp u_td u_fr u_to u_so u_wo u_fa u_bd u_nc b_nl u_co b_op b_ar u_le b_pi b_pa u_pd u_od b_ws b_hw z36 b_se b_re z37 z38 z39 z40 z41 z42 z43 z44 b_pt z45 z46 b_ip z58 b_ah b_be b_me u_wd b_tr b_ld k56_st b_wn 1)), (b_rf, (arI G 7 z59)), (b_ro, (arI G 5740 v_ro)), (b_se, (arJ G 13 z47)), (b_re, (arJ G 400 z48)), (b_pt, (arI G 200 z49)), (b_ip, (arZ G 1536 z50)), (b_wn, (arI G 24 k56_wn))], rfl, ⟨k177_4, 0, z57, z36, z37, z38, z39, z40, z41, z42, z43, z44, z45, z46, z58, k56_st, 1, z59, z47, z48, z49, z50, k56_wn, i_28, i_29, i_30, i_31, i_32, i_33, i_34, i_35, i_56, i_22, ⟨by have zc_o_id : (1 : Int32).toInt = 1 := (by decide +kernel); omega, by have zc_o_id : (1 : Int32).toInt = 1 := (by decide +kernel); omega⟩, by rw [(wand_0 (f := v_ro) (g := v_wn) (n := u_id) (s := p_1) (c := p_2) (by unfold okD; omega) i_13).1, i_25, show k56_4.toInt.toNat = 24 by omega], (wand_0 (f := v_ro) (g := v_wn) (n := u_id) (s := p_1) (c := p_2) (by unfold okD; omega) i_13).2.symm, rfl, rfl⟩, by rw [ht]; exact hP.sub [6, 7, 1, 2, 3, 4, 5, 0] rfl, hD.sub [6, 7, 1, 2, 3, 4, 5, 0] (by decide +kernel) rfl⟩, hS.F ht⟩) hS.2.2 dX12_wander_227
                ·
                  have i_55 : k177_5.toInt < 24 := g5_geN (a := k177_5.toInt) (b := 24) rfl (by decide +kernel) c_55
                  refine lv_iload hx hb dX12_wander_184 (lv_at hl 0 rfl) ?_
                  refine lv_aload_n hx hb dX12_wander_186 rfl (lv_at hl 3 rfl) ?_
                  refine va_get (D := G.1) (ci := 12) (v := .ref b_ip) (C := RX12) (T := TX12) (N := 52) hx hb hts inG_X12 hown hK hP 2 rfl rfl 41 (by decide +kernel) (hts _ fl_X12_85) (fun _ h9 => h9) rfl dX12_wander_187 ?_
                  refine lv_bipush (v := 64) hx hb dX12_wander_190 (by decide +kernel) ?_
                  refine W.eq (g2 := F0 m 192 ls [.int 64, .ref b_ip, .int k177_4]) rfl ?_
                  refine lv_iload hx hb dX12_wander_192 (lv_at hl 1 rfl) ?_
                  refine lv_imul hx hb dX12_wander_194 ?_
                  have t_61 : (64 * k177_5).toInt = 64 * k177_5.toInt := g5_imul (a := 64) (b := k177_5.toInt) (by decide +kernel) (by rfl) (by omega) (by omega)
                  refine lv_aload_n hx hb dX12_wander_195 rfl (lv_at hl 3 rfl) ?_
                  refine va_get (D := G.1) (ci := 12) (v := .ref b_wn) (C := RX12) (T := TX12) (N := 52) hx hb hts inG_X12 hown hK hP 2 rfl rfl 50 (by decide +kernel) (hts _ fl_X12_104) (fun _ h9 => h9) rfl dX12_wander_196 ?_
                  refine lv_iload hx hb dX12_wander_199 (lv_at hl 1 rfl) ?_
                  refine W.eq (g2 := F0 m 201 ls [.int k177_5, .ref b_wn, .int (64 * k177_5), .ref b_ip, .int k177_4]) rfl ?_
                  refine va_iald hx hb hK hP 1 0 rfl rfl (i := k177_5) (vp_in_iff.mpr ⟨by omega, by omega⟩) dX12_wander_201 ?_
                  have hr_62 : 0 ≤ (k56_wn k177_5.toNatClampNeg).toInt ∧ (k56_wn k177_5.toNatClampNeg).toInt ≤ 63 := i_22 (k177_5.toNatClampNeg)
                  refine lv_iadd hx hb dX12_wander_202 ?_
                  have t_63 : ((64 * k177_5) + (k56_wn k177_5.toNatClampNeg)).toInt = (64 * k177_5).toInt + (k56_wn k177_5.toNatClampNeg).toInt := g5_iadd (a := (64 * k177_5).toInt) (b := (k56_wn k177_5.toNatClampNeg).toInt) (by rfl) (by rfl) (by omega) (by omega)
                  refine va_zald hx hb hK hP 7 2 rfl rfl (i := ((64 * k177_5) + (k56_wn k177_5.toNatClampNeg))) (vp_in_iff.mpr ⟨by omega, by omega⟩) dX12_wander_203 ?_
                  refine lv_if_eq (tgt := 211) hx hb dX12_wander_204 (by decide +kernel) (fun c_64 => ?_) (fun c_64 => ?_)
                  ·
                    have i_64 : (z50 ((64 * k177_5) + (k56_wn k177_5.toNatClampNeg)).toNatClampNeg).toInt = 0 := g5_eq (a := (z50 ((64 * k177_5) + (k56_wn k177_5.toNatClampNeg)).toNatClampNeg).toInt) (b := 0) rfl (by decide +kernel) c_64
                    refine lv_iconst (v := 0) hx hb dX12_wander_211 (by decide +kernel) ?_
                    refine lv_iadd hx hb dX12_wander_212 ?_
                    refine g5_ti (v := k177_4) (by simp) ?_
                    refine lv_istore (lv' := [(4, .int k177_4), (5, .int k177_5), (3, .int k56_3), (0, .ref b_o), (1, .int p_1), (2, .int p_2)]) hx hb dX12_wander_213 hl (by decide +kernel) rfl ?_
                    clear hl
                    intro ls hl
                    refine lv_iinc (v := (k177_5 + 1)) (lv' := [(5, .int (k177_5 + 1)), (4, .int k177_4), (3, .int k56_3), (0, .ref b_o), (1, .int p_1), (2, .int p_2)]) hx hb dX12_wander_215 hl (k := 1) rfl rfl (by decide +kernel) rfl ?_
                    clear hl
                    intro ls hl
                    have t_65 : (k177_5 + 1).toInt = k177_5.toInt + 1 := g5_iadd (a := k177_5.toInt) (b := 1) rfl (by decide +kernel) (by omega) (by omega)
                    refine W.eq (g2 := F0 m 218 ls []) rfl ?_
                    refine lv_goto (tgt := 177) hx hb dX12_wander_218 (by decide +kernel) ?_
                    exact ih_177_54 ((k177_5 + 1), k177_4) ls H locs (show Int.toNat (24 - (k177_5 + 1).toInt) < Int.toNat (24 - k177_5.toInt) from g_up (show k177_5.toInt < (k177_5 + 1).toInt by omega) (show k177_5.toInt < 24 by omega)) ⟨lv_sub hl [1, 0, 2, 3, 4, 5] rfl, hP, hD, hS, ⟨by omega, by omega⟩, i_52, by omega⟩
                  ·
                    have n_64 : gNe ((z50 ((64 * k177_5) + (k56_wn k177_5.toNatClampNeg)).toNatClampNeg).toInt) (0) := g5_eqN (a := (z50 ((64 * k177_5) + (k56_wn k177_5.toNatClampNeg)).toNatClampNeg).toInt) (b := 0) rfl (by decide +kernel) c_64
                    refine lv_iconst (v := 1) hx hb dX12_wander_207 (by decide +kernel) ?_
                    refine lv_goto (tgt := 212) hx hb dX12_wander_208 (by decide +kernel) ?_
                    refine lv_iadd hx hb dX12_wander_212 ?_
                    have t_66 : (k177_4 + 1).toInt = k177_4.toInt + 1 := g5_iadd (a := k177_4.toInt) (b := 1) (by rfl) (by decide +kernel) (by omega) (by omega)
                    refine lv_istore (lv' := [(4, .int (k177_4 + 1)), (5, .int k177_5), (3, .int k56_3), (0, .ref b_o), (1, .int p_1), (2, .int p_2)]) hx hb dX12_wander_213 hl (by decide +kernel) rfl ?_
                    clear hl
                    intro ls hl
                    refine W.eq (g2 := F0 m 215 ls []) rfl ?_
                    refine lv_iinc (v := (k177_5 + 1)) (lv' := [(5, .int (k177_5 + 1)), (4, .int (k177_4 + 1)), (3, .int k56_3), (0, .ref b_o), (1, .int p_1), (2, .int p_2)]) hx hb dX12_wander_215 hl (k := 1) rfl rfl (by decide +kernel) rfl ?_
                    clear hl
                    intro ls hl
                    have t_67 : (k177_5 + 1).toInt = k177_5.toInt + 1 := g5_iadd (a := k177_5.toInt) (b := 1) rfl (by decide +kernel) (by omega) (by omega)
                    refine lv_goto (tgt := 177) hx hb dX12_wander_218 (by decide +kernel) ?_
                    exact ih_177_54 ((k177_5 + 1), (k177_4 + 1)) ls H locs (show Int.toNat (24 - (k177_5 + 1).toInt) < Int.toNat (24 - k177_5.toInt) from g_up (show k177_5.toInt < (k177_5 + 1).toInt by omega) (show k177_5.toInt < 24 by omega)) ⟨lv_sub hl [1, 0, 2, 3, 4, 5] rfl, hP, hD, hS, ⟨by omega, by omega⟩, ⟨by omega, by omega⟩, by omega⟩
              ·
                have i_27 : k56_4.toInt < 24 := g5_geN (a := k56_4.toInt) (b := 24) rfl (by decide +kernel) c_27
                refine lv_iload hx hb dX12_wander_63 (lv_at hl 1 rfl) ?_
                refine lv_if_le (tgt := 148) hx hb dX12_wander_65 (by decide +kernel) (fun c_68 => ?_) (fun c_68 => ?_)
                ·
                  have i_68 : k56_4.toInt ≤ 0 := g5_le (a := k56_4.toInt) (b := 0) rfl (by decide +kernel) c_68
                  refine lv_aload_n hx hb dX12_wander_148 rfl (lv_at hl 2 rfl) ?_
                  refine va_get (D := G.1) (ci := 12) (v := .ref b_wn) (C := RX12) (T := TX12) (N := 52) hx hb hts inG_X12 hown hK hP 6 rfl rfl 50 (by decide +kernel) (hts _ fl_X12_104) (fun _ h9 => h9) rfl dX12_wander_149 ?_
                  refine lv_iload hx hb dX12_wander_152 (lv_at hl 1 rfl) ?_
                  refine lv_iload_n hx hb dX12_wander_154 rfl (lv_at hl 0 rfl) ?_
                  refine W.eq (g2 := F0 m 155 ls [.int k56_3, .int k56_4, .ref b_wn]) rfl ?_
                  refine va_iast hx hb hK hP hD hS 5 0 rfl rfl (i := k56_4) (x := k56_3) (vp_in_iff.mpr ⟨by omega, by omega⟩) dX12_wander_155 ?_
                  clear hP hD hS
                  intro H locs hP hD hS
                  refine g5_rs [(b_rf, (arI G 7 v_rf)), (b_se, (arJ G 13 v_se)), (b_re, (arJ G 400 v_re)), (b_pt, (arI G 200 v_pt)), (b_ip, (arZ G 1536 v_ip)), (b_wn, (arI G 24 (upd k56_wn k56_4.toNatClampNeg k56_3))), (b_o, (oc12 0 u_sa b_rf b_ro b_im b_ke u_fd b_tp u_td u_fr u_to u_so u_wo u_fa u_bd u_nc b_nl u_co b_op b_ar u_le b_pi b_pa u_pd u_od b_ws b_hw u_la b_se b_re u_bk u_va u_su u_ce u_ho u_wy u_bt u_ps b_pt u_tg u_sn b_ip u_ic b_ah b_be b_me u_wd b_tr b_ld k56_st b_wn u_id)), (b_ro, (arI G 5740 v_ro))] hP hD ?_
                  clear hP hD
                  intro hP hD
                  refine lv_iinc (v := (k56_4 + 1)) (lv' := [(4, .int (k56_4 + 1)), (3, .int k56_3), (0, .ref b_o), (1, .int p_1), (2, .int p_2)]) hx hb dX12_wander_156 hl (k := 1) rfl rfl (by decide +kernel) rfl ?_
                  clear hl
                  intro ls hl
                  have t_69 : (k56_4 + 1).toInt = k56_4.toInt + 1 := g5_iadd (a := k56_4.toInt) (b := 1) rfl (by decide +kernel) (by omega) (by omega)
                  refine lv_goto (tgt := 56) hx hb dX12_wander_159 (by decide +kernel) ?_
                  exact ih_56_26 ((k56_4 + 1), k56_3, k56_st, (upd k56_wn k56_4.toNatClampNeg k56_3)) ls H locs (show Int.toNat (24 - (k56_4 + 1).toInt) < Int.toNat (24 - k56_4.toInt) from g_up (show k56_4.toInt < (k56_4 + 1).toInt by omega) (show k56_4.toInt < 24 by omega)) ⟨lv_sub hl [1, 0, 2, 3, 4] rfl, hP, hD, hS, ⟨by omega, by omega⟩, i_21, wn_upd i_22 (by omega), by rw [show (k56_4 + 1).toInt.toNat - 1 = k56_4.toInt.toNat - 1 by omega]; exact i_23, by rw [show (k56_4 + 1).toInt.toNat - 1 = k56_4.toInt.toNat - 1 by omega]; exact i_24, by rw [show (k56_4 + 1).toInt.toNat = k56_4.toInt.toNat + 1 by omega]; exact wdR_S i_25 rfl (by rw [show k56_4.toInt.toNat = k56_4.toInt.toNat - 1 by omega]; exact i_24)⟩
                ·
                  have i_68 : k56_4.toInt > 0 := g5_leN (a := k56_4.toInt) (b := 0) rfl (by decide +kernel) c_68
                  refine lv_aload_n hx hb dX12_wander_68 rfl (lv_at hl 2 rfl) ?_
                  refine lv_aload_n hx hb dX12_wander_69 rfl (lv_at hl 2 rfl) ?_
                  refine va_get (D := G.1) (ci := 12) (v := .long k56_st) (C := RX12) (T := TX12) (N := 52) hx hb hts inG_X12 hown hK hP 6 rfl rfl 49 (by decide +kernel) (hts _ fl_X12_469) (fun _ h9 => h9) rfl dX12_wander_70 ?_
                  refine lv_ldc2 (v := 1103) hx hb hown (hts _ kl_X12_472) dX12_wander_73 ?_
                  refine W.eq (g2 := F0 m 76 ls [.long 1103, .long k56_st, .ref b_o]) rfl ?_
                  refine lv_lmul hx hb dX12_wander_76 ?_
                  refine lv_ldc2 (v := 12345) hx hb hown (hts _ kl_X12_474) dX12_wander_77 ?_
                  refine lv_ladd hx hb dX12_wander_80 ?_
                  refine lv_ldc2 (v := 1000003) hx hb hown (hts _ kl_X12_476) dX12_wander_81 ?_
                  refine lv_lrem hx hb dX12_wander_84 (by decide +kernel) ?_
                  refine W.eq (g2 := F0 m 85 ls [.long (((k56_st * 1103) + 12345) - ((k56_st * 1103) + 12345) / 1000003 * 1000003), .ref b_o]) rfl ?_
                  refine va_put (D := G.1) (ci := 12) (v := .long (((k56_st * 1103) + 12345) - ((k56_st * 1103) + 12345) / 1000003 * 1000003)) (ty := .long) (C := RX12) (T := TX12) (N := 52) hx hb hts inG_X12 tyX12 tyX12_ok nmX12 hown hK hP hD hS 6 rfl rfl 49 (by decide +kernel) (hts _ fl_X12_469) (fun _ h9 => h9) rfl (by decide +kernel) rfl rfl (Nat.le_of_ble_eq_true rfl) dX12_wander_85 ?_
                  clear hP hD hS
                  intro H locs hP hD hS
                  refine g5_rs [(b_rf, (arI G 7 v_rf)), (b_se, (arJ G 13 v_se)), (b_re, (arJ G 400 v_re)), (b_pt, (arI G 200 v_pt)), (b_ip, (arZ G 1536 v_ip)), (b_wn, (arI G 24 k56_wn)), (b_o, (oc12 0 u_sa b_rf b_ro b_im b_ke u_fd b_tp u_td u_fr u_to u_so u_wo u_fa u_bd u_nc b_nl u_co b_op b_ar u_le b_pi b_pa u_pd u_od b_ws b_hw u_la b_se b_re u_bk u_va u_su u_ce u_ho u_wy u_bt u_ps b_pt u_tg u_sn b_ip u_ic b_ah b_be b_me u_wd b_tr b_ld (((k56_st * 1103) + 12345) - ((k56_st * 1103) + 12345) / 1000003 * 1000003) b_wn u_id)), (b_ro, (arI G 5740 v_ro))] hP hD ?_
                  clear hP hD
                  intro hP hD
                  refine lv_aload_n hx hb dX12_wander_88 rfl (lv_at hl 2 rfl) ?_
                  refine va_get (D := G.1) (ci := 12) (v := .long (((k56_st * 1103) + 12345) - ((k56_st * 1103) + 12345) / 1000003 * 1000003)) (C := RX12) (T := TX12) (N := 52) hx hb hts inG_X12 hown hK hP 6 rfl rfl 49 (by decide +kernel) (hts _ fl_X12_469) (fun _ h9 => h9) rfl dX12_wander_89 ?_
                  refine lv_ldc2 (v := 5) hx hb hown (hts _ kl_X12_154) dX12_wander_92 ?_
                  refine lv_lrem hx hb dX12_wander_95 (by decide +kernel) ?_
                  refine W.eq (g2 := F0 m 96 ls [.long ((((k56_st * 1103) + 12345) - ((k56_st * 1103) + 12345) / 1000003 * 1000003) - (((k56_st * 1103) + 12345) - ((k56_st * 1103) + 12345) / 1000003 * 1000003) / 5 * 5)]) rfl ?_
                  refine lv_l2i (v := ((((k56_st * 1103) + 12345) - ((k56_st * 1103) + 12345) / 1000003 * 1000003) - (((k56_st * 1103) + 12345) - ((k56_st * 1103) + 12345) / 1000003 * 1000003) / 5 * 5).toInt32) hx hb dX12_wander_96 rfl ?_
                  obtain ⟨y70, hy_70⟩ : ∃ y : Int32, ((((k56_st * 1103) + 12345) - ((k56_st * 1103) + 12345) / 1000003 * 1000003) - (((k56_st * 1103) + 12345) - ((k56_st * 1103) + 12345) / 1000003 * 1000003) / 5 * 5).toInt32 = y := ⟨_, rfl⟩
                  refine g5_ti (v := y70) hy_70 ?_
                  have hk_70 : wdK p_1.toInt64 ((k56_4.toInt.toNat - 1) + 1) = y70 := wdk_of i_23 hy_70
                  have hg_70 : 0 ≤ y70.toInt ∧ y70.toInt ≤ 4 := by rw [← hk_70]; exact wdK_rg (by rw [Int32.toInt_toInt64]; omega) (by rw [Int32.toInt_toInt64]; omega) _
                  refine lv_istore (lv' := [(5, .int y70), (3, .int k56_3), (4, .int k56_4), (0, .ref b_o), (1, .int p_1), (2, .int p_2)]) hx hb dX12_wander_97 hl (by decide +kernel) rfl ?_
                  clear hl
                  intro ls hl
                  refine lv_iload hx hb dX12_wander_99 (lv_at hl 0 rfl) ?_
                  refine lv_iconst (v := 4) hx hb dX12_wander_101 (by decide +kernel) ?_
                  refine lv_icmp_ne (tgt := 109) hx hb dX12_wander_102 (by decide +kernel) (fun c_71 => ?_) (fun c_71 => ?_)
                  ·
                    have n_71 : gNe (y70.toInt) (4) := g5_ne (a := y70.toInt) (b := 4) rfl (by decide +kernel) c_71
                    have i_71 : y70.toInt ≤ 3 := by have z := g5_ne (a := y70.toInt) (b := 4) (by rfl) (by decide +kernel) c_71; omega
                    refine lv_iload_n hx hb dX12_wander_109 rfl (lv_at hl 1 rfl) ?_
                    refine lv_iload hx hb dX12_wander_110 (lv_at hl 0 rfl) ?_
                    obtain ⟨hPc, hDc, hFc⟩ := g5_sub3 (wc := []) hP hD hS hA [] (by decide +kernel) rfl
                    refine va_calli (va_runS (As := [.int k56_3, .int y70]) (rest := []) ⟨hx, hb, hml, hown, hts⟩ (n_besideE l G H.size k56_3 y70 i_21 ⟨by omega, by omega⟩) (va_cwS 2 hts gS_X12_374 rfl rfl rfl hs_X12_beside ⟨Nat.le_of_ble_eq_true rfl, Nat.le_of_ble_eq_true rfl⟩) (g5_preS hPc hK hDc hN hT hS hFc) rfl rfl hl.1 rfl (lv_room (Nat.le_of_ble_eq_true rfl)) dX12_wander_112 ⟨Nat.le_of_ble_eq_true rfl, Nat.le_of_ble_eq_true rfl⟩) hS (fun q _ h => hFc q h) hFc (fun r u t H locs ht hvm hw hB hz1 hk1 hS => ?_)
                    obtain ⟨hP1, hD1⟩ := hB
                    have hP1 := g5_ht ht hP1
                    obtain ⟨z74, (i_72 : z74.toInt = bs k56_3.toInt y70.toInt), (i_73 : -1 ≤ z74.toInt ∧ z74.toInt ≤ 63), y75, rfl⟩ := hw
                    have hJ9 := g5_same hP hk1
                    clear hP hPc hDc hFc ht hvm hz1 hk1 hP1 hD1
                    have hP := hJ9
                    clear hJ9
                    refine g5_ti (v := z74) y75 ?_
                    refine lv_istore (lv' := [(6, .int z74), (5, .int y70), (3, .int k56_3), (4, .int k56_4), (0, .ref b_o), (1, .int p_1), (2, .int p_2)]) hx hb dX12_wander_115 hl (by decide +kernel) rfl ?_
                    clear hl
                    intro ls hl
                    refine W.eq (g2 := F0 m 117 ls []) rfl ?_
                    refine lv_iload hx hb dX12_wander_117 (lv_at hl 0 rfl) ?_
                    refine lv_iconst (v := (-1)) hx hb dX12_wander_119 (by decide +kernel) ?_
                    refine lv_icmp_eq (tgt := 146) hx hb dX12_wander_120 (by decide +kernel) (fun c_76 => ?_) (fun c_76 => ?_)
                    ·
                      have i_76 : z74.toInt = (-1) := g5_eq (a := z74.toInt) (b := (-1)) rfl (by decide +kernel) c_76
                      refine lv_iload_n hx hb dX12_wander_146 rfl (lv_at hl 2 rfl) ?_
                      refine lv_istore_n (lv' := [(3, .int k56_3), (6, .int z74), (5, .int y70), (4, .int k56_4), (0, .ref b_o), (1, .int p_1), (2, .int p_2)]) hx hb dX12_wander_147 rfl hl (by decide +kernel) rfl ?_
                      clear hl
                      intro ls hl
                      refine lv_aload_n hx hb dX12_wander_148 rfl (lv_at hl 4 rfl) ?_
                      refine va_get (D := G.1) (ci := 12) (v := .ref b_wn) (C := RX12) (T := TX12) (N := 52) hx hb hts inG_X12 hown hK hP 6 rfl rfl 50 (by decide +kernel) (hts _ fl_X12_104) (fun _ h9 => h9) rfl dX12_wander_149 ?_
                      refine W.eq (g2 := F0 m 152 ls [.ref b_wn]) rfl ?_
                      refine lv_iload hx hb dX12_wander_152 (lv_at hl 3 rfl) ?_
                      refine lv_iload_n hx hb dX12_wander_154 rfl (lv_at hl 0 rfl) ?_
                      refine va_iast hx hb hK hP hD hS 5 0 rfl rfl (i := k56_4) (x := k56_3) (vp_in_iff.mpr ⟨by omega, by omega⟩) dX12_wander_155 ?_
                      clear hP hD hS
                      intro H locs hP hD hS
                      refine g5_rs [(b_rf, (arI G 7 v_rf)), (b_se, (arJ G 13 v_se)), (b_re, (arJ G 400 v_re)), (b_pt, (arI G 200 v_pt)), (b_ip, (arZ G 1536 v_ip)), (b_wn, (arI G 24 (upd k56_wn k56_4.toNatClampNeg k56_3))), (b_o, (oc12 0 u_sa b_rf b_ro b_im b_ke u_fd b_tp u_td u_fr u_to u_so u_wo u_fa u_bd u_nc b_nl u_co b_op b_ar u_le b_pi b_pa u_pd u_od b_ws b_hw u_la b_se b_re u_bk u_va u_su u_ce u_ho u_wy u_bt u_ps b_pt u_tg u_sn b_ip u_ic b_ah b_be b_me u_wd b_tr b_ld (((k56_st * 1103) + 12345) - ((k56_st * 1103) + 12345) / 1000003 * 1000003) b_wn u_id)), (b_ro, (arI G 5740 v_ro))] hP hD ?_
                      clear hP hD
                      intro hP hD
                      refine lv_iinc (v := (k56_4 + 1)) (lv' := [(4, .int (k56_4 + 1)), (3, .int k56_3), (6, .int z74), (5, .int y70), (0, .ref b_o), (1, .int p_1), (2, .int p_2)]) hx hb dX12_wander_156 hl (k := 3) rfl rfl (by decide +kernel) rfl ?_
                      clear hl
                      intro ls hl
                      have t_77 : (k56_4 + 1).toInt = k56_4.toInt + 1 := g5_iadd (a := k56_4.toInt) (b := 1) rfl (by decide +kernel) (by omega) (by omega)
                      refine lv_goto (tgt := 56) hx hb dX12_wander_159 (by decide +kernel) ?_
                      exact ih_56_26 ((k56_4 + 1), k56_3, (((k56_st * 1103) + 12345) - ((k56_st * 1103) + 12345) / 1000003 * 1000003), (upd k56_wn k56_4.toNatClampNeg k56_3)) ls H locs (show Int.toNat (24 - (k56_4 + 1).toInt) < Int.toNat (24 - k56_4.toInt) from g_up (show k56_4.toInt < (k56_4 + 1).toInt by omega) (show k56_4.toInt < 24 by omega)) ⟨lv_sub hl [1, 0, 4, 5, 6] rfl, hP, hD, hS, ⟨by omega, by omega⟩, i_21, wn_upd i_22 (by omega), by rw [show (k56_4 + 1).toInt.toNat - 1 = (k56_4.toInt.toNat - 1) + 1 by omega, wdS_S, ← i_23]; rfl, by rw [show (k56_4 + 1).toInt.toNat - 1 = (k56_4.toInt.toNat - 1) + 1 by omega]; exact (by rw [wdC_S hk_70, ← i_24, ws_n (by rw [← i_72]; omega)]), by rw [show (k56_4 + 1).toInt.toNat = k56_4.toInt.toNat + 1 by omega]; exact wdR_S i_25 rfl (by rw [show k56_4.toInt.toNat = (k56_4.toInt.toNat - 1) + 1 by omega]; exact (by rw [wdC_S hk_70, ← i_24, ws_n (by rw [← i_72]; omega)]))⟩
                    ·
                      have n_76 : gNe (z74.toInt) ((-1)) := g5_eqN (a := z74.toInt) (b := (-1)) rfl (by decide +kernel) c_76
                      have i_76 : z74.toInt ≥ 0 := by have z := g5_eqN (a := z74.toInt) (b := (-1)) (by rfl) (by decide +kernel) c_76; omega
                      refine lv_aload_n hx hb dX12_wander_123 rfl (lv_at hl 4 rfl) ?_
                      refine lv_iload hx hb dX12_wander_124 (lv_at hl 0 rfl) ?_
                      refine lv_if_ge (tgt := 133) hx hb dX12_wander_126 (by decide +kernel) (fun c_78 => ?_) (fun c_78 => ?_)
                      ·
                        have i_78 : z74.toInt ≥ 0 := g5_ge (a := z74.toInt) (b := 0) rfl (by decide +kernel) c_78
                        refine lv_iload hx hb dX12_wander_133 (lv_at hl 0 rfl) ?_
                        obtain ⟨hPc, hDc, hFc⟩ := g5_sub3 (wc := [(b_o, (oc12 0 u_sa b_rf b_ro b_im b_ke u_fd b_tp u_td u_fr u_to u_so u_wo u_fa u_bd u_nc b_nl u_co b_op b_ar u_le b_pi b_pa u_pd u_od b_ws b_hw u_la b_se b_re u_bk u_va u_su u_ce u_ho u_wy u_bt u_ps b_pt u_tg u_sn b_ip u_ic b_ah b_be b_me u_wd b_tr b_ld (((k56_st * 1103) + 12345) - ((k56_st * 1103) + 12345) / 1000003 * 1000003) b_wn u_id)), (b_ro, (arI G 5740 v_ro))]) hP hD hS hA [6, 7] (by decide +kernel) rfl
                        refine va_calli (va_runV (As := [.int z74]) (rest := []) ⟨hx, hb, hml, hown, hts⟩ (n_isWallE l G b_o b_ro b_rf b_im b_ke b_tp b_nl b_op b_ar b_pi b_pa b_ws b_hw b_se b_re b_pt b_ip b_ah b_be b_me b_tr b_ld b_wn H.size 0 u_sa u_fd u_td u_fr u_to u_so u_fa u_bd u_nc u_co u_le u_pd u_od u_la u_bk u_ce u_ho u_wy u_bt u_ps u_tg u_sn u_ic u_wd u_id z74 u_wo u_va u_su (((k56_st * 1103) + 12345) - ((k56_st * 1103) + 12345) / 1000003 * 1000003) v_ro h_u_td h_u_fr h_u_to h_u_bd h_u_nc h_u_co h_u_pd h_u_la h_u_bk h_u_ce h_u_ho h_u_wy h_u_bt h_u_ps h_u_ic h_u_id ⟨by omega, by omega⟩ (r_ro)) (cwV 1 hts gV_X12_160 rfl rfl rfl hv_X12_isWall ⟨Nat.le_of_ble_eq_true rfl, Nat.le_of_ble_eq_true rfl⟩) (g5_preV hPc hK hDc hN hT hS hFc (ci := 12) (q0 := 0) rfl rfl) rfl rfl hl.1 rfl (lv_room (Nat.le_of_ble_eq_true rfl)) dX12_wander_135 ⟨Nat.le_of_ble_eq_true rfl, Nat.le_of_ble_eq_true rfl⟩) hS (fun q _ h => hFc q h) hFc (fun r u t H locs ht hvm hw hB hz1 hk1 hS => ?_)
                        obtain ⟨hP1, hD1⟩ := hB
                        have hP1 := g5_ht ht hP1
                        rcases hw with ⟨(i_79 : wallAt v_ro z74.toInt), rfl, rfl⟩ | ⟨(i_80 : ¬ wallAt v_ro z74.toInt), rfl, rfl⟩
                        ·
                          have hJ9 := va_join (wr := [(b_rf, (arI G 7 v_rf)), (b_se, (arJ G 13 v_se)), (b_re, (arJ G 400 v_re)), (b_pt, (arI G 200 v_pt)), (b_ip, (arZ G 1536 v_ip)), (b_wn, (arI G 24 k56_wn))]) hP hD [6, 7] [0, 1, 2, 3, 4, 5] rfl rfl (by decide +kernel) (by decide +kernel) hk1 hFc hP1 hD1
                          clear hP hD hPc hDc hFc ht hvm hz1 hk1 hP1 hD1
                          obtain ⟨hP, hD⟩ := hJ9
                          refine g5_rs [(b_rf, (arI G 7 v_rf)), (b_se, (arJ G 13 v_se)), (b_re, (arJ G 400 v_re)), (b_pt, (arI G 200 v_pt)), (b_ip, (arZ G 1536 v_ip)), (b_wn, (arI G 24 k56_wn)), (b_o, (oc12 0 u_sa b_rf b_ro b_im b_ke u_fd b_tp u_td u_fr u_to u_so u_wo u_fa u_bd u_nc b_nl u_co b_op b_ar u_le b_pi b_pa u_pd u_od b_ws b_hw u_la b_se b_re u_bk u_va u_su u_ce u_ho u_wy u_bt u_ps b_pt u_tg u_sn b_ip u_ic b_ah b_be b_me u_wd b_tr b_ld (((k56_st * 1103) + 12345) - ((k56_st * 1103) + 12345) / 1000003 * 1000003) b_wn u_id)), (b_ro, (arI G 5740 v_ro))] hP hD ?_
                          clear hP hD
                          intro hP hD
                          refine lv_if_ne (tgt := 146) hx hb dX12_wander_138 (by decide +kernel) (fun c_81 => ?_) (fun c_81 => ?_)
                          ·
                            refine lv_iload_n hx hb dX12_wander_146 rfl (lv_at hl 2 rfl) ?_
                            refine lv_istore_n (lv' := [(3, .int k56_3), (6, .int z74), (5, .int y70), (4, .int k56_4), (0, .ref b_o), (1, .int p_1), (2, .int p_2)]) hx hb dX12_wander_147 rfl hl (by decide +kernel) rfl ?_
                            clear hl
                            intro ls hl
                            refine lv_aload_n hx hb dX12_wander_148 rfl (lv_at hl 4 rfl) ?_
                            refine va_get (D := G.1) (ci := 12) (v := .ref b_wn) (C := RX12) (T := TX12) (N := 52) hx hb hts inG_X12 hown hK hP 6 rfl rfl 50 (by decide +kernel) (hts _ fl_X12_104) (fun _ h9 => h9) rfl dX12_wander_149 ?_
                            refine W.eq (g2 := F0 m 152 ls [.ref b_wn]) rfl ?_
                            refine lv_iload hx hb dX12_wander_152 (lv_at hl 3 rfl) ?_
                            refine lv_iload_n hx hb dX12_wander_154 rfl (lv_at hl 0 rfl) ?_
                            refine va_iast hx hb hK hP hD hS 5 0 rfl rfl (i := k56_4) (x := k56_3) (vp_in_iff.mpr ⟨by omega, by omega⟩) dX12_wander_155 ?_
                            clear hP hD hS
                            intro H locs hP hD hS
                            refine g5_rs [(b_rf, (arI G 7 v_rf)), (b_se, (arJ G 13 v_se)), (b_re, (arJ G 400 v_re)), (b_pt, (arI G 200 v_pt)), (b_ip, (arZ G 1536 v_ip)), (b_wn, (arI G 24 (upd k56_wn k56_4.toNatClampNeg k56_3))), (b_o, (oc12 0 u_sa b_rf b_ro b_im b_ke u_fd b_tp u_td u_fr u_to u_so u_wo u_fa u_bd u_nc b_nl u_co b_op b_ar u_le b_pi b_pa u_pd u_od b_ws b_hw u_la b_se b_re u_bk u_va u_su u_ce u_ho u_wy u_bt u_ps b_pt u_tg u_sn b_ip u_ic b_ah b_be b_me u_wd b_tr b_ld (((k56_st * 1103) + 12345) - ((k56_st * 1103) + 12345) / 1000003 * 1000003) b_wn u_id)), (b_ro, (arI G 5740 v_ro))] hP hD ?_
                            clear hP hD
                            intro hP hD
                            refine lv_iinc (v := (k56_4 + 1)) (lv' := [(4, .int (k56_4 + 1)), (3, .int k56_3), (6, .int z74), (5, .int y70), (0, .ref b_o), (1, .int p_1), (2, .int p_2)]) hx hb dX12_wander_156 hl (k := 3) rfl rfl (by decide +kernel) rfl ?_
                            clear hl
                            intro ls hl
                            have t_82 : (k56_4 + 1).toInt = k56_4.toInt + 1 := g5_iadd (a := k56_4.toInt) (b := 1) rfl (by decide +kernel) (by omega) (by omega)
                            refine lv_goto (tgt := 56) hx hb dX12_wander_159 (by decide +kernel) ?_
                            exact ih_56_26 ((k56_4 + 1), k56_3, (((k56_st * 1103) + 12345) - ((k56_st * 1103) + 12345) / 1000003 * 1000003), (upd k56_wn k56_4.toNatClampNeg k56_3)) ls H locs (show Int.toNat (24 - (k56_4 + 1).toInt) < Int.toNat (24 - k56_4.toInt) from g_up (show k56_4.toInt < (k56_4 + 1).toInt by omega) (show k56_4.toInt < 24 by omega)) ⟨lv_sub hl [1, 0, 4, 5, 6] rfl, hP, hD, hS, ⟨by omega, by omega⟩, i_21, wn_upd i_22 (by omega), by rw [show (k56_4 + 1).toInt.toNat - 1 = (k56_4.toInt.toNat - 1) + 1 by omega, wdS_S, ← i_23]; rfl, by rw [show (k56_4 + 1).toInt.toNat - 1 = (k56_4.toInt.toNat - 1) + 1 by omega]; exact (by rw [wdC_S hk_70, ← i_24, ws_w (by rw [← i_72]; exact i_79)]), by rw [show (k56_4 + 1).toInt.toNat = k56_4.toInt.toNat + 1 by omega]; exact wdR_S i_25 rfl (by rw [show k56_4.toInt.toNat = (k56_4.toInt.toNat - 1) + 1 by omega]; exact (by rw [wdC_S hk_70, ← i_24, ws_w (by rw [← i_72]; exact i_79)]))⟩
                          ·
                            exact absurd c_81 (by decide +kernel)
                        ·
                          have hJ9 := va_join (wr := [(b_rf, (arI G 7 v_rf)), (b_se, (arJ G 13 v_se)), (b_re, (arJ G 400 v_re)), (b_pt, (arI G 200 v_pt)), (b_ip, (arZ G 1536 v_ip)), (b_wn, (arI G 24 k56_wn))]) hP hD [6, 7] [0, 1, 2, 3, 4, 5] rfl rfl (by decide +kernel) (by decide +kernel) hk1 hFc hP1 hD1
                          clear hP hD hPc hDc hFc ht hvm hz1 hk1 hP1 hD1
                          obtain ⟨hP, hD⟩ := hJ9
                          refine g5_rs [(b_rf, (arI G 7 v_rf)), (b_se, (arJ G 13 v_se)), (b_re, (arJ G 400 v_re)), (b_pt, (arI G 200 v_pt)), (b_ip, (arZ G 1536 v_ip)), (b_wn, (arI G 24 k56_wn)), (b_o, (oc12 0 u_sa b_rf b_ro b_im b_ke u_fd b_tp u_td u_fr u_to u_so u_wo u_fa u_bd u_nc b_nl u_co b_op b_ar u_le b_pi b_pa u_pd u_od b_ws b_hw u_la b_se b_re u_bk u_va u_su u_ce u_ho u_wy u_bt u_ps b_pt u_tg u_sn b_ip u_ic b_ah b_be b_me u_wd b_tr b_ld (((k56_st * 1103) + 12345) - ((k56_st * 1103) + 12345) / 1000003 * 1000003) b_wn u_id)), (b_ro, (arI G 5740 v_ro))] hP hD ?_
                          clear hP hD
                          intro hP hD
                          refine lv_if_ne (tgt := 146) hx hb dX12_wander_138 (by decide +kernel) (fun c_83 => ?_) (fun c_83 => ?_)
                          ·
                            exact absurd c_83 (by decide +kernel)
                          ·
                            refine lv_iload hx hb dX12_wander_141 (lv_at hl 0 rfl) ?_
                            refine lv_goto (tgt := 147) hx hb dX12_wander_143 (by decide +kernel) ?_
                            refine lv_istore_n (lv' := [(3, .int z74), (6, .int z74), (5, .int y70), (4, .int k56_4), (0, .ref b_o), (1, .int p_1), (2, .int p_2)]) hx hb dX12_wander_147 rfl hl (by decide +kernel) rfl ?_
                            clear hl
                            intro ls hl
                            refine lv_aload_n hx hb dX12_wander_148 rfl (lv_at hl 4 rfl) ?_
                            refine W.eq (g2 := F0 m 149 ls [.ref b_o]) rfl ?_
                            refine va_get (D := G.1) (ci := 12) (v := .ref b_wn) (C := RX12) (T := TX12) (N := 52) hx hb hts inG_X12 hown hK hP 6 rfl rfl 50 (by decide +kernel) (hts _ fl_X12_104) (fun _ h9 => h9) rfl dX12_wander_149 ?_
                            refine lv_iload hx hb dX12_wander_152 (lv_at hl 3 rfl) ?_
                            refine lv_iload_n hx hb dX12_wander_154 rfl (lv_at hl 0 rfl) ?_
                            refine va_iast hx hb hK hP hD hS 5 0 rfl rfl (i := k56_4) (x := z74) (vp_in_iff.mpr ⟨by omega, by omega⟩) dX12_wander_155 ?_
                            clear hP hD hS
                            intro H locs hP hD hS
                            refine g5_rs [(b_rf, (arI G 7 v_rf)), (b_se, (arJ G 13 v_se)), (b_re, (arJ G 400 v_re)), (b_pt, (arI G 200 v_pt)), (b_ip, (arZ G 1536 v_ip)), (b_wn, (arI G 24 (upd k56_wn k56_4.toNatClampNeg z74))), (b_o, (oc12 0 u_sa b_rf b_ro b_im b_ke u_fd b_tp u_td u_fr u_to u_so u_wo u_fa u_bd u_nc b_nl u_co b_op b_ar u_le b_pi b_pa u_pd u_od b_ws b_hw u_la b_se b_re u_bk u_va u_su u_ce u_ho u_wy u_bt u_ps b_pt u_tg u_sn b_ip u_ic b_ah b_be b_me u_wd b_tr b_ld (((k56_st * 1103) + 12345) - ((k56_st * 1103) + 12345) / 1000003 * 1000003) b_wn u_id)), (b_ro, (arI G 5740 v_ro))] hP hD ?_
                            clear hP hD
                            intro hP hD
                            refine lv_iinc (v := (k56_4 + 1)) (lv' := [(4, .int (k56_4 + 1)), (3, .int z74), (6, .int z74), (5, .int y70), (0, .ref b_o), (1, .int p_1), (2, .int p_2)]) hx hb dX12_wander_156 hl (k := 3) rfl rfl (by decide +kernel) rfl ?_
                            clear hl
                            intro ls hl
                            have t_84 : (k56_4 + 1).toInt = k56_4.toInt + 1 := g5_iadd (a := k56_4.toInt) (b := 1) rfl (by decide +kernel) (by omega) (by omega)
                            refine W.eq (g2 := F0 m 159 ls []) rfl ?_
                            refine lv_goto (tgt := 56) hx hb dX12_wander_159 (by decide +kernel) ?_
                            exact ih_56_26 ((k56_4 + 1), z74, (((k56_st * 1103) + 12345) - ((k56_st * 1103) + 12345) / 1000003 * 1000003), (upd k56_wn k56_4.toNatClampNeg z74)) ls H locs (show Int.toNat (24 - (k56_4 + 1).toInt) < Int.toNat (24 - k56_4.toInt) from g_up (show k56_4.toInt < (k56_4 + 1).toInt by omega) (show k56_4.toInt < 24 by omega)) ⟨lv_sub hl [1, 0, 4, 5, 6] rfl, hP, hD, hS, ⟨by omega, by omega⟩, ⟨by omega, by omega⟩, wn_upd i_22 (by omega), by rw [show (k56_4 + 1).toInt.toNat - 1 = (k56_4.toInt.toNat - 1) + 1 by omega, wdS_S, ← i_23]; rfl, by rw [show (k56_4 + 1).toInt.toNat - 1 = (k56_4.toInt.toNat - 1) + 1 by omega]; exact (by rw [wdC_S hk_70, ← i_24, ws_y (by rw [← i_72]; omega) (by rw [← i_72]; exact i_80), ← i_72]), by rw [show (k56_4 + 1).toInt.toNat = k56_4.toInt.toNat + 1 by omega]; exact wdR_S i_25 rfl (by rw [show k56_4.toInt.toNat = (k56_4.toInt.toNat - 1) + 1 by omega]; exact (by rw [wdC_S hk_70, ← i_24, ws_y (by rw [← i_72]; omega) (by rw [← i_72]; exact i_80), ← i_72]))⟩
                      ·
                        have i_78 : z74.toInt < 0 := g5_geN (a := z74.toInt) (b := 0) rfl (by decide +kernel) c_78
                        omega
                  ·
                    have i_71 : y70.toInt = 4 := g5_neN (a := y70.toInt) (b := 4) rfl (by decide +kernel) c_71
                    refine lv_iload_n hx hb dX12_wander_105 rfl (lv_at hl 1 rfl) ?_
                    refine lv_goto (tgt := 115) hx hb dX12_wander_106 (by decide +kernel) ?_
                    refine lv_istore (lv' := [(6, .int k56_3), (5, .int y70), (3, .int k56_3), (4, .int k56_4), (0, .ref b_o), (1, .int p_1), (2, .int p_2)]) hx hb dX12_wander_115 hl (by decide +kernel) rfl ?_
                    clear hl
                    intro ls hl
                    refine lv_iload hx hb dX12_wander_117 (lv_at hl 0 rfl) ?_
                    refine W.eq (g2 := F0 m 119 ls [.int k56_3]) rfl ?_
                    refine lv_iconst (v := (-1)) hx hb dX12_wander_119 (by decide +kernel) ?_
                    refine lv_icmp_eq (tgt := 146) hx hb dX12_wander_120 (by decide +kernel) (fun c_85 => ?_) (fun c_85 => ?_)
                    ·
                      have i_85 : k56_3.toInt = (-1) := g5_eq (a := k56_3.toInt) (b := (-1)) rfl (by decide +kernel) c_85
                      omega
                    ·
                      have n_85 : gNe (k56_3.toInt) ((-1)) := g5_eqN (a := k56_3.toInt) (b := (-1)) rfl (by decide +kernel) c_85
                      refine lv_aload_n hx hb dX12_wander_123 rfl (lv_at hl 4 rfl) ?_
                      refine lv_iload hx hb dX12_wander_124 (lv_at hl 0 rfl) ?_
                      refine lv_if_ge (tgt := 133) hx hb dX12_wander_126 (by decide +kernel) (fun c_86 => ?_) (fun c_86 => ?_)
                      ·
                        have i_86 : k56_3.toInt ≥ 0 := g5_ge (a := k56_3.toInt) (b := 0) rfl (by decide +kernel) c_86
                        refine lv_iload hx hb dX12_wander_133 (lv_at hl 0 rfl) ?_
                        obtain ⟨hPc, hDc, hFc⟩ := g5_sub3 (wc := [(b_o, (oc12 0 u_sa b_rf b_ro b_im b_ke u_fd b_tp u_td u_fr u_to u_so u_wo u_fa u_bd u_nc b_nl u_co b_op b_ar u_le b_pi b_pa u_pd u_od b_ws b_hw u_la b_se b_re u_bk u_va u_su u_ce u_ho u_wy u_bt u_ps b_pt u_tg u_sn b_ip u_ic b_ah b_be b_me u_wd b_tr b_ld (((k56_st * 1103) + 12345) - ((k56_st * 1103) + 12345) / 1000003 * 1000003) b_wn u_id)), (b_ro, (arI G 5740 v_ro))]) hP hD hS hA [6, 7] (by decide +kernel) rfl
                        refine va_calli (va_runV (As := [.int k56_3]) (rest := []) ⟨hx, hb, hml, hown, hts⟩ (n_isWallE l G b_o b_ro b_rf b_im b_ke b_tp b_nl b_op b_ar b_pi b_pa b_ws b_hw b_se b_re b_pt b_ip b_ah b_be b_me b_tr b_ld b_wn H.size 0 u_sa u_fd u_td u_fr u_to u_so u_fa u_bd u_nc u_co u_le u_pd u_od u_la u_bk u_ce u_ho u_wy u_bt u_ps u_tg u_sn u_ic u_wd u_id k56_3 u_wo u_va u_su (((k56_st * 1103) + 12345) - ((k56_st * 1103) + 12345) / 1000003 * 1000003) v_ro h_u_td h_u_fr h_u_to h_u_bd h_u_nc h_u_co h_u_pd h_u_la h_u_bk h_u_ce h_u_ho h_u_wy h_u_bt h_u_ps h_u_ic h_u_id i_21 (r_ro)) (cwV 1 hts gV_X12_160 rfl rfl rfl hv_X12_isWall ⟨Nat.le_of_ble_eq_true rfl, Nat.le_of_ble_eq_true rfl⟩) (g5_preV hPc hK hDc hN hT hS hFc (ci := 12) (q0 := 0) rfl rfl) rfl rfl hl.1 rfl (lv_room (Nat.le_of_ble_eq_true rfl)) dX12_wander_135 ⟨Nat.le_of_ble_eq_true rfl, Nat.le_of_ble_eq_true rfl⟩) hS (fun q _ h => hFc q h) hFc (fun r u t H locs ht hvm hw hB hz1 hk1 hS => ?_)
                        obtain ⟨hP1, hD1⟩ := hB
                        have hP1 := g5_ht ht hP1
                        rcases hw with ⟨(i_87 : wallAt v_ro k56_3.toInt), rfl, rfl⟩ | ⟨(i_88 : ¬ wallAt v_ro k56_3.toInt), rfl, rfl⟩
                        ·
                          have hJ9 := va_join (wr := [(b_rf, (arI G 7 v_rf)), (b_se, (arJ G 13 v_se)), (b_re, (arJ G 400 v_re)), (b_pt, (arI G 200 v_pt)), (b_ip, (arZ G 1536 v_ip)), (b_wn, (arI G 24 k56_wn))]) hP hD [6, 7] [0, 1, 2, 3, 4, 5] rfl rfl (by decide +kernel) (by decide +kernel) hk1 hFc hP1 hD1
                          clear hP hD hPc hDc hFc ht hvm hz1 hk1 hP1 hD1
                          obtain ⟨hP, hD⟩ := hJ9
                          refine g5_rs [(b_rf, (arI G 7 v_rf)), (b_se, (arJ G 13 v_se)), (b_re, (arJ G 400 v_re)), (b_pt, (arI G 200 v_pt)), (b_ip, (arZ G 1536 v_ip)), (b_wn, (arI G 24 k56_wn)), (b_o, (oc12 0 u_sa b_rf b_ro b_im b_ke u_fd b_tp u_td u_fr u_to u_so u_wo u_fa u_bd u_nc b_nl u_co b_op b_ar u_le b_pi b_pa u_pd u_od b_ws b_hw u_la b_se b_re u_bk u_va u_su u_ce u_ho u_wy u_bt u_ps b_pt u_tg u_sn b_ip u_ic b_ah b_be b_me u_wd b_tr b_ld (((k56_st * 1103) + 12345) - ((k56_st * 1103) + 12345) / 1000003 * 1000003) b_wn u_id)), (b_ro, (arI G 5740 v_ro))] hP hD ?_
                          clear hP hD
                          intro hP hD
                          refine lv_if_ne (tgt := 146) hx hb dX12_wander_138 (by decide +kernel) (fun c_89 => ?_) (fun c_89 => ?_)
                          ·
                            refine lv_iload_n hx hb dX12_wander_146 rfl (lv_at hl 2 rfl) ?_
                            refine lv_istore_n (lv' := [(3, .int k56_3), (6, .int k56_3), (5, .int y70), (4, .int k56_4), (0, .ref b_o), (1, .int p_1), (2, .int p_2)]) hx hb dX12_wander_147 rfl hl (by decide +kernel) rfl ?_
                            clear hl
                            intro ls hl
                            refine lv_aload_n hx hb dX12_wander_148 rfl (lv_at hl 4 rfl) ?_
                            refine va_get (D := G.1) (ci := 12) (v := .ref b_wn) (C := RX12) (T := TX12) (N := 52) hx hb hts inG_X12 hown hK hP 6 rfl rfl 50 (by decide +kernel) (hts _ fl_X12_104) (fun _ h9 => h9) rfl dX12_wander_149 ?_
                            refine W.eq (g2 := F0 m 152 ls [.ref b_wn]) rfl ?_
                            refine lv_iload hx hb dX12_wander_152 (lv_at hl 3 rfl) ?_
                            refine lv_iload_n hx hb dX12_wander_154 rfl (lv_at hl 0 rfl) ?_
                            refine va_iast hx hb hK hP hD hS 5 0 rfl rfl (i := k56_4) (x := k56_3) (vp_in_iff.mpr ⟨by omega, by omega⟩) dX12_wander_155 ?_
                            clear hP hD hS
                            intro H locs hP hD hS
                            refine g5_rs [(b_rf, (arI G 7 v_rf)), (b_se, (arJ G 13 v_se)), (b_re, (arJ G 400 v_re)), (b_pt, (arI G 200 v_pt)), (b_ip, (arZ G 1536 v_ip)), (b_wn, (arI G 24 (upd k56_wn k56_4.toNatClampNeg k56_3))), (b_o, (oc12 0 u_sa b_rf b_ro b_im b_ke u_fd b_tp u_td u_fr u_to u_so u_wo u_fa u_bd u_nc b_nl u_co b_op b_ar u_le b_pi b_pa u_pd u_od b_ws b_hw u_la b_se b_re u_bk u_va u_su u_ce u_ho u_wy u_bt u_ps b_pt u_tg u_sn b_ip u_ic b_ah b_be b_me u_wd b_tr b_ld (((k56_st * 1103) + 12345) - ((k56_st * 1103) + 12345) / 1000003 * 1000003) b_wn u_id)), (b_ro, (arI G 5740 v_ro))] hP hD ?_
                            clear hP hD
                            intro hP hD
                            refine lv_iinc (v := (k56_4 + 1)) (lv' := [(4, .int (k56_4 + 1)), (3, .int k56_3), (6, .int k56_3), (5, .int y70), (0, .ref b_o), (1, .int p_1), (2, .int p_2)]) hx hb dX12_wander_156 hl (k := 3) rfl rfl (by decide +kernel) rfl ?_
                            clear hl
                            intro ls hl
                            have t_90 : (k56_4 + 1).toInt = k56_4.toInt + 1 := g5_iadd (a := k56_4.toInt) (b := 1) rfl (by decide +kernel) (by omega) (by omega)
                            refine lv_goto (tgt := 56) hx hb dX12_wander_159 (by decide +kernel) ?_
                            exact ih_56_26 ((k56_4 + 1), k56_3, (((k56_st * 1103) + 12345) - ((k56_st * 1103) + 12345) / 1000003 * 1000003), (upd k56_wn k56_4.toNatClampNeg k56_3)) ls H locs (show Int.toNat (24 - (k56_4 + 1).toInt) < Int.toNat (24 - k56_4.toInt) from g_up (show k56_4.toInt < (k56_4 + 1).toInt by omega) (show k56_4.toInt < 24 by omega)) ⟨lv_sub hl [1, 0, 4, 5, 6] rfl, hP, hD, hS, ⟨by omega, by omega⟩, i_21, wn_upd i_22 (by omega), by rw [show (k56_4 + 1).toInt.toNat - 1 = (k56_4.toInt.toNat - 1) + 1 by omega, wdS_S, ← i_23]; rfl, by rw [show (k56_4 + 1).toInt.toNat - 1 = (k56_4.toInt.toNat - 1) + 1 by omega]; exact (by rw [wdC_S hk_70, ← i_24, ws_4 (bs_4 (by omega))]), by rw [show (k56_4 + 1).toInt.toNat = k56_4.toInt.toNat + 1 by omega]; exact wdR_S i_25 rfl (by rw [show k56_4.toInt.toNat = (k56_4.toInt.toNat - 1) + 1 by omega]; exact (by rw [wdC_S hk_70, ← i_24, ws_4 (bs_4 (by omega))]))⟩
                          ·
                            exact absurd c_89 (by decide +kernel)
                        ·
                          have hJ9 := va_join (wr := [(b_rf, (arI G 7 v_rf)), (b_se, (arJ G 13 v_se)), (b_re, (arJ G 400 v_re)), (b_pt, (arI G 200 v_pt)), (b_ip, (arZ G 1536 v_ip)), (b_wn, (arI G 24 k56_wn))]) hP hD [6, 7] [0, 1, 2, 3, 4, 5] rfl rfl (by decide +kernel) (by decide +kernel) hk1 hFc hP1 hD1
                          clear hP hD hPc hDc hFc ht hvm hz1 hk1 hP1 hD1
                          obtain ⟨hP, hD⟩ := hJ9
                          refine g5_rs [(b_rf, (arI G 7 v_rf)), (b_se, (arJ G 13 v_se)), (b_re, (arJ G 400 v_re)), (b_pt, (arI G 200 v_pt)), (b_ip, (arZ G 1536 v_ip)), (b_wn, (arI G 24 k56_wn)), (b_o, (oc12 0 u_sa b_rf b_ro b_im b_ke u_fd b_tp u_td u_fr u_to u_so u_wo u_fa u_bd u_nc b_nl u_co b_op b_ar u_le b_pi b_pa u_pd u_od b_ws b_hw u_la b_se b_re u_bk u_va u_su u_ce u_ho u_wy u_bt u_ps b_pt u_tg u_sn b_ip u_ic b_ah b_be b_me u_wd b_tr b_ld (((k56_st * 1103) + 12345) - ((k56_st * 1103) + 12345) / 1000003 * 1000003) b_wn u_id)), (b_ro, (arI G 5740 v_ro))] hP hD ?_
                          clear hP hD
                          intro hP hD
                          refine lv_if_ne (tgt := 146) hx hb dX12_wander_138 (by decide +kernel) (fun c_91 => ?_) (fun c_91 => ?_)
                          ·
                            exact absurd c_91 (by decide +kernel)
                          ·
                            refine lv_iload hx hb dX12_wander_141 (lv_at hl 0 rfl) ?_
                            refine lv_goto (tgt := 147) hx hb dX12_wander_143 (by decide +kernel) ?_
                            refine lv_istore_n (lv' := [(3, .int k56_3), (6, .int k56_3), (5, .int y70), (4, .int k56_4), (0, .ref b_o), (1, .int p_1), (2, .int p_2)]) hx hb dX12_wander_147 rfl hl (by decide +kernel) rfl ?_
                            clear hl
                            intro ls hl
                            refine lv_aload_n hx hb dX12_wander_148 rfl (lv_at hl 4 rfl) ?_
                            refine W.eq (g2 := F0 m 149 ls [.ref b_o]) rfl ?_
                            refine va_get (D := G.1) (ci := 12) (v := .ref b_wn) (C := RX12) (T := TX12) (N := 52) hx hb hts inG_X12 hown hK hP 6 rfl rfl 50 (by decide +kernel) (hts _ fl_X12_104) (fun _ h9 => h9) rfl dX12_wander_149 ?_
                            refine lv_iload hx hb dX12_wander_152 (lv_at hl 3 rfl) ?_
                            refine lv_iload_n hx hb dX12_wander_154 rfl (lv_at hl 0 rfl) ?_
                            refine va_iast hx hb hK hP hD hS 5 0 rfl rfl (i := k56_4) (x := k56_3) (vp_in_iff.mpr ⟨by omega, by omega⟩) dX12_wander_155 ?_
                            clear hP hD hS
                            intro H locs hP hD hS
                            refine g5_rs [(b_rf, (arI G 7 v_rf)), (b_se, (arJ G 13 v_se)), (b_re, (arJ G 400 v_re)), (b_pt, (arI G 200 v_pt)), (b_ip, (arZ G 1536 v_ip)), (b_wn, (arI G 24 (upd k56_wn k56_4.toNatClampNeg k56_3))), (b_o, (oc12 0 u_sa b_rf b_ro b_im b_ke u_fd b_tp u_td u_fr u_to u_so u_wo u_fa u_bd u_nc b_nl u_co b_op b_ar u_le b_pi b_pa u_pd u_od b_ws b_hw u_la b_se b_re u_bk u_va u_su u_ce u_ho u_wy u_bt u_ps b_pt u_tg u_sn b_ip u_ic b_ah b_be b_me u_wd b_tr b_ld (((k56_st * 1103) + 12345) - ((k56_st * 1103) + 12345) / 1000003 * 1000003) b_wn u_id)), (b_ro, (arI G 5740 v_ro))] hP hD ?_
                            clear hP hD
                            intro hP hD
                            refine lv_iinc (v := (k56_4 + 1)) (lv' := [(4, .int (k56_4 + 1)), (3, .int k56_3), (6, .int k56_3), (5, .int y70), (0, .ref b_o), (1, .int p_1), (2, .int p_2)]) hx hb dX12_wander_156 hl (k := 3) rfl rfl (by decide +kernel) rfl ?_
                            clear hl
                            intro ls hl
                            have t_92 : (k56_4 + 1).toInt = k56_4.toInt + 1 := g5_iadd (a := k56_4.toInt) (b := 1) rfl (by decide +kernel) (by omega) (by omega)
                            refine W.eq (g2 := F0 m 159 ls []) rfl ?_
                            refine lv_goto (tgt := 56) hx hb dX12_wander_159 (by decide +kernel) ?_
                            exact ih_56_26 ((k56_4 + 1), k56_3, (((k56_st * 1103) + 12345) - ((k56_st * 1103) + 12345) / 1000003 * 1000003), (upd k56_wn k56_4.toNatClampNeg k56_3)) ls H locs (show Int.toNat (24 - (k56_4 + 1).toInt) < Int.toNat (24 - k56_4.toInt) from g_up (show k56_4.toInt < (k56_4 + 1).toInt by omega) (show k56_4.toInt < 24 by omega)) ⟨lv_sub hl [1, 0, 4, 5, 6] rfl, hP, hD, hS, ⟨by omega, by omega⟩, i_21, wn_upd i_22 (by omega), by rw [show (k56_4 + 1).toInt.toNat - 1 = (k56_4.toInt.toNat - 1) + 1 by omega, wdS_S, ← i_23]; rfl, by rw [show (k56_4 + 1).toInt.toNat - 1 = (k56_4.toInt.toNat - 1) + 1 by omega]; exact (by rw [wdC_S hk_70, ← i_24, ws_4 (bs_4 (by omega))]), by rw [show (k56_4 + 1).toInt.toNat = k56_4.toInt.toNat + 1 by omega]; exact wdR_S i_25 rfl (by rw [show k56_4.toInt.toNat = (k56_4.toInt.toNat - 1) + 1 by omega]; exact (by rw [wdC_S hk_70, ← i_24, ws_4 (bs_4 (by omega))]))⟩
                      ·
                        have i_86 : k56_3.toInt < 0 := g5_geN (a := k56_3.toInt) (b := 0) rfl (by decide +kernel) c_86
                        omega
            ·
              exact absurd c_19 (by decide +kernel)
        ·
          exact absurd c_11 (by decide +kernel)
      ·
        have hJ9 := g5_same hP hk1
        clear hP hPc hDc hFc ht hvm hz1 hk1 hP1 hD1
        have hP := hJ9
        clear hJ9
        refine lv_if_ne (tgt := 30) hx hb dX12_wander_21 (by decide +kernel) (fun c_93 => ?_) (fun c_93 => ?_)
        ·
          exact absurd c_93 (by decide +kernel)
        ·
          refine lv_aload_n hx hb dX12_wander_24 rfl (lv_at hl 0 rfl) ?_
          refine lv_iconst (v := (-1)) hx hb dX12_wander_25 (by decide +kernel) ?_
          obtain ⟨hPc, hDc, hFc⟩ := g5_sub3 (wc := [(b_o, (oc12 0 u_sa b_rf b_ro b_im b_ke u_fd b_tp u_td u_fr u_to u_so u_wo u_fa u_bd u_nc b_nl u_co b_op b_ar u_le b_pi b_pa u_pd u_od b_ws b_hw u_la b_se b_re u_bk u_va u_su u_ce u_ho u_wy u_bt u_ps b_pt u_tg u_sn b_ip u_ic b_ah b_be b_me u_wd b_tr b_ld u_st b_wn u_id)), (b_rf, (arI G 7 v_rf))]) hP hD hS hA [0, 1] (by decide +kernel) rfl
          refine va_calli (va_runV (As := [.int (-1)]) (rest := []) ⟨hx, hb, hml, hown, hts⟩ (n_tell1 l G b_o b_rf b_ro b_im b_ke b_tp b_nl b_op b_ar b_pi b_pa b_ws b_hw b_se b_re b_pt b_ip b_ah b_be b_me b_tr b_ld b_wn H.size 0 u_sa u_fd u_td u_fr u_to u_so u_fa u_bd u_nc u_co u_le u_pd u_od u_la u_bk u_ce u_ho u_wy u_bt u_ps u_tg u_sn u_ic u_wd u_id u_wo u_va u_su u_st v_rf h_u_td h_u_fr h_u_to h_u_bd h_u_nc h_u_co h_u_pd h_u_la h_u_bk h_u_ce h_u_ho h_u_wy h_u_bt h_u_ps h_u_ic h_u_id) (cwV 1 hts gV_X12_125 rfl rfl rfl hv_X12_tell ⟨Nat.le_of_ble_eq_true rfl, Nat.le_of_ble_eq_true rfl⟩) (g5_preV hPc hK hDc hN hT hS hFc (ci := 12) (q0 := 0) rfl rfl) rfl rfl hl.1 rfl (lv_room (Nat.le_of_ble_eq_true rfl)) dX12_wander_26 ⟨Nat.le_of_ble_eq_true rfl, Nat.le_of_ble_eq_true rfl⟩) hS (fun q _ h => hFc q h) hFc (fun r u t H locs ht hvm hw hB hz1 hk1 hS => ?_)
          obtain ⟨hP1, hD1⟩ := hB
          have hP1 := g5_ht ht hP1
          obtain ⟨z95, z96, z97, (i_94 : 0 ≤ z96.toInt ∧ z96.toInt ≤ 1), rfl, rfl⟩ := hw
          have hJ9 := va_join (wr := [(b_ro, (arI G 5740 v_ro)), (b_se, (arJ G 13 v_se)), (b_re, (arJ G 400 v_re)), (b_pt, (arI G 200 v_pt)), (b_ip, (arZ G 1536 v_ip)), (b_wn, (arI G 24 v_wn))]) hP hD [0, 1] [2, 3, 4, 5, 6, 7] rfl rfl (by decide +kernel) (by decide +kernel) hk1 hFc hP1 hD1
          clear hP hD hPc hDc hFc ht hvm hz1 hk1 hP1 hD1
          obtain ⟨hP, hD⟩ := hJ9
          refine g5_rs [(b_ro, (arI G 5740 v_ro)), (b_se, (arJ G 13 v_se)), (b_re, (arJ G 400 v_re)), (b_pt, (arI G 200 v_pt)), (b_ip, (arZ G 1536 v_ip)), (b_wn, (arI G 24 v_wn)), (b_o, (oc12 0 z95 b_rf b_ro b_im b_ke u_fd b_tp u_td u_fr u_to u_so u_wo u_fa u_bd u_nc b_nl u_co b_op b_ar u_le b_pi b_pa u_pd u_od b_ws b_hw u_la b_se b_re u_bk u_va u_su u_ce u_ho u_wy u_bt u_ps b_pt u_tg u_sn b_ip z96 b_ah b_be b_me u_wd b_tr b_ld u_st b_wn u_id)), (b_rf, (arI G 7 z97))] hP hD ?_
          clear hP hD
          intro hP hD
          exact W.iret (v := (-1)) hx hb hr (fun t ht hW => ⟨⟨(-1), [(b_o, (oc12 0 z95 b_rf b_ro b_im b_ke u_fd b_tp u_td u_fr u_to u_so u_wo u_fa u_bd u_nc b_nl u_co b_op b_ar u_le b_pi b_pa u_pd u_od b_ws b_hw u_la b_se b_re u_bk u_va u_su u_ce u_ho u_wy u_bt u_ps b_pt u_tg u_sn b_ip z96 b_ah b_be b_me u_wd b_tr b_ld u_st b_wn u_id)), (b_rf, (arI G 7 z97)), (b_ro, (arI G 5740 v_ro)), (b_se, (arJ G 13 v_se)), (b_re, (arJ G 400 v_re)), (b_pt, (arI G 200 v_pt)), (b_ip, (arZ G 1536 v_ip)), (b_wn, (arI G 24 v_wn))], rfl, ⟨(-1), 0, z95, u_la, u_bk, u_va, u_su, u_ce, u_ho, u_wy, u_bt, u_ps, u_tg, u_sn, z96, u_st, u_id, z97, v_se, v_re, v_pt, v_ip, v_wn, h_u_la, h_u_bk, h_u_ce, h_u_ho, h_u_wy, h_u_bt, h_u_ps, r_pt, i_94, r_wn, h_u_id, (wand_1 (f := v_ro) (g := v_wn) (n := u_id) (s := p_1) (c := p_2) (fun q => by unfold okD at q; omega)).1.symm, (wand_1 (f := v_ro) (g := v_wn) (n := u_id) (s := p_1) (c := p_2) (fun q => by unfold okD at q; omega)).2.symm, rfl, rfl⟩, by rw [ht]; exact hP.sub [6, 7, 0, 1, 2, 3, 4, 5] rfl, hD.sub [6, 7, 0, 1, 2, 3, 4, 5] (by decide +kernel) rfl⟩, hS.F ht⟩) hS.2.2 dX12_wander_29
set_option maxHeartbeats 4000000 in
set_option maxRecDepth 100000 in
theorem n_drawnE (l : Launch) (G : g5_G) (b_o b_wn b_rf b_ro b_im b_ke b_tp b_nl b_op b_ar b_pi b_pa b_ws b_hw b_se b_re b_pt b_ip b_ah b_be b_me b_tr b_ld : Nat) (sz : Nat) (u_th : Int32) (u_sa : Int32) (u_fd : Int32) (u_td : Int32) (u_fr : Int32) (u_to : Int32) (u_so : Int32) (u_fa : Int32) (u_bd : Int32) (u_nc : Int32) (u_co : Int32) (u_le : Int32) (u_pd : Int32) (u_od : Int32) (u_la : Int32) (u_bk : Int32) (u_ce : Int32) (u_ho : Int32) (u_wy : Int32) (u_bt : Int32) (u_ps : Int32) (u_tg : Int32) (u_sn : Int32) (u_ic : Int32) (u_wd : Int32) (u_id : Int32) (p_1 : Int32) (u_wo : Int64) (u_va : Int64) (u_su : Int64) (u_st : Int64) (v_wn : Nat → Int32) (h_u_td : 0 ≤ u_td.toInt ∧ u_td.toInt ≤ 400) (h_u_fr : 0 ≤ u_fr.toInt ∧ u_fr.toInt ≤ 400) (h_u_to : 0 ≤ u_to.toInt ∧ u_to.toInt ≤ 400) (h_u_bd : 0 ≤ u_bd.toInt ∧ u_bd.toInt ≤ 1) (h_u_nc : 0 ≤ u_nc.toInt ∧ u_nc.toInt ≤ 12) (h_u_co : 0 ≤ u_co.toInt ∧ u_co.toInt ≤ 400) (h_u_pd : 0 ≤ u_pd.toInt ∧ u_pd.toInt ≤ 400) (h_u_la : 0 ≤ u_la.toInt ∧ u_la.toInt ≤ 4840) (h_u_bk : 0 ≤ u_bk.toInt ∧ u_bk.toInt ≤ 1) (h_u_ce : 0 ≤ u_ce.toInt ∧ u_ce.toInt ≤ 63) (h_u_ho : 0 ≤ u_ho.toInt ∧ u_ho.toInt ≤ 23) (h_u_wy : 0 ≤ u_wy.toInt ∧ u_wy.toInt ≤ 3) (h_u_bt : 0 ≤ u_bt.toInt ∧ u_bt.toInt ≤ 1000000) (h_u_ps : 0 ≤ u_ps.toInt ∧ u_ps.toInt ≤ 200) (h_u_ic : 0 ≤ u_ic.toInt ∧ u_ic.toInt ≤ 1) (h_u_id : 0 ≤ u_id.toInt ∧ u_id.toInt ≤ 1) (r_wn : WNI v_wn) : Met l yX12_drawn (wsG yX12_drawn cX12_drawn 2 (some .int)) ({ frames := 2, cells := 0, slots := 0, locals := 45 }) (va_Pc [.ref b_o, .int p_1] (g5_P G [(b_o, (oc12 u_th u_sa b_rf b_ro b_im b_ke u_fd b_tp u_td u_fr u_to u_so u_wo u_fa u_bd u_nc b_nl u_co b_op b_ar u_le b_pi b_pa u_pd u_od b_ws b_hw u_la b_se b_re u_bk u_va u_su u_ce u_ho u_wy u_bt u_ps b_pt u_tg u_sn b_ip u_ic b_ah b_be b_me u_wd b_tr b_ld u_st b_wn u_id)), (b_wn, (arI G 24 v_wn))] sz)) (va_Qi (fun (r : Int32) (u : va_W) => (∃ (o_r : Int32) (o_th : Int32), (o_r = adrawn v_wn u_id p_1) ∧ (r = o_r) ∧ (u = [(b_o, (oc12 o_th u_sa b_rf b_ro b_im b_ke u_fd b_tp u_td u_fr u_to u_so u_wo u_fa u_bd u_nc b_nl u_co b_op b_ar u_le b_pi b_pa u_pd u_od b_ws b_hw u_la b_se b_re u_bk u_va u_su u_ce u_ho u_wy u_bt u_ps b_pt u_tg u_sn b_ip u_ic b_ah b_be b_me u_wd b_tr b_ld u_st b_wn u_id)), (b_wn, (arI G 24 v_wn))]))) (g5_B G (va_A [(b_o, (oc12 u_th u_sa b_rf b_ro b_im b_ke u_fd b_tp u_td u_fr u_to u_so u_wo u_fa u_bd u_nc b_nl u_co b_op b_ar u_le b_pi b_pa u_pd u_od b_ws b_hw u_la b_se b_re u_bk u_va u_su u_ce u_ho u_wy u_bt u_ps b_pt u_tg u_sn b_ip u_ic b_ah b_be b_me u_wd b_tr b_ld u_st b_wn u_id)), (b_wn, (arI G 24 v_wn))] sz)) (va_A [(b_o, (oc12 u_th u_sa b_rf b_ro b_im b_ke u_fd b_tp u_td u_fr u_to u_so u_wo u_fa u_bd u_nc b_nl u_co b_op b_ar u_le b_pi b_pa u_pd u_od b_ws b_hw u_la b_se b_re u_bk u_va u_su u_ce u_ho u_wy u_bt u_ps b_pt u_tg u_sn b_ip u_ic b_ah b_be b_me u_wd b_tr b_ld u_st b_wn u_id)), (b_wn, (arI G 24 v_wn))] sz)) 0 0 (va_A [(b_o, (oc12 u_th u_sa b_rf b_ro b_im b_ke u_fd b_tp u_td u_fr u_to u_so u_wo u_fa u_bd u_nc b_nl u_co b_op b_ar u_le b_pi b_pa u_pd u_od b_ws b_hw u_la b_se b_re u_bk u_va u_su u_ce u_ho u_wy u_bt u_ps b_pt u_tg u_sn b_ip u_ic b_ah b_be b_me u_wd b_tr b_ld u_st b_wn u_id)), (b_wn, (arI G 24 v_wn))] sz) := by
  refine Met.ofW (cc := cX12_drawn) (maxL := 2) (ret := (some .int)) (by decide +kernel) rfl ?_
  intro p e s m args below meth c s₁ B hml hv
  obtain ⟨rfl, hsz, hP, hK, hD0, hN, hT⟩ := hv
  have hx := B.exec
  have hb := B.bytes
  have hr := B.returns
  have hts : ∀ w ∈ tblG, w.before _ s = true := fun w h => atoms_spec (ws := (wsG yX12_drawn cX12_drawn 2 (some .int))) B.pre w (List.mem_cons_of_mem _ h)
  have hown : s.vm.findClass RX12 = some m.cls := findClass_of_methodNamed B.named
  have hlocks := B.notSynchronized
  subst hsz
  have hD := hD0.self (sz := s.heap.size)
  generalize hAe : va_A [(b_o, (oc12 u_th u_sa b_rf b_ro b_im b_ke u_fd b_tp u_td u_fr u_to u_so u_wo u_fa u_bd u_nc b_nl u_co b_op b_ar u_le b_pi b_pa u_pd u_od b_ws b_hw u_la b_se b_re u_bk u_va u_su u_ce u_ho u_wy u_bt u_ps b_pt u_tg u_sn b_ip u_ic b_ah b_be b_me u_wd b_tr b_ld u_st b_wn u_id)), (b_wn, (arI G 24 v_wn))] s.heap.size = A at hD hT ⊢
  have hA : ∀ q : Nat, s.heap.size ≤ q → A q := fun q h => by rw [← hAe]; exact Or.inr h
  have hS : va_S A s.heap s.heap [] := va_S.rf
  replace hP : va_P G.1 vwCl [(b_o, (oc12 u_th u_sa b_rf b_ro b_im b_ke u_fd b_tp u_td u_fr u_to u_so u_wo u_fa u_bd u_nc b_nl u_co b_op b_ar u_le b_pi b_pa u_pd u_od b_ws b_hw u_la b_se b_re u_bk u_va u_su u_ce u_ho u_wy u_bt u_ps b_pt u_tg u_sn b_ip u_ic b_ah b_be b_me u_wd b_tr b_ld u_st b_wn u_id)), (b_wn, (arI G 24 v_wn))] s.heap := hP
  have hl := lv_entry ([.ref b_o, .int p_1]) (n := 2) (Nat.le_of_ble_eq_true rfl)
  rw [lg_entry_eq]
  generalize (lg_sl ([.ref b_o, .int p_1]) ++ List.replicate (2 - (lg_sl ([.ref b_o, .int p_1])).length) Slot.unset).toArray = ls at hl ⊢
  replace hl : lv_has ls 2 [(0, .ref b_o), (1, .int p_1)] := hl
  refine lv_aload_n hx hb dX12_drawn_0 rfl (lv_at hl 0 rfl) ?_
  refine lv_iconst (v := 0) hx hb dX12_drawn_1 (by decide +kernel) ?_
  refine va_put (D := G.1) (ci := 12) (v := .int 0) (ty := .int) (C := RX12) (T := TX12) (N := 52) hx hb hts inG_X12 tyX12 tyX12_ok nmX12 hown hK hP hD hS 0 rfl rfl 0 (by decide +kernel) (hts _ fl_X12_107) (fun _ h9 => h9) rfl (by decide +kernel) rfl rfl (Nat.le_of_ble_eq_true rfl) dX12_drawn_2 ?_
  clear hP hD hS
  intro H locs hP hD hS
  refine g5_rs [(b_o, (oc12 0 u_sa b_rf b_ro b_im b_ke u_fd b_tp u_td u_fr u_to u_so u_wo u_fa u_bd u_nc b_nl u_co b_op b_ar u_le b_pi b_pa u_pd u_od b_ws b_hw u_la b_se b_re u_bk u_va u_su u_ce u_ho u_wy u_bt u_ps b_pt u_tg u_sn b_ip u_ic b_ah b_be b_me u_wd b_tr b_ld u_st b_wn u_id)), (b_wn, (arI G 24 v_wn))] hP hD ?_
  clear hP hD
  intro hP hD
  refine lv_aload_n hx hb dX12_drawn_5 rfl (lv_at hl 0 rfl) ?_
  refine W.eq (g2 := F0 m 6 ls [.ref b_o]) rfl ?_
  refine va_get (D := G.1) (ci := 12) (v := .int u_id) (C := RX12) (T := TX12) (N := 52) hx hb hts inG_X12 hown hK hP 0 rfl rfl 51 (by decide +kernel) (hts _ fl_X12_478) (fun _ h9 => h9) rfl dX12_drawn_6 ?_
  refine lv_if_eq (tgt := 28) hx hb dX12_drawn_9 (by decide +kernel) (fun c_1 => ?_) (fun c_1 => ?_)
  ·
    have i_1 : u_id.toInt = 0 := g5_eq (a := u_id.toInt) (b := 0) rfl (by decide +kernel) c_1
    refine lv_iconst (v := (-1)) hx hb dX12_drawn_28 (by decide +kernel) ?_
    exact W.iret (v := (-1)) hx hb hr (fun t ht hW => ⟨⟨(-1), [(b_o, (oc12 0 u_sa b_rf b_ro b_im b_ke u_fd b_tp u_td u_fr u_to u_so u_wo u_fa u_bd u_nc b_nl u_co b_op b_ar u_le b_pi b_pa u_pd u_od b_ws b_hw u_la b_se b_re u_bk u_va u_su u_ce u_ho u_wy u_bt u_ps b_pt u_tg u_sn b_ip u_ic b_ah b_be b_me u_wd b_tr b_ld u_st b_wn u_id)), (b_wn, (arI G 24 v_wn))], rfl, ⟨(-1), 0, (cif_f (fun q => by have q1 := q.1; have q2 := q.2; omega)).symm, rfl, rfl⟩, by rw [ht]; exact hP.sub [0, 1] rfl, hD.sub [0, 1] (by decide +kernel) rfl⟩, hS.F ht⟩) hS.2.2 dX12_drawn_29
  ·
    have n_1 : gNe (u_id.toInt) (0) := g5_eqN (a := u_id.toInt) (b := 0) rfl (by decide +kernel) c_1
    have i_1 : u_id.toInt ≥ 1 := by have z := g5_eqN (a := u_id.toInt) (b := 0) (by rfl) (by decide +kernel) c_1; omega
    refine lv_iload_n hx hb dX12_drawn_12 rfl (lv_at hl 1 rfl) ?_
    obtain ⟨hPc, hDc, hFc⟩ := g5_sub3 (wc := []) hP hD hS hA [] (by decide +kernel) rfl
    refine va_calli (va_runS (As := [.int p_1]) (rest := []) ⟨hx, hb, hml, hown, hts⟩ (n_isHourE l G H.size p_1) (va_cwS 1 hts gS_X12_175 rfl rfl rfl hs_X12_isHour ⟨Nat.le_of_ble_eq_true rfl, Nat.le_of_ble_eq_true rfl⟩) (g5_preS hPc hK hDc hN hT hS hFc) rfl rfl hl.1 rfl (lv_room (Nat.le_of_ble_eq_true rfl)) dX12_drawn_13 ⟨Nat.le_of_ble_eq_true rfl, Nat.le_of_ble_eq_true rfl⟩) hS (fun q _ h => hFc q h) hFc (fun r u t H locs ht hvm hw hB hz1 hk1 hS => ?_)
    obtain ⟨hP1, hD1⟩ := hB
    have hP1 := g5_ht ht hP1
    rcases hw with ⟨(i_2 : 0 ≤ p_1.toInt ∧ p_1.toInt ≤ 23), rfl, rfl⟩ | ⟨(i_3 : p_1.toInt < 0 ∨ 23 < p_1.toInt), rfl, rfl⟩
    ·
      have hJ9 := g5_same hP hk1
      clear hP hPc hDc hFc ht hvm hz1 hk1 hP1 hD1
      have hP := hJ9
      clear hJ9
      refine lv_if_eq (tgt := 28) hx hb dX12_drawn_16 (by decide +kernel) (fun c_4 => ?_) (fun c_4 => ?_)
      ·
        exact absurd c_4 (by decide +kernel)
      ·
        refine lv_aload_n hx hb dX12_drawn_19 rfl (lv_at hl 0 rfl) ?_
        refine va_get (D := G.1) (ci := 12) (v := .ref b_wn) (C := RX12) (T := TX12) (N := 52) hx hb hts inG_X12 hown hK hP 0 rfl rfl 50 (by decide +kernel) (hts _ fl_X12_104) (fun _ h9 => h9) rfl dX12_drawn_20 ?_
        refine lv_iload_n hx hb dX12_drawn_23 rfl (lv_at hl 1 rfl) ?_
        refine va_iald hx hb hK hP 1 0 rfl rfl (i := p_1) (vp_in_iff.mpr ⟨by omega, by omega⟩) dX12_drawn_24 ?_
        have hr_5 : 0 ≤ (v_wn p_1.toNatClampNeg).toInt ∧ (v_wn p_1.toNatClampNeg).toInt ≤ 63 := r_wn (p_1.toNatClampNeg)
        refine W.eq (g2 := F0 m 25 ls [.int (v_wn p_1.toNatClampNeg)]) rfl ?_
        refine lv_goto (tgt := 29) hx hb dX12_drawn_25 (by decide +kernel) ?_
        exact W.iret (v := (v_wn p_1.toNatClampNeg)) hx hb hr (fun t ht hW => ⟨⟨(v_wn p_1.toNatClampNeg), [(b_o, (oc12 0 u_sa b_rf b_ro b_im b_ke u_fd b_tp u_td u_fr u_to u_so u_wo u_fa u_bd u_nc b_nl u_co b_op b_ar u_le b_pi b_pa u_pd u_od b_ws b_hw u_la b_se b_re u_bk u_va u_su u_ce u_ho u_wy u_bt u_ps b_pt u_tg u_sn b_ip u_ic b_ah b_be b_me u_wd b_tr b_ld u_st b_wn u_id)), (b_wn, (arI G 24 v_wn))], rfl, ⟨(v_wn p_1.toNatClampNeg), 0, (cif_t ⟨by omega, by omega, by omega⟩).symm, rfl, rfl⟩, by rw [ht]; exact hP.sub [0, 1] rfl, hD.sub [0, 1] (by decide +kernel) rfl⟩, hS.F ht⟩) hS.2.2 dX12_drawn_29
    ·
      have hJ9 := g5_same hP hk1
      clear hP hPc hDc hFc ht hvm hz1 hk1 hP1 hD1
      have hP := hJ9
      clear hJ9
      refine lv_if_eq (tgt := 28) hx hb dX12_drawn_16 (by decide +kernel) (fun c_6 => ?_) (fun c_6 => ?_)
      ·
        refine lv_iconst (v := (-1)) hx hb dX12_drawn_28 (by decide +kernel) ?_
        exact W.iret (v := (-1)) hx hb hr (fun t ht hW => ⟨⟨(-1), [(b_o, (oc12 0 u_sa b_rf b_ro b_im b_ke u_fd b_tp u_td u_fr u_to u_so u_wo u_fa u_bd u_nc b_nl u_co b_op b_ar u_le b_pi b_pa u_pd u_od b_ws b_hw u_la b_se b_re u_bk u_va u_su u_ce u_ho u_wy u_bt u_ps b_pt u_tg u_sn b_ip u_ic b_ah b_be b_me u_wd b_tr b_ld u_st b_wn u_id)), (b_wn, (arI G 24 v_wn))], rfl, ⟨(-1), 0, (cif_f (fun q => by have q1 := q.1; have q2 := q.2; omega)).symm, rfl, rfl⟩, by rw [ht]; exact hP.sub [0, 1] rfl, hD.sub [0, 1] (by decide +kernel) rfl⟩, hS.F ht⟩) hS.2.2 dX12_drawn_29
      ·
        exact absurd c_6 (by decide +kernel)
set_option maxHeartbeats 4000000 in
set_option maxRecDepth 100000 in
theorem n_nextX (l : Launch) (G : g5_G) (b_o b_tp b_rf b_ro b_im b_ke b_nl b_op b_ar b_pi b_pa b_ws b_hw b_se b_re b_pt b_ip b_ah b_be b_me b_tr b_ld b_wn : Nat) (sz : Nat) (u_th : Int32) (u_sa : Int32) (u_fd : Int32) (u_td : Int32) (u_fr : Int32) (u_to : Int32) (u_so : Int32) (u_fa : Int32) (u_bd : Int32) (u_nc : Int32) (u_co : Int32) (u_le : Int32) (u_pd : Int32) (u_od : Int32) (u_la : Int32) (u_bk : Int32) (u_ce : Int32) (u_ho : Int32) (u_wy : Int32) (u_bt : Int32) (u_ps : Int32) (u_tg : Int32) (u_sn : Int32) (u_ic : Int32) (u_wd : Int32) (u_id : Int32) (u_wo : Int64) (u_va : Int64) (u_su : Int64) (u_st : Int64) (v_tp : Nat → Int32) (h_u_td : 0 ≤ u_td.toInt ∧ u_td.toInt ≤ 400) (h_u_fr : 0 ≤ u_fr.toInt ∧ u_fr.toInt ≤ 400) (h_u_to : 0 ≤ u_to.toInt ∧ u_to.toInt ≤ 400) (h_u_bd : 0 ≤ u_bd.toInt ∧ u_bd.toInt ≤ 1) (h_u_nc : 0 ≤ u_nc.toInt ∧ u_nc.toInt ≤ 12) (h_u_co : 0 ≤ u_co.toInt ∧ u_co.toInt ≤ 400) (h_u_pd : 0 ≤ u_pd.toInt ∧ u_pd.toInt ≤ 400) (h_u_la : 0 ≤ u_la.toInt ∧ u_la.toInt ≤ 4840) (h_u_bk : 0 ≤ u_bk.toInt ∧ u_bk.toInt ≤ 1) (h_u_ce : 0 ≤ u_ce.toInt ∧ u_ce.toInt ≤ 63) (h_u_ho : 0 ≤ u_ho.toInt ∧ u_ho.toInt ≤ 23) (h_u_wy : 0 ≤ u_wy.toInt ∧ u_wy.toInt ≤ 3) (h_u_bt : 0 ≤ u_bt.toInt ∧ u_bt.toInt ≤ 1000000) (h_u_ps : 0 ≤ u_ps.toInt ∧ u_ps.toInt ≤ 200) (h_u_ic : 0 ≤ u_ic.toInt ∧ u_ic.toInt ≤ 1) (h_u_id : 0 ≤ u_id.toInt ∧ u_id.toInt ≤ 1) (e_t : u_to.toInt ≤ u_td.toInt) : Met l yX12_next (wsG yX12_next cX12_next 1 none) ({ frames := 1, cells := 0, slots := 0, locals := 20 }) (va_Pc [.ref b_o] (g5_P G [(b_o, (oc12 u_th u_sa b_rf b_ro b_im b_ke u_fd b_tp u_td u_fr u_to u_so u_wo u_fa u_bd u_nc b_nl u_co b_op b_ar u_le b_pi b_pa u_pd u_od b_ws b_hw u_la b_se b_re u_bk u_va u_su u_ce u_ho u_wy u_bt u_ps b_pt u_tg u_sn b_ip u_ic b_ah b_be b_me u_wd b_tr b_ld u_st b_wn u_id)), (b_tp, (arI G 400 v_tp))] sz)) (va_Qv (fun (u : va_W) => (∃ (o_fr : Int32) (o_to : Int32) (o_so : Int32) (o_wo : Int64), (0 ≤ o_fr.toInt ∧ o_fr.toInt ≤ 400) ∧ (0 ≤ o_to.toInt ∧ o_to.toInt ≤ 400) ∧ (u_to.toInt ≤ o_fr.toInt ∧ o_fr.toInt ≤ o_to.toInt ∧ o_to.toInt ≤ u_td.toInt) ∧ (TKs o_so.toInt o_fr.toInt o_to.toInt) ∧ (TOKA v_tp u_td.toInt.toNat (skT v_tp u_td.toInt.toNat u_to.toInt.toNat) o_fr o_to o_so o_wo) ∧ (u = [(b_o, (oc12 u_th u_sa b_rf b_ro b_im b_ke u_fd b_tp u_td o_fr o_to o_so o_wo u_fa u_bd u_nc b_nl u_co b_op b_ar u_le b_pi b_pa u_pd u_od b_ws b_hw u_la b_se b_re u_bk u_va u_su u_ce u_ho u_wy u_bt u_ps b_pt u_tg u_sn b_ip u_ic b_ah b_be b_me u_wd b_tr b_ld u_st b_wn u_id)), (b_tp, (arI G 400 v_tp))]))) (g5_B G (va_A [(b_o, (oc12 u_th u_sa b_rf b_ro b_im b_ke u_fd b_tp u_td u_fr u_to u_so u_wo u_fa u_bd u_nc b_nl u_co b_op b_ar u_le b_pi b_pa u_pd u_od b_ws b_hw u_la b_se b_re u_bk u_va u_su u_ce u_ho u_wy u_bt u_ps b_pt u_tg u_sn b_ip u_ic b_ah b_be b_me u_wd b_tr b_ld u_st b_wn u_id)), (b_tp, (arI G 400 v_tp))] sz)) (va_A [(b_o, (oc12 u_th u_sa b_rf b_ro b_im b_ke u_fd b_tp u_td u_fr u_to u_so u_wo u_fa u_bd u_nc b_nl u_co b_op b_ar u_le b_pi b_pa u_pd u_od b_ws b_hw u_la b_se b_re u_bk u_va u_su u_ce u_ho u_wy u_bt u_ps b_pt u_tg u_sn b_ip u_ic b_ah b_be b_me u_wd b_tr b_ld u_st b_wn u_id)), (b_tp, (arI G 400 v_tp))] sz)) 0 0 (va_A [(b_o, (oc12 u_th u_sa b_rf b_ro b_im b_ke u_fd b_tp u_td u_fr u_to u_so u_wo u_fa u_bd u_nc b_nl u_co b_op b_ar u_le b_pi b_pa u_pd u_od b_ws b_hw u_la b_se b_re u_bk u_va u_su u_ce u_ho u_wy u_bt u_ps b_pt u_tg u_sn b_ip u_ic b_ah b_be b_me u_wd b_tr b_ld u_st b_wn u_id)), (b_tp, (arI G 400 v_tp))] sz) := by
  refine Met.ofW (cc := cX12_next) (maxL := 1) (ret := none) (by decide +kernel) rfl ?_
  intro p e s m args below meth c s₁ B hml hv
  obtain ⟨rfl, hsz, hP, hK, hD0, hN, hT⟩ := hv
  have hx := B.exec
  have hb := B.bytes
  have hr := B.returns
  have hts : ∀ w ∈ tblG, w.before _ s = true := fun w h => atoms_spec (ws := (wsG yX12_next cX12_next 1 none)) B.pre w (List.mem_cons_of_mem _ h)
  have hown : s.vm.findClass RX12 = some m.cls := findClass_of_methodNamed B.named
  have hlocks := B.notSynchronized
  subst hsz
  have hD := hD0.self (sz := s.heap.size)
  generalize hAe : va_A [(b_o, (oc12 u_th u_sa b_rf b_ro b_im b_ke u_fd b_tp u_td u_fr u_to u_so u_wo u_fa u_bd u_nc b_nl u_co b_op b_ar u_le b_pi b_pa u_pd u_od b_ws b_hw u_la b_se b_re u_bk u_va u_su u_ce u_ho u_wy u_bt u_ps b_pt u_tg u_sn b_ip u_ic b_ah b_be b_me u_wd b_tr b_ld u_st b_wn u_id)), (b_tp, (arI G 400 v_tp))] s.heap.size = A at hD hT ⊢
  have hA : ∀ q : Nat, s.heap.size ≤ q → A q := fun q h => by rw [← hAe]; exact Or.inr h
  have hS : va_S A s.heap s.heap [] := va_S.rf
  replace hP : va_P G.1 vwCl [(b_o, (oc12 u_th u_sa b_rf b_ro b_im b_ke u_fd b_tp u_td u_fr u_to u_so u_wo u_fa u_bd u_nc b_nl u_co b_op b_ar u_le b_pi b_pa u_pd u_od b_ws b_hw u_la b_se b_re u_bk u_va u_su u_ce u_ho u_wy u_bt u_ps b_pt u_tg u_sn b_ip u_ic b_ah b_be b_me u_wd b_tr b_ld u_st b_wn u_id)), (b_tp, (arI G 400 v_tp))] s.heap := hP
  have hl := lv_entry ([.ref b_o]) (n := 1) (Nat.le_of_ble_eq_true rfl)
  rw [lg_entry_eq]
  generalize (lg_sl ([.ref b_o]) ++ List.replicate (1 - (lg_sl ([.ref b_o])).length) Slot.unset).toArray = ls at hl ⊢
  replace hl : lv_has ls 1 [(0, .ref b_o)] := hl
  refine lv_aload_n hx hb dX12_next_0 rfl (lv_at hl 0 rfl) ?_
  refine lv_aload_n hx hb dX12_next_1 rfl (lv_at hl 0 rfl) ?_
  refine va_get (D := G.1) (ci := 12) (v := .int u_to) (C := RX12) (T := TX12) (N := 52) hx hb hts inG_X12 hown hK hP 0 rfl rfl 10 (by decide +kernel) (hts _ fl_X12_202) (fun _ h9 => h9) rfl dX12_next_2 ?_
  refine va_put (D := G.1) (ci := 12) (v := .int u_to) (ty := .int) (C := RX12) (T := TX12) (N := 52) hx hb hts inG_X12 tyX12 tyX12_ok nmX12 hown hK hP hD hS 0 rfl rfl 9 (by decide +kernel) (hts _ fl_X12_211) (fun _ h9 => h9) rfl (by decide +kernel) rfl rfl (Nat.le_of_ble_eq_true rfl) dX12_next_5 ?_
  clear hP hD hS
  intro H locs hP hD hS
  refine g5_rs [(b_o, (oc12 u_th u_sa b_rf b_ro b_im b_ke u_fd b_tp u_td u_to u_to u_so u_wo u_fa u_bd u_nc b_nl u_co b_op b_ar u_le b_pi b_pa u_pd u_od b_ws b_hw u_la b_se b_re u_bk u_va u_su u_ce u_ho u_wy u_bt u_ps b_pt u_tg u_sn b_ip u_ic b_ah b_be b_me u_wd b_tr b_ld u_st b_wn u_id)), (b_tp, (arI G 400 v_tp))] hP hD ?_
  clear hP hD
  intro hP hD
  refine g5_loop (α := (Int32)) (fun (k8_fr : (Int32)) (ls : Array Slot) (H : Heap) (locs : List Loc) => lv_has ls 1 [(0, .ref b_o)] ∧ va_P G.1 vwCl [(b_o, (oc12 u_th u_sa b_rf b_ro b_im b_ke u_fd b_tp u_td k8_fr u_to u_so u_wo u_fa u_bd u_nc b_nl u_co b_op b_ar u_le b_pi b_pa u_pd u_od b_ws b_hw u_la b_se b_re u_bk u_va u_su u_ce u_ho u_wy u_bt u_ps b_pt u_tg u_sn b_ip u_ic b_ah b_be b_me u_wd b_tr b_ld u_st b_wn u_id)), (b_tp, (arI G 400 v_tp))] H ∧ va_D A [(b_o, (oc12 u_th u_sa b_rf b_ro b_im b_ke u_fd b_tp u_td k8_fr u_to u_so u_wo u_fa u_bd u_nc b_nl u_co b_op b_ar u_le b_pi b_pa u_pd u_od b_ws b_hw u_la b_se b_re u_bk u_va u_su u_ce u_ho u_wy u_bt u_ps b_pt u_tg u_sn b_ip u_ic b_ah b_be b_me u_wd b_tr b_ld u_st b_wn u_id)), (b_tp, (arI G 400 v_tp))] ∧ va_S A s.heap H locs ∧ (0 ≤ k8_fr.toInt ∧ k8_fr.toInt ≤ 400) ∧ (u_to.toInt ≤ k8_fr.toInt ∧ k8_fr.toInt ≤ u_td.toInt) ∧ (BLP v_tp u_td.toInt.toNat u_to k8_fr)) (fun (k8_fr : (Int32)) => Int.toNat (400 - k8_fr.toInt)) u_to ⟨lv_sub hl [0] rfl, hP, hD, hS, h_u_to, by omega, blp_0⟩ ?_
  rintro k8_fr ls H locs ⟨hl, hP, hD, hS, (i_1 : 0 ≤ k8_fr.toInt ∧ k8_fr.toInt ≤ 400), (i_2 : u_to.toInt ≤ k8_fr.toInt ∧ k8_fr.toInt ≤ u_td.toInt), (i_3 : BLP v_tp u_td.toInt.toNat u_to k8_fr)⟩ ih_8_4
  replace hl : lv_has ls 1 [(0, .ref b_o)] := hl
  refine g5_rs [(b_o, (oc12 u_th u_sa b_rf b_ro b_im b_ke u_fd b_tp u_td k8_fr u_to u_so u_wo u_fa u_bd u_nc b_nl u_co b_op b_ar u_le b_pi b_pa u_pd u_od b_ws b_hw u_la b_se b_re u_bk u_va u_su u_ce u_ho u_wy u_bt u_ps b_pt u_tg u_sn b_ip u_ic b_ah b_be b_me u_wd b_tr b_ld u_st b_wn u_id)), (b_tp, (arI G 400 v_tp))] hP hD ?_
  clear hP hD
  intro hP hD
  refine lv_aload_n hx hb dX12_next_8 rfl (lv_at hl 0 rfl) ?_
  refine va_get (D := G.1) (ci := 12) (v := .int k8_fr) (C := RX12) (T := TX12) (N := 52) hx hb hts inG_X12 hown hK hP 0 rfl rfl 9 (by decide +kernel) (hts _ fl_X12_211) (fun _ h9 => h9) rfl dX12_next_9 ?_
  refine lv_aload_n hx hb dX12_next_12 rfl (lv_at hl 0 rfl) ?_
  refine va_get (D := G.1) (ci := 12) (v := .int u_td) (C := RX12) (T := TX12) (N := 52) hx hb hts inG_X12 hown hK hP 0 rfl rfl 8 (by decide +kernel) (hts _ fl_X12_192) (fun _ h9 => h9) rfl dX12_next_13 ?_
  refine W.eq (g2 := F0 m 16 ls [.int u_td, .int k8_fr]) rfl ?_
  refine lv_icmp_ge (tgt := 46) hx hb dX12_next_16 (by decide +kernel) (fun c_5 => ?_) (fun c_5 => ?_)
  ·
    have i_5 : k8_fr.toInt ≥ u_td.toInt := g5_ge (a := k8_fr.toInt) (b := u_td.toInt) rfl rfl c_5
    refine lv_aload_n hx hb dX12_next_46 rfl (lv_at hl 0 rfl) ?_
    refine lv_aload_n hx hb dX12_next_47 rfl (lv_at hl 0 rfl) ?_
    refine va_get (D := G.1) (ci := 12) (v := .int k8_fr) (C := RX12) (T := TX12) (N := 52) hx hb hts inG_X12 hown hK hP 0 rfl rfl 9 (by decide +kernel) (hts _ fl_X12_211) (fun _ h9 => h9) rfl dX12_next_48 ?_
    refine va_put (D := G.1) (ci := 12) (v := .int k8_fr) (ty := .int) (C := RX12) (T := TX12) (N := 52) hx hb hts inG_X12 tyX12 tyX12_ok nmX12 hown hK hP hD hS 0 rfl rfl 10 (by decide +kernel) (hts _ fl_X12_202) (fun _ h9 => h9) rfl (by decide +kernel) rfl rfl (Nat.le_of_ble_eq_true rfl) dX12_next_51 ?_
    clear hP hD hS
    intro H locs hP hD hS
    refine g5_rs [(b_o, (oc12 u_th u_sa b_rf b_ro b_im b_ke u_fd b_tp u_td k8_fr k8_fr u_so u_wo u_fa u_bd u_nc b_nl u_co b_op b_ar u_le b_pi b_pa u_pd u_od b_ws b_hw u_la b_se b_re u_bk u_va u_su u_ce u_ho u_wy u_bt u_ps b_pt u_tg u_sn b_ip u_ic b_ah b_be b_me u_wd b_tr b_ld u_st b_wn u_id)), (b_tp, (arI G 400 v_tp))] hP hD ?_
    clear hP hD
    intro hP hD
    refine W.eq (g2 := F0 m 54 ls []) rfl ?_
    refine lv_aload_n hx hb dX12_next_54 rfl (lv_at hl 0 rfl) ?_
    refine lv_lconst (v := 0) hx hb dX12_next_55 (by decide +kernel) ?_
    refine va_put (D := G.1) (ci := 12) (v := .long 0) (ty := .long) (C := RX12) (T := TX12) (N := 52) hx hb hts inG_X12 tyX12 tyX12_ok nmX12 hown hK hP hD hS 0 rfl rfl 12 (by decide +kernel) (hts _ fl_X12_214) (fun _ h9 => h9) rfl (by decide +kernel) rfl rfl (Nat.le_of_ble_eq_true rfl) dX12_next_56 ?_
    clear hP hD hS
    intro H locs hP hD hS
    refine g5_rs [(b_o, (oc12 u_th u_sa b_rf b_ro b_im b_ke u_fd b_tp u_td k8_fr k8_fr u_so 0 u_fa u_bd u_nc b_nl u_co b_op b_ar u_le b_pi b_pa u_pd u_od b_ws b_hw u_la b_se b_re u_bk u_va u_su u_ce u_ho u_wy u_bt u_ps b_pt u_tg u_sn b_ip u_ic b_ah b_be b_me u_wd b_tr b_ld u_st b_wn u_id)), (b_tp, (arI G 400 v_tp))] hP hD ?_
    clear hP hD
    intro hP hD
    refine lv_aload_n hx hb dX12_next_59 rfl (lv_at hl 0 rfl) ?_
    refine lv_aload_n hx hb dX12_next_60 rfl (lv_at hl 0 rfl) ?_
    refine W.eq (g2 := F0 m 61 ls [.ref b_o, .ref b_o]) rfl ?_
    refine va_get (D := G.1) (ci := 12) (v := .int k8_fr) (C := RX12) (T := TX12) (N := 52) hx hb hts inG_X12 hown hK hP 0 rfl rfl 9 (by decide +kernel) (hts _ fl_X12_211) (fun _ h9 => h9) rfl dX12_next_61 ?_
    refine lv_aload_n hx hb dX12_next_64 rfl (lv_at hl 0 rfl) ?_
    refine va_get (D := G.1) (ci := 12) (v := .int u_td) (C := RX12) (T := TX12) (N := 52) hx hb hts inG_X12 hown hK hP 0 rfl rfl 8 (by decide +kernel) (hts _ fl_X12_192) (fun _ h9 => h9) rfl dX12_next_65 ?_
    refine lv_icmp_ne (tgt := 75) hx hb dX12_next_68 (by decide +kernel) (fun c_6 => ?_) (fun c_6 => ?_)
    ·
      have n_6 : gNe (k8_fr.toInt) (u_td.toInt) := g5_ne (a := k8_fr.toInt) (b := u_td.toInt) rfl rfl c_6
      exact absurd (show k8_fr.toInt = u_td.toInt by omega) n_6
    ·
      have i_6 : k8_fr.toInt = u_td.toInt := g5_neN (a := k8_fr.toInt) (b := u_td.toInt) rfl rfl c_6
      refine lv_iconst (v := 0) hx hb dX12_next_71 (by decide +kernel) ?_
      refine lv_goto (tgt := 114) hx hb dX12_next_72 (by decide +kernel) ?_
      refine va_put (D := G.1) (ci := 12) (v := .int 0) (ty := .int) (C := RX12) (T := TX12) (N := 52) hx hb hts inG_X12 tyX12 tyX12_ok nmX12 hown hK hP hD hS 0 rfl rfl 11 (by decide +kernel) (hts _ fl_X12_224) (fun _ h9 => h9) rfl (by decide +kernel) rfl rfl (Nat.le_of_ble_eq_true rfl) dX12_next_114 ?_
      clear hP hD hS
      intro H locs hP hD hS
      refine g5_rs [(b_o, (oc12 u_th u_sa b_rf b_ro b_im b_ke u_fd b_tp u_td k8_fr k8_fr 0 0 u_fa u_bd u_nc b_nl u_co b_op b_ar u_le b_pi b_pa u_pd u_od b_ws b_hw u_la b_se b_re u_bk u_va u_su u_ce u_ho u_wy u_bt u_ps b_pt u_tg u_sn b_ip u_ic b_ah b_be b_me u_wd b_tr b_ld u_st b_wn u_id)), (b_tp, (arI G 400 v_tp))] hP hD ?_
      clear hP hD
      intro hP hD
      refine lv_aload_n hx hb dX12_next_117 rfl (lv_at hl 0 rfl) ?_
      refine W.eq (g2 := F0 m 118 ls [.ref b_o]) rfl ?_
      refine va_get (D := G.1) (ci := 12) (v := .int 0) (C := RX12) (T := TX12) (N := 52) hx hb hts inG_X12 hown hK hP 0 rfl rfl 11 (by decide +kernel) (hts _ fl_X12_224) (fun _ h9 => h9) rfl dX12_next_118 ?_
      refine lv_iconst (v := 3) hx hb dX12_next_121 (by decide +kernel) ?_
      refine lv_icmp_ne (tgt := 149) hx hb dX12_next_122 (by decide +kernel) (fun c_7 => ?_) (fun c_7 => ?_)
      ·
        refine g5_loop (α := (Int32) × (Int64)) (fun (q : (Int32) × (Int64)) (ls : Array Slot) (H : Heap) (locs : List Loc) => match q with | (k149_to, k149_wo) => lv_has ls 1 [(0, .ref b_o)] ∧ va_P G.1 vwCl [(b_o, (oc12 u_th u_sa b_rf b_ro b_im b_ke u_fd b_tp u_td k8_fr k149_to 0 k149_wo u_fa u_bd u_nc b_nl u_co b_op b_ar u_le b_pi b_pa u_pd u_od b_ws b_hw u_la b_se b_re u_bk u_va u_su u_ce u_ho u_wy u_bt u_ps b_pt u_tg u_sn b_ip u_ic b_ah b_be b_me u_wd b_tr b_ld u_st b_wn u_id)), (b_tp, (arI G 400 v_tp))] H ∧ va_D A [(b_o, (oc12 u_th u_sa b_rf b_ro b_im b_ke u_fd b_tp u_td k8_fr k149_to 0 k149_wo u_fa u_bd u_nc b_nl u_co b_op b_ar u_le b_pi b_pa u_pd u_od b_ws b_hw u_la b_se b_re u_bk u_va u_su u_ce u_ho u_wy u_bt u_ps b_pt u_tg u_sn b_ip u_ic b_ah b_be b_me u_wd b_tr b_ld u_st b_wn u_id)), (b_tp, (arI G 400 v_tp))] ∧ va_S A s.heap H locs ∧ (0 ≤ k149_to.toInt ∧ k149_to.toInt ≤ 400) ∧ (k8_fr.toInt ≤ k149_to.toInt ∧ k149_to.toInt ≤ u_td.toInt) ∧ (k149_to.toInt = k8_fr.toInt)) (fun (q : (Int32) × (Int64)) => match q with | (k149_to, k149_wo) => Int.toNat (400 - k149_to.toInt)) (k8_fr, 0) ⟨lv_sub hl [0] rfl, hP, hD, hS, i_1, by omega, by omega⟩ ?_
        rintro ⟨k149_to, k149_wo⟩ ls H locs ⟨hl, hP, hD, hS, (i_8 : 0 ≤ k149_to.toInt ∧ k149_to.toInt ≤ 400), (i_9 : k8_fr.toInt ≤ k149_to.toInt ∧ k149_to.toInt ≤ u_td.toInt), (i_10 : k149_to.toInt = k8_fr.toInt)⟩ ih_149_11
        replace hl : lv_has ls 1 [(0, .ref b_o)] := hl
        refine g5_rs [(b_o, (oc12 u_th u_sa b_rf b_ro b_im b_ke u_fd b_tp u_td k8_fr k149_to 0 k149_wo u_fa u_bd u_nc b_nl u_co b_op b_ar u_le b_pi b_pa u_pd u_od b_ws b_hw u_la b_se b_re u_bk u_va u_su u_ce u_ho u_wy u_bt u_ps b_pt u_tg u_sn b_ip u_ic b_ah b_be b_me u_wd b_tr b_ld u_st b_wn u_id)), (b_tp, (arI G 400 v_tp))] hP hD ?_
        clear hP hD
        intro hP hD
        refine lv_aload_n hx hb dX12_next_149 rfl (lv_at hl 0 rfl) ?_
        refine va_get (D := G.1) (ci := 12) (v := .int 0) (C := RX12) (T := TX12) (N := 52) hx hb hts inG_X12 hown hK hP 0 rfl rfl 11 (by decide +kernel) (hts _ fl_X12_224) (fun _ h9 => h9) rfl dX12_next_150 ?_
        refine lv_iconst (v := 1) hx hb dX12_next_153 (by decide +kernel) ?_
        refine lv_icmp_ne (tgt := 243) hx hb dX12_next_154 (by decide +kernel) (fun c_12 => ?_) (fun c_12 => ?_)
        ·
          refine g5_loop (α := (Int32) × (Int64)) (fun (q : (Int32) × (Int64)) (ls : Array Slot) (H : Heap) (locs : List Loc) => match q with | (k243_to, k243_wo) => lv_has ls 1 [(0, .ref b_o)] ∧ va_P G.1 vwCl [(b_o, (oc12 u_th u_sa b_rf b_ro b_im b_ke u_fd b_tp u_td k8_fr k243_to 0 k243_wo u_fa u_bd u_nc b_nl u_co b_op b_ar u_le b_pi b_pa u_pd u_od b_ws b_hw u_la b_se b_re u_bk u_va u_su u_ce u_ho u_wy u_bt u_ps b_pt u_tg u_sn b_ip u_ic b_ah b_be b_me u_wd b_tr b_ld u_st b_wn u_id)), (b_tp, (arI G 400 v_tp))] H ∧ va_D A [(b_o, (oc12 u_th u_sa b_rf b_ro b_im b_ke u_fd b_tp u_td k8_fr k243_to 0 k243_wo u_fa u_bd u_nc b_nl u_co b_op b_ar u_le b_pi b_pa u_pd u_od b_ws b_hw u_la b_se b_re u_bk u_va u_su u_ce u_ho u_wy u_bt u_ps b_pt u_tg u_sn b_ip u_ic b_ah b_be b_me u_wd b_tr b_ld u_st b_wn u_id)), (b_tp, (arI G 400 v_tp))] ∧ va_S A s.heap H locs ∧ (0 ≤ k243_to.toInt ∧ k243_to.toInt ≤ 400) ∧ (k8_fr.toInt ≤ k243_to.toInt ∧ k243_to.toInt ≤ u_td.toInt) ∧ (k243_to.toInt = k8_fr.toInt)) (fun (q : (Int32) × (Int64)) => match q with | (k243_to, k243_wo) => Int.toNat (400 - k243_to.toInt)) (k149_to, k149_wo) ⟨lv_sub hl [0] rfl, hP, hD, hS, i_8, by omega, by omega⟩ ?_
          rintro ⟨k243_to, k243_wo⟩ ls H locs ⟨hl, hP, hD, hS, (i_13 : 0 ≤ k243_to.toInt ∧ k243_to.toInt ≤ 400), (i_14 : k8_fr.toInt ≤ k243_to.toInt ∧ k243_to.toInt ≤ u_td.toInt), (i_15 : k243_to.toInt = k8_fr.toInt)⟩ ih_243_16
          replace hl : lv_has ls 1 [(0, .ref b_o)] := hl
          refine g5_rs [(b_o, (oc12 u_th u_sa b_rf b_ro b_im b_ke u_fd b_tp u_td k8_fr k243_to 0 k243_wo u_fa u_bd u_nc b_nl u_co b_op b_ar u_le b_pi b_pa u_pd u_od b_ws b_hw u_la b_se b_re u_bk u_va u_su u_ce u_ho u_wy u_bt u_ps b_pt u_tg u_sn b_ip u_ic b_ah b_be b_me u_wd b_tr b_ld u_st b_wn u_id)), (b_tp, (arI G 400 v_tp))] hP hD ?_
          clear hP hD
          intro hP hD
          refine lv_aload_n hx hb dX12_next_243 rfl (lv_at hl 0 rfl) ?_
          refine va_get (D := G.1) (ci := 12) (v := .int 0) (C := RX12) (T := TX12) (N := 52) hx hb hts inG_X12 hown hK hP 0 rfl rfl 11 (by decide +kernel) (hts _ fl_X12_224) (fun _ h9 => h9) rfl dX12_next_244 ?_
          refine lv_iconst (v := 2) hx hb dX12_next_247 (by decide +kernel) ?_
          refine lv_icmp_ne (tgt := 335) hx hb dX12_next_248 (by decide +kernel) (fun c_17 => ?_) (fun c_17 => ?_)
          ·
            exact W.vret hx hb hr (fun t ht hW => ⟨⟨[(b_o, (oc12 u_th u_sa b_rf b_ro b_im b_ke u_fd b_tp u_td k8_fr k243_to 0 k243_wo u_fa u_bd u_nc b_nl u_co b_op b_ar u_le b_pi b_pa u_pd u_od b_ws b_hw u_la b_se b_re u_bk u_va u_su u_ce u_ho u_wy u_bt u_ps b_pt u_tg u_sn b_ip u_ic b_ah b_be b_me u_wd b_tr b_ld u_st b_wn u_id)), (b_tp, (arI G 400 v_tp))], rfl, ⟨k8_fr, k243_to, 0, k243_wo, i_1, i_13, by omega, toka_tks (x := v_tp) (n := u_td.toInt.toNat) (i := (skT v_tp u_td.toInt.toNat u_to.toInt.toNat)) (wo := k243_wo) ((by have hf9 := (blp_end i_3 (by omega) (by first | exact Or.inl (by omega) | (unfold gNe at *; exact Or.inr (by omega)))); exact toka_end hf9 (by omega) (by decide +kernel) (by omega))), (by have hf9 := (blp_end i_3 (by omega) (by first | exact Or.inl (by omega) | (unfold gNe at *; exact Or.inr (by omega)))); exact toka_end hf9 (by omega) (by decide +kernel) (by omega)), rfl⟩, by rw [ht]; exact hP.sub [0, 1] rfl, hD.sub [0, 1] (by decide +kernel) rfl⟩, hS.F ht⟩) hS.2.2 dX12_next_335
          ·
            exact absurd c_17 (by decide +kernel)
        ·
          exact absurd c_12 (by decide +kernel)
      ·
        exact absurd c_7 (by decide +kernel)
  ·
    have i_5 : k8_fr.toInt < u_td.toInt := g5_geN (a := k8_fr.toInt) (b := u_td.toInt) rfl rfl c_5
    refine lv_aload_n hx hb dX12_next_19 rfl (lv_at hl 0 rfl) ?_
    refine va_get (D := G.1) (ci := 12) (v := .ref b_tp) (C := RX12) (T := TX12) (N := 52) hx hb hts inG_X12 hown hK hP 0 rfl rfl 7 (by decide +kernel) (hts _ fl_X12_23) (fun _ h9 => h9) rfl dX12_next_20 ?_
    refine lv_aload_n hx hb dX12_next_23 rfl (lv_at hl 0 rfl) ?_
    refine va_get (D := G.1) (ci := 12) (v := .int k8_fr) (C := RX12) (T := TX12) (N := 52) hx hb hts inG_X12 hown hK hP 0 rfl rfl 9 (by decide +kernel) (hts _ fl_X12_211) (fun _ h9 => h9) rfl dX12_next_24 ?_
    refine W.eq (g2 := F0 m 27 ls [.int k8_fr, .ref b_tp]) rfl ?_
    refine va_iald hx hb hK hP 1 0 rfl rfl (i := k8_fr) (vp_in_iff.mpr ⟨by omega, by omega⟩) dX12_next_27 ?_
    refine lv_bipush (v := 32) hx hb dX12_next_28 (by decide +kernel) ?_
    refine lv_icmp_ne (tgt := 46) hx hb dX12_next_30 (by decide +kernel) (fun c_18 => ?_) (fun c_18 => ?_)
    ·
      have n_18 : gNe ((v_tp k8_fr.toNatClampNeg).toInt) (32) := g5_ne (a := (v_tp k8_fr.toNatClampNeg).toInt) (b := 32) rfl (by decide +kernel) c_18
      refine lv_aload_n hx hb dX12_next_46 rfl (lv_at hl 0 rfl) ?_
      refine lv_aload_n hx hb dX12_next_47 rfl (lv_at hl 0 rfl) ?_
      refine va_get (D := G.1) (ci := 12) (v := .int k8_fr) (C := RX12) (T := TX12) (N := 52) hx hb hts inG_X12 hown hK hP 0 rfl rfl 9 (by decide +kernel) (hts _ fl_X12_211) (fun _ h9 => h9) rfl dX12_next_48 ?_
      refine va_put (D := G.1) (ci := 12) (v := .int k8_fr) (ty := .int) (C := RX12) (T := TX12) (N := 52) hx hb hts inG_X12 tyX12 tyX12_ok nmX12 hown hK hP hD hS 0 rfl rfl 10 (by decide +kernel) (hts _ fl_X12_202) (fun _ h9 => h9) rfl (by decide +kernel) rfl rfl (Nat.le_of_ble_eq_true rfl) dX12_next_51 ?_
      clear hP hD hS
      intro H locs hP hD hS
      refine g5_rs [(b_o, (oc12 u_th u_sa b_rf b_ro b_im b_ke u_fd b_tp u_td k8_fr k8_fr u_so u_wo u_fa u_bd u_nc b_nl u_co b_op b_ar u_le b_pi b_pa u_pd u_od b_ws b_hw u_la b_se b_re u_bk u_va u_su u_ce u_ho u_wy u_bt u_ps b_pt u_tg u_sn b_ip u_ic b_ah b_be b_me u_wd b_tr b_ld u_st b_wn u_id)), (b_tp, (arI G 400 v_tp))] hP hD ?_
      clear hP hD
      intro hP hD
      refine W.eq (g2 := F0 m 54 ls []) rfl ?_
      refine lv_aload_n hx hb dX12_next_54 rfl (lv_at hl 0 rfl) ?_
      refine lv_lconst (v := 0) hx hb dX12_next_55 (by decide +kernel) ?_
      refine va_put (D := G.1) (ci := 12) (v := .long 0) (ty := .long) (C := RX12) (T := TX12) (N := 52) hx hb hts inG_X12 tyX12 tyX12_ok nmX12 hown hK hP hD hS 0 rfl rfl 12 (by decide +kernel) (hts _ fl_X12_214) (fun _ h9 => h9) rfl (by decide +kernel) rfl rfl (Nat.le_of_ble_eq_true rfl) dX12_next_56 ?_
      clear hP hD hS
      intro H locs hP hD hS
      refine g5_rs [(b_o, (oc12 u_th u_sa b_rf b_ro b_im b_ke u_fd b_tp u_td k8_fr k8_fr u_so 0 u_fa u_bd u_nc b_nl u_co b_op b_ar u_le b_pi b_pa u_pd u_od b_ws b_hw u_la b_se b_re u_bk u_va u_su u_ce u_ho u_wy u_bt u_ps b_pt u_tg u_sn b_ip u_ic b_ah b_be b_me u_wd b_tr b_ld u_st b_wn u_id)), (b_tp, (arI G 400 v_tp))] hP hD ?_
      clear hP hD
      intro hP hD
      refine lv_aload_n hx hb dX12_next_59 rfl (lv_at hl 0 rfl) ?_
      refine lv_aload_n hx hb dX12_next_60 rfl (lv_at hl 0 rfl) ?_
      refine W.eq (g2 := F0 m 61 ls [.ref b_o, .ref b_o]) rfl ?_
      refine va_get (D := G.1) (ci := 12) (v := .int k8_fr) (C := RX12) (T := TX12) (N := 52) hx hb hts inG_X12 hown hK hP 0 rfl rfl 9 (by decide +kernel) (hts _ fl_X12_211) (fun _ h9 => h9) rfl dX12_next_61 ?_
      refine lv_aload_n hx hb dX12_next_64 rfl (lv_at hl 0 rfl) ?_
      refine va_get (D := G.1) (ci := 12) (v := .int u_td) (C := RX12) (T := TX12) (N := 52) hx hb hts inG_X12 hown hK hP 0 rfl rfl 8 (by decide +kernel) (hts _ fl_X12_192) (fun _ h9 => h9) rfl dX12_next_65 ?_
      refine lv_icmp_ne (tgt := 75) hx hb dX12_next_68 (by decide +kernel) (fun c_19 => ?_) (fun c_19 => ?_)
      ·
        have n_19 : gNe (k8_fr.toInt) (u_td.toInt) := g5_ne (a := k8_fr.toInt) (b := u_td.toInt) rfl rfl c_19
        refine lv_aload_n hx hb dX12_next_75 rfl (lv_at hl 0 rfl) ?_
        refine va_get (D := G.1) (ci := 12) (v := .ref b_tp) (C := RX12) (T := TX12) (N := 52) hx hb hts inG_X12 hown hK hP 0 rfl rfl 7 (by decide +kernel) (hts _ fl_X12_23) (fun _ h9 => h9) rfl dX12_next_76 ?_
        refine lv_aload_n hx hb dX12_next_79 rfl (lv_at hl 0 rfl) ?_
        refine va_get (D := G.1) (ci := 12) (v := .int k8_fr) (C := RX12) (T := TX12) (N := 52) hx hb hts inG_X12 hown hK hP 0 rfl rfl 9 (by decide +kernel) (hts _ fl_X12_211) (fun _ h9 => h9) rfl dX12_next_80 ?_
        refine W.eq (g2 := F0 m 83 ls [.int k8_fr, .ref b_tp, .ref b_o]) rfl ?_
        refine va_iald hx hb hK hP 1 0 rfl rfl (i := k8_fr) (vp_in_iff.mpr ⟨by omega, by omega⟩) dX12_next_83 ?_
        obtain ⟨hPc, hDc, hFc⟩ := g5_sub3 (wc := []) hP hD hS hA [] (by decide +kernel) rfl
        refine va_calli (va_runS (As := [.int (v_tp k8_fr.toNatClampNeg)]) (rest := [.ref b_o]) ⟨hx, hb, hml, hown, hts⟩ (n_isSmallX l G H.size (v_tp k8_fr.toNatClampNeg)) (va_cwS 1 hts gS_X12_218 rfl rfl rfl hs_X12_isSmall ⟨Nat.le_of_ble_eq_true rfl, Nat.le_of_ble_eq_true rfl⟩) (g5_preS hPc hK hDc hN hT hS hFc) rfl rfl hl.1 rfl (lv_room (Nat.le_of_ble_eq_true rfl)) dX12_next_84 ⟨Nat.le_of_ble_eq_true rfl, Nat.le_of_ble_eq_true rfl⟩) hS (fun q _ h => hFc q h) hFc (fun r u t H locs ht hvm hw hB hz1 hk1 hS => ?_)
        obtain ⟨hP1, hD1⟩ := hB
        have hP1 := g5_ht ht hP1
        rcases hw with ⟨(i_20 : 97 ≤ (v_tp k8_fr.toNatClampNeg).toInt ∧ (v_tp k8_fr.toNatClampNeg).toInt ≤ 122), rfl, rfl⟩ | ⟨(i_21 : (v_tp k8_fr.toNatClampNeg).toInt < 97 ∨ 122 < (v_tp k8_fr.toNatClampNeg).toInt), rfl, rfl⟩
        ·
          have hJ9 := g5_same hP hk1
          clear hP hPc hDc hFc ht hvm hz1 hk1 hP1 hD1
          have hP := hJ9
          clear hJ9
          refine lv_if_eq (tgt := 94) hx hb dX12_next_87 (by decide +kernel) (fun c_22 => ?_) (fun c_22 => ?_)
          ·
            exact absurd c_22 (by decide +kernel)
          ·
            refine lv_iconst (v := 1) hx hb dX12_next_90 (by decide +kernel) ?_
            refine lv_goto (tgt := 114) hx hb dX12_next_91 (by decide +kernel) ?_
            refine va_put (D := G.1) (ci := 12) (v := .int 1) (ty := .int) (C := RX12) (T := TX12) (N := 52) hx hb hts inG_X12 tyX12 tyX12_ok nmX12 hown hK hP hD hS 0 rfl rfl 11 (by decide +kernel) (hts _ fl_X12_224) (fun _ h9 => h9) rfl (by decide +kernel) rfl rfl (Nat.le_of_ble_eq_true rfl) dX12_next_114 ?_
            clear hP hD hS
            intro H locs hP hD hS
            refine g5_rs [(b_o, (oc12 u_th u_sa b_rf b_ro b_im b_ke u_fd b_tp u_td k8_fr k8_fr 1 0 u_fa u_bd u_nc b_nl u_co b_op b_ar u_le b_pi b_pa u_pd u_od b_ws b_hw u_la b_se b_re u_bk u_va u_su u_ce u_ho u_wy u_bt u_ps b_pt u_tg u_sn b_ip u_ic b_ah b_be b_me u_wd b_tr b_ld u_st b_wn u_id)), (b_tp, (arI G 400 v_tp))] hP hD ?_
            clear hP hD
            intro hP hD
            refine lv_aload_n hx hb dX12_next_117 rfl (lv_at hl 0 rfl) ?_
            refine W.eq (g2 := F0 m 118 ls [.ref b_o]) rfl ?_
            refine va_get (D := G.1) (ci := 12) (v := .int 1) (C := RX12) (T := TX12) (N := 52) hx hb hts inG_X12 hown hK hP 0 rfl rfl 11 (by decide +kernel) (hts _ fl_X12_224) (fun _ h9 => h9) rfl dX12_next_118 ?_
            refine lv_iconst (v := 3) hx hb dX12_next_121 (by decide +kernel) ?_
            refine lv_icmp_ne (tgt := 149) hx hb dX12_next_122 (by decide +kernel) (fun c_23 => ?_) (fun c_23 => ?_)
            ·
              refine g5_loop (α := (Int32) × (Int64)) (fun (q : (Int32) × (Int64)) (ls : Array Slot) (H : Heap) (locs : List Loc) => match q with | (k149_to, k149_wo) => lv_has ls 1 [(0, .ref b_o)] ∧ va_P G.1 vwCl [(b_o, (oc12 u_th u_sa b_rf b_ro b_im b_ke u_fd b_tp u_td k8_fr k149_to 1 k149_wo u_fa u_bd u_nc b_nl u_co b_op b_ar u_le b_pi b_pa u_pd u_od b_ws b_hw u_la b_se b_re u_bk u_va u_su u_ce u_ho u_wy u_bt u_ps b_pt u_tg u_sn b_ip u_ic b_ah b_be b_me u_wd b_tr b_ld u_st b_wn u_id)), (b_tp, (arI G 400 v_tp))] H ∧ va_D A [(b_o, (oc12 u_th u_sa b_rf b_ro b_im b_ke u_fd b_tp u_td k8_fr k149_to 1 k149_wo u_fa u_bd u_nc b_nl u_co b_op b_ar u_le b_pi b_pa u_pd u_od b_ws b_hw u_la b_se b_re u_bk u_va u_su u_ce u_ho u_wy u_bt u_ps b_pt u_tg u_sn b_ip u_ic b_ah b_be b_me u_wd b_tr b_ld u_st b_wn u_id)), (b_tp, (arI G 400 v_tp))] ∧ va_S A s.heap H locs ∧ (0 ≤ k149_to.toInt ∧ k149_to.toInt ≤ 400) ∧ (k8_fr.toInt ≤ k149_to.toInt ∧ k149_to.toInt ≤ u_td.toInt) ∧ (WRP v_tp u_td.toInt.toNat k8_fr k149_to k149_wo)) (fun (q : (Int32) × (Int64)) => match q with | (k149_to, k149_wo) => Int.toNat (400 - k149_to.toInt)) (k8_fr, 0) ⟨lv_sub hl [0] rfl, hP, hD, hS, i_1, by omega, wrp_0 rfl (by decide +kernel)⟩ ?_
              rintro ⟨k149_to, k149_wo⟩ ls H locs ⟨hl, hP, hD, hS, (i_24 : 0 ≤ k149_to.toInt ∧ k149_to.toInt ≤ 400), (i_25 : k8_fr.toInt ≤ k149_to.toInt ∧ k149_to.toInt ≤ u_td.toInt), (i_26 : WRP v_tp u_td.toInt.toNat k8_fr k149_to k149_wo)⟩ ih_149_27
              replace hl : lv_has ls 1 [(0, .ref b_o)] := hl
              refine g5_rs [(b_o, (oc12 u_th u_sa b_rf b_ro b_im b_ke u_fd b_tp u_td k8_fr k149_to 1 k149_wo u_fa u_bd u_nc b_nl u_co b_op b_ar u_le b_pi b_pa u_pd u_od b_ws b_hw u_la b_se b_re u_bk u_va u_su u_ce u_ho u_wy u_bt u_ps b_pt u_tg u_sn b_ip u_ic b_ah b_be b_me u_wd b_tr b_ld u_st b_wn u_id)), (b_tp, (arI G 400 v_tp))] hP hD ?_
              clear hP hD
              intro hP hD
              refine lv_aload_n hx hb dX12_next_149 rfl (lv_at hl 0 rfl) ?_
              refine va_get (D := G.1) (ci := 12) (v := .int 1) (C := RX12) (T := TX12) (N := 52) hx hb hts inG_X12 hown hK hP 0 rfl rfl 11 (by decide +kernel) (hts _ fl_X12_224) (fun _ h9 => h9) rfl dX12_next_150 ?_
              refine lv_iconst (v := 1) hx hb dX12_next_153 (by decide +kernel) ?_
              refine lv_icmp_ne (tgt := 243) hx hb dX12_next_154 (by decide +kernel) (fun c_28 => ?_) (fun c_28 => ?_)
              ·
                exact absurd c_28 (by decide +kernel)
              ·
                refine lv_aload_n hx hb dX12_next_157 rfl (lv_at hl 0 rfl) ?_
                refine va_get (D := G.1) (ci := 12) (v := .int k149_to) (C := RX12) (T := TX12) (N := 52) hx hb hts inG_X12 hown hK hP 0 rfl rfl 10 (by decide +kernel) (hts _ fl_X12_202) (fun _ h9 => h9) rfl dX12_next_158 ?_
                refine lv_aload_n hx hb dX12_next_161 rfl (lv_at hl 0 rfl) ?_
                refine va_get (D := G.1) (ci := 12) (v := .int u_td) (C := RX12) (T := TX12) (N := 52) hx hb hts inG_X12 hown hK hP 0 rfl rfl 8 (by decide +kernel) (hts _ fl_X12_192) (fun _ h9 => h9) rfl dX12_next_162 ?_
                refine W.eq (g2 := F0 m 165 ls [.int u_td, .int k149_to]) rfl ?_
                refine lv_icmp_ge (tgt := 243) hx hb dX12_next_165 (by decide +kernel) (fun c_29 => ?_) (fun c_29 => ?_)
                ·
                  have i_29 : k149_to.toInt ≥ u_td.toInt := g5_ge (a := k149_to.toInt) (b := u_td.toInt) rfl rfl c_29
                  refine g5_loop (α := (Int32) × (Int64)) (fun (q : (Int32) × (Int64)) (ls : Array Slot) (H : Heap) (locs : List Loc) => match q with | (k243_to, k243_wo) => lv_has ls 1 [(0, .ref b_o)] ∧ va_P G.1 vwCl [(b_o, (oc12 u_th u_sa b_rf b_ro b_im b_ke u_fd b_tp u_td k8_fr k243_to 1 k243_wo u_fa u_bd u_nc b_nl u_co b_op b_ar u_le b_pi b_pa u_pd u_od b_ws b_hw u_la b_se b_re u_bk u_va u_su u_ce u_ho u_wy u_bt u_ps b_pt u_tg u_sn b_ip u_ic b_ah b_be b_me u_wd b_tr b_ld u_st b_wn u_id)), (b_tp, (arI G 400 v_tp))] H ∧ va_D A [(b_o, (oc12 u_th u_sa b_rf b_ro b_im b_ke u_fd b_tp u_td k8_fr k243_to 1 k243_wo u_fa u_bd u_nc b_nl u_co b_op b_ar u_le b_pi b_pa u_pd u_od b_ws b_hw u_la b_se b_re u_bk u_va u_su u_ce u_ho u_wy u_bt u_ps b_pt u_tg u_sn b_ip u_ic b_ah b_be b_me u_wd b_tr b_ld u_st b_wn u_id)), (b_tp, (arI G 400 v_tp))] ∧ va_S A s.heap H locs ∧ (0 ≤ k243_to.toInt ∧ k243_to.toInt ≤ 400) ∧ (k8_fr.toInt ≤ k243_to.toInt ∧ k243_to.toInt ≤ u_td.toInt) ∧ (TOKA v_tp u_td.toInt.toNat (skT v_tp u_td.toInt.toNat u_to.toInt.toNat) k8_fr k243_to (1 : Int32) k243_wo)) (fun (q : (Int32) × (Int64)) => match q with | (k243_to, k243_wo) => Int.toNat (400 - k243_to.toInt)) (k149_to, k149_wo) ⟨lv_sub hl [0] rfl, hP, hD, hS, i_24, by omega, (by have hf9 := (blp_end i_3 (by omega) (by first | exact Or.inl (by omega) | (unfold gNe at *; exact Or.inr (by omega)))); exact wrp_end i_26 hf9 (by omega) (by omega) i_20 (by decide +kernel) (Or.inl (by omega)))⟩ ?_
                  rintro ⟨k243_to, k243_wo⟩ ls H locs ⟨hl, hP, hD, hS, (i_30 : 0 ≤ k243_to.toInt ∧ k243_to.toInt ≤ 400), (i_31 : k8_fr.toInt ≤ k243_to.toInt ∧ k243_to.toInt ≤ u_td.toInt), (i_32 : TOKA v_tp u_td.toInt.toNat (skT v_tp u_td.toInt.toNat u_to.toInt.toNat) k8_fr k243_to (1 : Int32) k243_wo)⟩ ih_243_33
                  replace hl : lv_has ls 1 [(0, .ref b_o)] := hl
                  refine g5_rs [(b_o, (oc12 u_th u_sa b_rf b_ro b_im b_ke u_fd b_tp u_td k8_fr k243_to 1 k243_wo u_fa u_bd u_nc b_nl u_co b_op b_ar u_le b_pi b_pa u_pd u_od b_ws b_hw u_la b_se b_re u_bk u_va u_su u_ce u_ho u_wy u_bt u_ps b_pt u_tg u_sn b_ip u_ic b_ah b_be b_me u_wd b_tr b_ld u_st b_wn u_id)), (b_tp, (arI G 400 v_tp))] hP hD ?_
                  clear hP hD
                  intro hP hD
                  refine lv_aload_n hx hb dX12_next_243 rfl (lv_at hl 0 rfl) ?_
                  refine va_get (D := G.1) (ci := 12) (v := .int 1) (C := RX12) (T := TX12) (N := 52) hx hb hts inG_X12 hown hK hP 0 rfl rfl 11 (by decide +kernel) (hts _ fl_X12_224) (fun _ h9 => h9) rfl dX12_next_244 ?_
                  refine lv_iconst (v := 2) hx hb dX12_next_247 (by decide +kernel) ?_
                  refine lv_icmp_ne (tgt := 335) hx hb dX12_next_248 (by decide +kernel) (fun c_34 => ?_) (fun c_34 => ?_)
                  ·
                    exact W.vret hx hb hr (fun t ht hW => ⟨⟨[(b_o, (oc12 u_th u_sa b_rf b_ro b_im b_ke u_fd b_tp u_td k8_fr k243_to 1 k243_wo u_fa u_bd u_nc b_nl u_co b_op b_ar u_le b_pi b_pa u_pd u_od b_ws b_hw u_la b_se b_re u_bk u_va u_su u_ce u_ho u_wy u_bt u_ps b_pt u_tg u_sn b_ip u_ic b_ah b_be b_me u_wd b_tr b_ld u_st b_wn u_id)), (b_tp, (arI G 400 v_tp))], rfl, ⟨k8_fr, k243_to, 1, k243_wo, i_1, i_30, by omega, toka_tks (x := v_tp) (n := u_td.toInt.toNat) (i := (skT v_tp u_td.toInt.toNat u_to.toInt.toNat)) (wo := k243_wo) (i_32), i_32, rfl⟩, by rw [ht]; exact hP.sub [0, 1] rfl, hD.sub [0, 1] (by decide +kernel) rfl⟩, hS.F ht⟩) hS.2.2 dX12_next_335
                  ·
                    exact absurd c_34 (by decide +kernel)
                ·
                  have i_29 : k149_to.toInt < u_td.toInt := g5_geN (a := k149_to.toInt) (b := u_td.toInt) rfl rfl c_29
                  refine lv_aload_n hx hb dX12_next_168 rfl (lv_at hl 0 rfl) ?_
                  refine va_get (D := G.1) (ci := 12) (v := .ref b_tp) (C := RX12) (T := TX12) (N := 52) hx hb hts inG_X12 hown hK hP 0 rfl rfl 7 (by decide +kernel) (hts _ fl_X12_23) (fun _ h9 => h9) rfl dX12_next_169 ?_
                  refine lv_aload_n hx hb dX12_next_172 rfl (lv_at hl 0 rfl) ?_
                  refine va_get (D := G.1) (ci := 12) (v := .int k149_to) (C := RX12) (T := TX12) (N := 52) hx hb hts inG_X12 hown hK hP 0 rfl rfl 10 (by decide +kernel) (hts _ fl_X12_202) (fun _ h9 => h9) rfl dX12_next_173 ?_
                  refine W.eq (g2 := F0 m 176 ls [.int k149_to, .ref b_tp]) rfl ?_
                  refine va_iald hx hb hK hP 1 0 rfl rfl (i := k149_to) (vp_in_iff.mpr ⟨by omega, by omega⟩) dX12_next_176 ?_
                  obtain ⟨hPc, hDc, hFc⟩ := g5_sub3 (wc := []) hP hD hS hA [] (by decide +kernel) rfl
                  refine va_calli (va_runS (As := [.int (v_tp k149_to.toNatClampNeg)]) (rest := []) ⟨hx, hb, hml, hown, hts⟩ (n_isSmallX l G H.size (v_tp k149_to.toNatClampNeg)) (va_cwS 1 hts gS_X12_218 rfl rfl rfl hs_X12_isSmall ⟨Nat.le_of_ble_eq_true rfl, Nat.le_of_ble_eq_true rfl⟩) (g5_preS hPc hK hDc hN hT hS hFc) rfl rfl hl.1 rfl (lv_room (Nat.le_of_ble_eq_true rfl)) dX12_next_177 ⟨Nat.le_of_ble_eq_true rfl, Nat.le_of_ble_eq_true rfl⟩) hS (fun q _ h => hFc q h) hFc (fun r u t H locs ht hvm hw hB hz1 hk1 hS => ?_)
                  obtain ⟨hP1, hD1⟩ := hB
                  have hP1 := g5_ht ht hP1
                  rcases hw with ⟨(i_35 : 97 ≤ (v_tp k149_to.toNatClampNeg).toInt ∧ (v_tp k149_to.toNatClampNeg).toInt ≤ 122), rfl, rfl⟩ | ⟨(i_36 : (v_tp k149_to.toNatClampNeg).toInt < 97 ∨ 122 < (v_tp k149_to.toNatClampNeg).toInt), rfl, rfl⟩
                  ·
                    have hJ9 := g5_same hP hk1
                    clear hP hPc hDc hFc ht hvm hz1 hk1 hP1 hD1
                    have hP := hJ9
                    clear hJ9
                    refine lv_if_eq (tgt := 243) hx hb dX12_next_180 (by decide +kernel) (fun c_37 => ?_) (fun c_37 => ?_)
                    ·
                      exact absurd c_37 (by decide +kernel)
                    ·
                      refine lv_aload_n hx hb dX12_next_183 rfl (lv_at hl 0 rfl) ?_
                      refine lv_aload_n hx hb dX12_next_184 rfl (lv_at hl 0 rfl) ?_
                      refine va_get (D := G.1) (ci := 12) (v := .int k149_to) (C := RX12) (T := TX12) (N := 52) hx hb hts inG_X12 hown hK hP 0 rfl rfl 10 (by decide +kernel) (hts _ fl_X12_202) (fun _ h9 => h9) rfl dX12_next_185 ?_
                      refine lv_aload_n hx hb dX12_next_188 rfl (lv_at hl 0 rfl) ?_
                      refine W.eq (g2 := F0 m 189 ls [.ref b_o, .int k149_to, .ref b_o]) rfl ?_
                      refine va_get (D := G.1) (ci := 12) (v := .int k8_fr) (C := RX12) (T := TX12) (N := 52) hx hb hts inG_X12 hown hK hP 0 rfl rfl 9 (by decide +kernel) (hts _ fl_X12_211) (fun _ h9 => h9) rfl dX12_next_189 ?_
                      refine lv_isub hx hb dX12_next_192 ?_
                      have t_38 : (k149_to - k8_fr).toInt = k149_to.toInt - k8_fr.toInt := g5_isub (a := k149_to.toInt) (b := k8_fr.toInt) (by rfl) (by rfl) (by omega) (by omega)
                      refine lv_bipush (v := 10) hx hb dX12_next_193 (by decide +kernel) ?_
                      refine lv_icmp_ge (tgt := 224) hx hb dX12_next_195 (by decide +kernel) (fun c_39 => ?_) (fun c_39 => ?_)
                      ·
                        have i_39 : (k149_to.toInt - k8_fr.toInt) ≥ 10 := by have z := g5_ge (a := (k149_to - k8_fr).toInt) (b := 10) (by rfl) (by decide +kernel) c_39; omega
                        refine lv_ldc2 (v := (-1)) hx hb hown (hts _ kl_X12_178) dX12_next_224 ?_
                        refine va_put (D := G.1) (ci := 12) (v := .long (-1)) (ty := .long) (C := RX12) (T := TX12) (N := 52) hx hb hts inG_X12 tyX12 tyX12_ok nmX12 hown hK hP hD hS 0 rfl rfl 12 (by decide +kernel) (hts _ fl_X12_214) (fun _ h9 => h9) rfl (by decide +kernel) rfl rfl (Nat.le_of_ble_eq_true rfl) dX12_next_227 ?_
                        clear hP hD hS
                        intro H locs hP hD hS
                        refine g5_rs [(b_o, (oc12 u_th u_sa b_rf b_ro b_im b_ke u_fd b_tp u_td k8_fr k149_to 1 (-1) u_fa u_bd u_nc b_nl u_co b_op b_ar u_le b_pi b_pa u_pd u_od b_ws b_hw u_la b_se b_re u_bk u_va u_su u_ce u_ho u_wy u_bt u_ps b_pt u_tg u_sn b_ip u_ic b_ah b_be b_me u_wd b_tr b_ld u_st b_wn u_id)), (b_tp, (arI G 400 v_tp))] hP hD ?_
                        clear hP hD
                        intro hP hD
                        refine lv_aload_n hx hb dX12_next_230 rfl (lv_at hl 0 rfl) ?_
                        refine lv_dup hx hb dX12_next_231 rfl ?_
                        refine W.eq (g2 := F0 m 232 ls [.ref b_o, .ref b_o]) rfl ?_
                        refine va_get (D := G.1) (ci := 12) (v := .int k149_to) (C := RX12) (T := TX12) (N := 52) hx hb hts inG_X12 hown hK hP 0 rfl rfl 10 (by decide +kernel) (hts _ fl_X12_202) (fun _ h9 => h9) rfl dX12_next_232 ?_
                        refine lv_iconst (v := 1) hx hb dX12_next_235 (by decide +kernel) ?_
                        refine lv_iadd hx hb dX12_next_236 ?_
                        have t_40 : (k149_to + 1).toInt = k149_to.toInt + 1 := g5_iadd (a := k149_to.toInt) (b := 1) (by rfl) (by decide +kernel) (by omega) (by omega)
                        refine va_put (D := G.1) (ci := 12) (v := .int (k149_to + 1)) (ty := .int) (C := RX12) (T := TX12) (N := 52) hx hb hts inG_X12 tyX12 tyX12_ok nmX12 hown hK hP hD hS 0 rfl rfl 10 (by decide +kernel) (hts _ fl_X12_202) (fun _ h9 => h9) rfl (by decide +kernel) rfl rfl (Nat.le_of_ble_eq_true rfl) dX12_next_237 ?_
                        clear hP hD hS
                        intro H locs hP hD hS
                        refine g5_rs [(b_o, (oc12 u_th u_sa b_rf b_ro b_im b_ke u_fd b_tp u_td k8_fr (k149_to + 1) 1 (-1) u_fa u_bd u_nc b_nl u_co b_op b_ar u_le b_pi b_pa u_pd u_od b_ws b_hw u_la b_se b_re u_bk u_va u_su u_ce u_ho u_wy u_bt u_ps b_pt u_tg u_sn b_ip u_ic b_ah b_be b_me u_wd b_tr b_ld u_st b_wn u_id)), (b_tp, (arI G 400 v_tp))] hP hD ?_
                        clear hP hD
                        intro hP hD
                        refine lv_goto (tgt := 149) hx hb dX12_next_240 (by decide +kernel) ?_
                        exact ih_149_27 ((k149_to + 1), (-1)) ls H locs (show Int.toNat (400 - (k149_to + 1).toInt) < Int.toNat (400 - k149_to.toInt) from g_up (show k149_to.toInt < (k149_to + 1).toInt by omega) (show k149_to.toInt < 400 by omega)) ⟨lv_sub hl [0] rfl, hP, hD, hS, ⟨by omega, by omega⟩, by omega, wrp_S i_26 (by omega) (by omega) (by omega) i_35 (by omega) (by first | exact Or.inl ⟨by omega, rfl⟩ | exact Or.inr ⟨by omega, rfl⟩)⟩
                      ·
                        have i_39 : (k149_to.toInt - k8_fr.toInt) < 10 := by have z := g5_geN (a := (k149_to - k8_fr).toInt) (b := 10) (by rfl) (by decide +kernel) c_39; omega
                        refine lv_aload_n hx hb dX12_next_198 rfl (lv_at hl 0 rfl) ?_
                        refine va_get (D := G.1) (ci := 12) (v := .long k149_wo) (C := RX12) (T := TX12) (N := 52) hx hb hts inG_X12 hown hK hP 0 rfl rfl 12 (by decide +kernel) (hts _ fl_X12_214) (fun _ h9 => h9) rfl dX12_next_199 ?_
                        refine lv_ldc2 (v := 32) hx hb hown (hts _ kl_X12_227) dX12_next_202 ?_
                        refine lv_lmul hx hb dX12_next_205 ?_
                        refine W.eq (g2 := F0 m 206 ls [.long (k149_wo * 32), .ref b_o]) rfl ?_
                        refine lv_aload_n hx hb dX12_next_206 rfl (lv_at hl 0 rfl) ?_
                        refine va_get (D := G.1) (ci := 12) (v := .ref b_tp) (C := RX12) (T := TX12) (N := 52) hx hb hts inG_X12 hown hK hP 0 rfl rfl 7 (by decide +kernel) (hts _ fl_X12_23) (fun _ h9 => h9) rfl dX12_next_207 ?_
                        refine lv_aload_n hx hb dX12_next_210 rfl (lv_at hl 0 rfl) ?_
                        refine va_get (D := G.1) (ci := 12) (v := .int k149_to) (C := RX12) (T := TX12) (N := 52) hx hb hts inG_X12 hown hK hP 0 rfl rfl 10 (by decide +kernel) (hts _ fl_X12_202) (fun _ h9 => h9) rfl dX12_next_211 ?_
                        refine va_iald hx hb hK hP 1 0 rfl rfl (i := k149_to) (vp_in_iff.mpr ⟨by omega, by omega⟩) dX12_next_214 ?_
                        refine W.eq (g2 := F0 m 215 ls [.int (v_tp k149_to.toNatClampNeg), .long (k149_wo * 32), .ref b_o]) rfl ?_
                        refine lv_i2l (v := (v_tp k149_to.toNatClampNeg).toInt64) hx hb dX12_next_215 rfl ?_
                        refine lv_ladd hx hb dX12_next_216 ?_
                        refine lv_ldc2 (v := 96) hx hb hown (hts _ kl_X12_229) dX12_next_217 ?_
                        refine lv_lsub hx hb dX12_next_220 ?_
                        refine lv_goto (tgt := 227) hx hb dX12_next_221 (by decide +kernel) ?_
                        refine W.eq (g2 := F0 m 227 ls [.long (((k149_wo * 32) + ((v_tp k149_to.toNatClampNeg).toInt64)) - 96), .ref b_o]) rfl ?_
                        refine va_put (D := G.1) (ci := 12) (v := .long (((k149_wo * 32) + ((v_tp k149_to.toNatClampNeg).toInt64)) - 96)) (ty := .long) (C := RX12) (T := TX12) (N := 52) hx hb hts inG_X12 tyX12 tyX12_ok nmX12 hown hK hP hD hS 0 rfl rfl 12 (by decide +kernel) (hts _ fl_X12_214) (fun _ h9 => h9) rfl (by decide +kernel) rfl rfl (Nat.le_of_ble_eq_true rfl) dX12_next_227 ?_
                        clear hP hD hS
                        intro H locs hP hD hS
                        refine g5_rs [(b_o, (oc12 u_th u_sa b_rf b_ro b_im b_ke u_fd b_tp u_td k8_fr k149_to 1 (((k149_wo * 32) + ((v_tp k149_to.toNatClampNeg).toInt64)) - 96) u_fa u_bd u_nc b_nl u_co b_op b_ar u_le b_pi b_pa u_pd u_od b_ws b_hw u_la b_se b_re u_bk u_va u_su u_ce u_ho u_wy u_bt u_ps b_pt u_tg u_sn b_ip u_ic b_ah b_be b_me u_wd b_tr b_ld u_st b_wn u_id)), (b_tp, (arI G 400 v_tp))] hP hD ?_
                        clear hP hD
                        intro hP hD
                        refine lv_aload_n hx hb dX12_next_230 rfl (lv_at hl 0 rfl) ?_
                        refine lv_dup hx hb dX12_next_231 rfl ?_
                        refine va_get (D := G.1) (ci := 12) (v := .int k149_to) (C := RX12) (T := TX12) (N := 52) hx hb hts inG_X12 hown hK hP 0 rfl rfl 10 (by decide +kernel) (hts _ fl_X12_202) (fun _ h9 => h9) rfl dX12_next_232 ?_
                        refine lv_iconst (v := 1) hx hb dX12_next_235 (by decide +kernel) ?_
                        refine W.eq (g2 := F0 m 236 ls [.int 1, .int k149_to, .ref b_o]) rfl ?_
                        refine lv_iadd hx hb dX12_next_236 ?_
                        have t_41 : (k149_to + 1).toInt = k149_to.toInt + 1 := g5_iadd (a := k149_to.toInt) (b := 1) (by rfl) (by decide +kernel) (by omega) (by omega)
                        refine va_put (D := G.1) (ci := 12) (v := .int (k149_to + 1)) (ty := .int) (C := RX12) (T := TX12) (N := 52) hx hb hts inG_X12 tyX12 tyX12_ok nmX12 hown hK hP hD hS 0 rfl rfl 10 (by decide +kernel) (hts _ fl_X12_202) (fun _ h9 => h9) rfl (by decide +kernel) rfl rfl (Nat.le_of_ble_eq_true rfl) dX12_next_237 ?_
                        clear hP hD hS
                        intro H locs hP hD hS
                        refine g5_rs [(b_o, (oc12 u_th u_sa b_rf b_ro b_im b_ke u_fd b_tp u_td k8_fr (k149_to + 1) 1 (((k149_wo * 32) + ((v_tp k149_to.toNatClampNeg).toInt64)) - 96) u_fa u_bd u_nc b_nl u_co b_op b_ar u_le b_pi b_pa u_pd u_od b_ws b_hw u_la b_se b_re u_bk u_va u_su u_ce u_ho u_wy u_bt u_ps b_pt u_tg u_sn b_ip u_ic b_ah b_be b_me u_wd b_tr b_ld u_st b_wn u_id)), (b_tp, (arI G 400 v_tp))] hP hD ?_
                        clear hP hD
                        intro hP hD
                        refine lv_goto (tgt := 149) hx hb dX12_next_240 (by decide +kernel) ?_
                        exact ih_149_27 ((k149_to + 1), (((k149_wo * 32) + ((v_tp k149_to.toNatClampNeg).toInt64)) - 96)) ls H locs (show Int.toNat (400 - (k149_to + 1).toInt) < Int.toNat (400 - k149_to.toInt) from g_up (show k149_to.toInt < (k149_to + 1).toInt by omega) (show k149_to.toInt < 400 by omega)) ⟨lv_sub hl [0] rfl, hP, hD, hS, ⟨by omega, by omega⟩, by omega, wrp_S i_26 (by omega) (by omega) (by omega) i_35 (by omega) (by first | exact Or.inl ⟨by omega, rfl⟩ | exact Or.inr ⟨by omega, rfl⟩)⟩
                  ·
                    have hJ9 := g5_same hP hk1
                    clear hP hPc hDc hFc ht hvm hz1 hk1 hP1 hD1
                    have hP := hJ9
                    clear hJ9
                    refine lv_if_eq (tgt := 243) hx hb dX12_next_180 (by decide +kernel) (fun c_42 => ?_) (fun c_42 => ?_)
                    ·
                      refine g5_loop (α := (Int32) × (Int64)) (fun (q : (Int32) × (Int64)) (ls : Array Slot) (H : Heap) (locs : List Loc) => match q with | (k243_to, k243_wo) => lv_has ls 1 [(0, .ref b_o)] ∧ va_P G.1 vwCl [(b_o, (oc12 u_th u_sa b_rf b_ro b_im b_ke u_fd b_tp u_td k8_fr k243_to 1 k243_wo u_fa u_bd u_nc b_nl u_co b_op b_ar u_le b_pi b_pa u_pd u_od b_ws b_hw u_la b_se b_re u_bk u_va u_su u_ce u_ho u_wy u_bt u_ps b_pt u_tg u_sn b_ip u_ic b_ah b_be b_me u_wd b_tr b_ld u_st b_wn u_id)), (b_tp, (arI G 400 v_tp))] H ∧ va_D A [(b_o, (oc12 u_th u_sa b_rf b_ro b_im b_ke u_fd b_tp u_td k8_fr k243_to 1 k243_wo u_fa u_bd u_nc b_nl u_co b_op b_ar u_le b_pi b_pa u_pd u_od b_ws b_hw u_la b_se b_re u_bk u_va u_su u_ce u_ho u_wy u_bt u_ps b_pt u_tg u_sn b_ip u_ic b_ah b_be b_me u_wd b_tr b_ld u_st b_wn u_id)), (b_tp, (arI G 400 v_tp))] ∧ va_S A s.heap H locs ∧ (0 ≤ k243_to.toInt ∧ k243_to.toInt ≤ 400) ∧ (k8_fr.toInt ≤ k243_to.toInt ∧ k243_to.toInt ≤ u_td.toInt) ∧ (TOKA v_tp u_td.toInt.toNat (skT v_tp u_td.toInt.toNat u_to.toInt.toNat) k8_fr k243_to (1 : Int32) k243_wo)) (fun (q : (Int32) × (Int64)) => match q with | (k243_to, k243_wo) => Int.toNat (400 - k243_to.toInt)) (k149_to, k149_wo) ⟨lv_sub hl [0] rfl, hP, hD, hS, i_24, by omega, (by have hf9 := (blp_end i_3 (by omega) (by first | exact Or.inl (by omega) | (unfold gNe at *; exact Or.inr (by omega)))); exact wrp_end i_26 hf9 (by omega) (by omega) i_20 (by decide +kernel) (Or.inr i_36))⟩ ?_
                      rintro ⟨k243_to, k243_wo⟩ ls H locs ⟨hl, hP, hD, hS, (i_43 : 0 ≤ k243_to.toInt ∧ k243_to.toInt ≤ 400), (i_44 : k8_fr.toInt ≤ k243_to.toInt ∧ k243_to.toInt ≤ u_td.toInt), (i_45 : TOKA v_tp u_td.toInt.toNat (skT v_tp u_td.toInt.toNat u_to.toInt.toNat) k8_fr k243_to (1 : Int32) k243_wo)⟩ ih_243_46
                      replace hl : lv_has ls 1 [(0, .ref b_o)] := hl
                      refine g5_rs [(b_o, (oc12 u_th u_sa b_rf b_ro b_im b_ke u_fd b_tp u_td k8_fr k243_to 1 k243_wo u_fa u_bd u_nc b_nl u_co b_op b_ar u_le b_pi b_pa u_pd u_od b_ws b_hw u_la b_se b_re u_bk u_va u_su u_ce u_ho u_wy u_bt u_ps b_pt u_tg u_sn b_ip u_ic b_ah b_be b_me u_wd b_tr b_ld u_st b_wn u_id)), (b_tp, (arI G 400 v_tp))] hP hD ?_
                      clear hP hD
                      intro hP hD
                      refine lv_aload_n hx hb dX12_next_243 rfl (lv_at hl 0 rfl) ?_
                      refine va_get (D := G.1) (ci := 12) (v := .int 1) (C := RX12) (T := TX12) (N := 52) hx hb hts inG_X12 hown hK hP 0 rfl rfl 11 (by decide +kernel) (hts _ fl_X12_224) (fun _ h9 => h9) rfl dX12_next_244 ?_
                      refine lv_iconst (v := 2) hx hb dX12_next_247 (by decide +kernel) ?_
                      refine lv_icmp_ne (tgt := 335) hx hb dX12_next_248 (by decide +kernel) (fun c_47 => ?_) (fun c_47 => ?_)
                      ·
                        exact W.vret hx hb hr (fun t ht hW => ⟨⟨[(b_o, (oc12 u_th u_sa b_rf b_ro b_im b_ke u_fd b_tp u_td k8_fr k243_to 1 k243_wo u_fa u_bd u_nc b_nl u_co b_op b_ar u_le b_pi b_pa u_pd u_od b_ws b_hw u_la b_se b_re u_bk u_va u_su u_ce u_ho u_wy u_bt u_ps b_pt u_tg u_sn b_ip u_ic b_ah b_be b_me u_wd b_tr b_ld u_st b_wn u_id)), (b_tp, (arI G 400 v_tp))], rfl, ⟨k8_fr, k243_to, 1, k243_wo, i_1, i_43, by omega, toka_tks (x := v_tp) (n := u_td.toInt.toNat) (i := (skT v_tp u_td.toInt.toNat u_to.toInt.toNat)) (wo := k243_wo) (i_45), i_45, rfl⟩, by rw [ht]; exact hP.sub [0, 1] rfl, hD.sub [0, 1] (by decide +kernel) rfl⟩, hS.F ht⟩) hS.2.2 dX12_next_335
                      ·
                        exact absurd c_47 (by decide +kernel)
                    ·
                      exact absurd c_42 (by decide +kernel)
            ·
              exact absurd c_23 (by decide +kernel)
        ·
          have hJ9 := g5_same hP hk1
          clear hP hPc hDc hFc ht hvm hz1 hk1 hP1 hD1
          have hP := hJ9
          clear hJ9
          refine lv_if_eq (tgt := 94) hx hb dX12_next_87 (by decide +kernel) (fun c_48 => ?_) (fun c_48 => ?_)
          ·
            refine lv_aload_n hx hb dX12_next_94 rfl (lv_at hl 0 rfl) ?_
            refine va_get (D := G.1) (ci := 12) (v := .ref b_tp) (C := RX12) (T := TX12) (N := 52) hx hb hts inG_X12 hown hK hP 0 rfl rfl 7 (by decide +kernel) (hts _ fl_X12_23) (fun _ h9 => h9) rfl dX12_next_95 ?_
            refine lv_aload_n hx hb dX12_next_98 rfl (lv_at hl 0 rfl) ?_
            refine va_get (D := G.1) (ci := 12) (v := .int k8_fr) (C := RX12) (T := TX12) (N := 52) hx hb hts inG_X12 hown hK hP 0 rfl rfl 9 (by decide +kernel) (hts _ fl_X12_211) (fun _ h9 => h9) rfl dX12_next_99 ?_
            refine W.eq (g2 := F0 m 102 ls [.int k8_fr, .ref b_tp, .ref b_o]) rfl ?_
            refine va_iald hx hb hK hP 1 0 rfl rfl (i := k8_fr) (vp_in_iff.mpr ⟨by omega, by omega⟩) dX12_next_102 ?_
            obtain ⟨hPc, hDc, hFc⟩ := g5_sub3 (wc := []) hP hD hS hA [] (by decide +kernel) rfl
            refine va_calli (va_runS (As := [.int (v_tp k8_fr.toNatClampNeg)]) (rest := [.ref b_o]) ⟨hx, hb, hml, hown, hts⟩ (n_isDigitX l G H.size (v_tp k8_fr.toNatClampNeg)) (va_cwS 1 hts gS_X12_221 rfl rfl rfl hs_X12_isDigit ⟨Nat.le_of_ble_eq_true rfl, Nat.le_of_ble_eq_true rfl⟩) (g5_preS hPc hK hDc hN hT hS hFc) rfl rfl hl.1 rfl (lv_room (Nat.le_of_ble_eq_true rfl)) dX12_next_103 ⟨Nat.le_of_ble_eq_true rfl, Nat.le_of_ble_eq_true rfl⟩) hS (fun q _ h => hFc q h) hFc (fun r u t H locs ht hvm hw hB hz1 hk1 hS => ?_)
            obtain ⟨hP1, hD1⟩ := hB
            have hP1 := g5_ht ht hP1
            rcases hw with ⟨(i_49 : 48 ≤ (v_tp k8_fr.toNatClampNeg).toInt ∧ (v_tp k8_fr.toNatClampNeg).toInt ≤ 57), rfl, rfl⟩ | ⟨(i_50 : (v_tp k8_fr.toNatClampNeg).toInt < 48 ∨ 57 < (v_tp k8_fr.toNatClampNeg).toInt), rfl, rfl⟩
            ·
              have hJ9 := g5_same hP hk1
              clear hP hPc hDc hFc ht hvm hz1 hk1 hP1 hD1
              have hP := hJ9
              clear hJ9
              refine lv_if_eq (tgt := 113) hx hb dX12_next_106 (by decide +kernel) (fun c_51 => ?_) (fun c_51 => ?_)
              ·
                exact absurd c_51 (by decide +kernel)
              ·
                refine lv_iconst (v := 2) hx hb dX12_next_109 (by decide +kernel) ?_
                refine lv_goto (tgt := 114) hx hb dX12_next_110 (by decide +kernel) ?_
                refine va_put (D := G.1) (ci := 12) (v := .int 2) (ty := .int) (C := RX12) (T := TX12) (N := 52) hx hb hts inG_X12 tyX12 tyX12_ok nmX12 hown hK hP hD hS 0 rfl rfl 11 (by decide +kernel) (hts _ fl_X12_224) (fun _ h9 => h9) rfl (by decide +kernel) rfl rfl (Nat.le_of_ble_eq_true rfl) dX12_next_114 ?_
                clear hP hD hS
                intro H locs hP hD hS
                refine g5_rs [(b_o, (oc12 u_th u_sa b_rf b_ro b_im b_ke u_fd b_tp u_td k8_fr k8_fr 2 0 u_fa u_bd u_nc b_nl u_co b_op b_ar u_le b_pi b_pa u_pd u_od b_ws b_hw u_la b_se b_re u_bk u_va u_su u_ce u_ho u_wy u_bt u_ps b_pt u_tg u_sn b_ip u_ic b_ah b_be b_me u_wd b_tr b_ld u_st b_wn u_id)), (b_tp, (arI G 400 v_tp))] hP hD ?_
                clear hP hD
                intro hP hD
                refine lv_aload_n hx hb dX12_next_117 rfl (lv_at hl 0 rfl) ?_
                refine W.eq (g2 := F0 m 118 ls [.ref b_o]) rfl ?_
                refine va_get (D := G.1) (ci := 12) (v := .int 2) (C := RX12) (T := TX12) (N := 52) hx hb hts inG_X12 hown hK hP 0 rfl rfl 11 (by decide +kernel) (hts _ fl_X12_224) (fun _ h9 => h9) rfl dX12_next_118 ?_
                refine lv_iconst (v := 3) hx hb dX12_next_121 (by decide +kernel) ?_
                refine lv_icmp_ne (tgt := 149) hx hb dX12_next_122 (by decide +kernel) (fun c_52 => ?_) (fun c_52 => ?_)
                ·
                  refine g5_loop (α := (Int32) × (Int64)) (fun (q : (Int32) × (Int64)) (ls : Array Slot) (H : Heap) (locs : List Loc) => match q with | (k149_to, k149_wo) => lv_has ls 1 [(0, .ref b_o)] ∧ va_P G.1 vwCl [(b_o, (oc12 u_th u_sa b_rf b_ro b_im b_ke u_fd b_tp u_td k8_fr k149_to 2 k149_wo u_fa u_bd u_nc b_nl u_co b_op b_ar u_le b_pi b_pa u_pd u_od b_ws b_hw u_la b_se b_re u_bk u_va u_su u_ce u_ho u_wy u_bt u_ps b_pt u_tg u_sn b_ip u_ic b_ah b_be b_me u_wd b_tr b_ld u_st b_wn u_id)), (b_tp, (arI G 400 v_tp))] H ∧ va_D A [(b_o, (oc12 u_th u_sa b_rf b_ro b_im b_ke u_fd b_tp u_td k8_fr k149_to 2 k149_wo u_fa u_bd u_nc b_nl u_co b_op b_ar u_le b_pi b_pa u_pd u_od b_ws b_hw u_la b_se b_re u_bk u_va u_su u_ce u_ho u_wy u_bt u_ps b_pt u_tg u_sn b_ip u_ic b_ah b_be b_me u_wd b_tr b_ld u_st b_wn u_id)), (b_tp, (arI G 400 v_tp))] ∧ va_S A s.heap H locs ∧ (0 ≤ k149_to.toInt ∧ k149_to.toInt ≤ 400) ∧ (k8_fr.toInt ≤ k149_to.toInt ∧ k149_to.toInt ≤ u_td.toInt) ∧ (k149_to.toInt = k8_fr.toInt) ∧ (k149_wo.toInt = 0)) (fun (q : (Int32) × (Int64)) => match q with | (k149_to, k149_wo) => Int.toNat (400 - k149_to.toInt)) (k8_fr, 0) ⟨lv_sub hl [0] rfl, hP, hD, hS, i_1, by omega, by omega, by decide⟩ ?_
                  rintro ⟨k149_to, k149_wo⟩ ls H locs ⟨hl, hP, hD, hS, (i_53 : 0 ≤ k149_to.toInt ∧ k149_to.toInt ≤ 400), (i_54 : k8_fr.toInt ≤ k149_to.toInt ∧ k149_to.toInt ≤ u_td.toInt), (i_55 : k149_to.toInt = k8_fr.toInt), (i_56 : k149_wo.toInt = 0)⟩ ih_149_57
                  replace hl : lv_has ls 1 [(0, .ref b_o)] := hl
                  refine g5_rs [(b_o, (oc12 u_th u_sa b_rf b_ro b_im b_ke u_fd b_tp u_td k8_fr k149_to 2 k149_wo u_fa u_bd u_nc b_nl u_co b_op b_ar u_le b_pi b_pa u_pd u_od b_ws b_hw u_la b_se b_re u_bk u_va u_su u_ce u_ho u_wy u_bt u_ps b_pt u_tg u_sn b_ip u_ic b_ah b_be b_me u_wd b_tr b_ld u_st b_wn u_id)), (b_tp, (arI G 400 v_tp))] hP hD ?_
                  clear hP hD
                  intro hP hD
                  refine lv_aload_n hx hb dX12_next_149 rfl (lv_at hl 0 rfl) ?_
                  refine va_get (D := G.1) (ci := 12) (v := .int 2) (C := RX12) (T := TX12) (N := 52) hx hb hts inG_X12 hown hK hP 0 rfl rfl 11 (by decide +kernel) (hts _ fl_X12_224) (fun _ h9 => h9) rfl dX12_next_150 ?_
                  refine lv_iconst (v := 1) hx hb dX12_next_153 (by decide +kernel) ?_
                  refine lv_icmp_ne (tgt := 243) hx hb dX12_next_154 (by decide +kernel) (fun c_58 => ?_) (fun c_58 => ?_)
                  ·
                    refine g5_loop (α := (Int32) × (Int64)) (fun (q : (Int32) × (Int64)) (ls : Array Slot) (H : Heap) (locs : List Loc) => match q with | (k243_to, k243_wo) => lv_has ls 1 [(0, .ref b_o)] ∧ va_P G.1 vwCl [(b_o, (oc12 u_th u_sa b_rf b_ro b_im b_ke u_fd b_tp u_td k8_fr k243_to 2 k243_wo u_fa u_bd u_nc b_nl u_co b_op b_ar u_le b_pi b_pa u_pd u_od b_ws b_hw u_la b_se b_re u_bk u_va u_su u_ce u_ho u_wy u_bt u_ps b_pt u_tg u_sn b_ip u_ic b_ah b_be b_me u_wd b_tr b_ld u_st b_wn u_id)), (b_tp, (arI G 400 v_tp))] H ∧ va_D A [(b_o, (oc12 u_th u_sa b_rf b_ro b_im b_ke u_fd b_tp u_td k8_fr k243_to 2 k243_wo u_fa u_bd u_nc b_nl u_co b_op b_ar u_le b_pi b_pa u_pd u_od b_ws b_hw u_la b_se b_re u_bk u_va u_su u_ce u_ho u_wy u_bt u_ps b_pt u_tg u_sn b_ip u_ic b_ah b_be b_me u_wd b_tr b_ld u_st b_wn u_id)), (b_tp, (arI G 400 v_tp))] ∧ va_S A s.heap H locs ∧ (0 ≤ k243_to.toInt ∧ k243_to.toInt ≤ 400) ∧ (k8_fr.toInt ≤ k243_to.toInt ∧ k243_to.toInt ≤ u_td.toInt) ∧ (DGP v_tp u_td.toInt.toNat k8_fr k243_to k243_wo)) (fun (q : (Int32) × (Int64)) => match q with | (k243_to, k243_wo) => Int.toNat (400 - k243_to.toInt)) (k149_to, k149_wo) ⟨lv_sub hl [0] rfl, hP, hD, hS, i_53, by omega, dgp_0 (by omega) (by omega)⟩ ?_
                    rintro ⟨k243_to, k243_wo⟩ ls H locs ⟨hl, hP, hD, hS, (i_59 : 0 ≤ k243_to.toInt ∧ k243_to.toInt ≤ 400), (i_60 : k8_fr.toInt ≤ k243_to.toInt ∧ k243_to.toInt ≤ u_td.toInt), (i_61 : DGP v_tp u_td.toInt.toNat k8_fr k243_to k243_wo)⟩ ih_243_62
                    replace hl : lv_has ls 1 [(0, .ref b_o)] := hl
                    refine g5_rs [(b_o, (oc12 u_th u_sa b_rf b_ro b_im b_ke u_fd b_tp u_td k8_fr k243_to 2 k243_wo u_fa u_bd u_nc b_nl u_co b_op b_ar u_le b_pi b_pa u_pd u_od b_ws b_hw u_la b_se b_re u_bk u_va u_su u_ce u_ho u_wy u_bt u_ps b_pt u_tg u_sn b_ip u_ic b_ah b_be b_me u_wd b_tr b_ld u_st b_wn u_id)), (b_tp, (arI G 400 v_tp))] hP hD ?_
                    clear hP hD
                    intro hP hD
                    refine lv_aload_n hx hb dX12_next_243 rfl (lv_at hl 0 rfl) ?_
                    refine va_get (D := G.1) (ci := 12) (v := .int 2) (C := RX12) (T := TX12) (N := 52) hx hb hts inG_X12 hown hK hP 0 rfl rfl 11 (by decide +kernel) (hts _ fl_X12_224) (fun _ h9 => h9) rfl dX12_next_244 ?_
                    refine lv_iconst (v := 2) hx hb dX12_next_247 (by decide +kernel) ?_
                    refine lv_icmp_ne (tgt := 335) hx hb dX12_next_248 (by decide +kernel) (fun c_63 => ?_) (fun c_63 => ?_)
                    ·
                      exact absurd c_63 (by decide +kernel)
                    ·
                      refine lv_aload_n hx hb dX12_next_251 rfl (lv_at hl 0 rfl) ?_
                      refine va_get (D := G.1) (ci := 12) (v := .int k243_to) (C := RX12) (T := TX12) (N := 52) hx hb hts inG_X12 hown hK hP 0 rfl rfl 10 (by decide +kernel) (hts _ fl_X12_202) (fun _ h9 => h9) rfl dX12_next_252 ?_
                      refine lv_aload_n hx hb dX12_next_255 rfl (lv_at hl 0 rfl) ?_
                      refine va_get (D := G.1) (ci := 12) (v := .int u_td) (C := RX12) (T := TX12) (N := 52) hx hb hts inG_X12 hown hK hP 0 rfl rfl 8 (by decide +kernel) (hts _ fl_X12_192) (fun _ h9 => h9) rfl dX12_next_256 ?_
                      refine W.eq (g2 := F0 m 259 ls [.int u_td, .int k243_to]) rfl ?_
                      refine lv_icmp_ge (tgt := 335) hx hb dX12_next_259 (by decide +kernel) (fun c_64 => ?_) (fun c_64 => ?_)
                      ·
                        have i_64 : k243_to.toInt ≥ u_td.toInt := g5_ge (a := k243_to.toInt) (b := u_td.toInt) rfl rfl c_64
                        exact W.vret hx hb hr (fun t ht hW => ⟨⟨[(b_o, (oc12 u_th u_sa b_rf b_ro b_im b_ke u_fd b_tp u_td k8_fr k243_to 2 k243_wo u_fa u_bd u_nc b_nl u_co b_op b_ar u_le b_pi b_pa u_pd u_od b_ws b_hw u_la b_se b_re u_bk u_va u_su u_ce u_ho u_wy u_bt u_ps b_pt u_tg u_sn b_ip u_ic b_ah b_be b_me u_wd b_tr b_ld u_st b_wn u_id)), (b_tp, (arI G 400 v_tp))], rfl, ⟨k8_fr, k243_to, 2, k243_wo, i_1, i_59, by omega, toka_tks (x := v_tp) (n := u_td.toInt.toNat) (i := (skT v_tp u_td.toInt.toNat u_to.toInt.toNat)) (wo := k243_wo) ((by have hf9 := (blp_end i_3 (by omega) (by first | exact Or.inl (by omega) | (unfold gNe at *; exact Or.inr (by omega)))); exact dgp_end i_61 hf9 (by omega) (by omega) i_49 (by decide +kernel) (Or.inl (by omega)))), (by have hf9 := (blp_end i_3 (by omega) (by first | exact Or.inl (by omega) | (unfold gNe at *; exact Or.inr (by omega)))); exact dgp_end i_61 hf9 (by omega) (by omega) i_49 (by decide +kernel) (Or.inl (by omega))), rfl⟩, by rw [ht]; exact hP.sub [0, 1] rfl, hD.sub [0, 1] (by decide +kernel) rfl⟩, hS.F ht⟩) hS.2.2 dX12_next_335
                      ·
                        have i_64 : k243_to.toInt < u_td.toInt := g5_geN (a := k243_to.toInt) (b := u_td.toInt) rfl rfl c_64
                        refine lv_aload_n hx hb dX12_next_262 rfl (lv_at hl 0 rfl) ?_
                        refine va_get (D := G.1) (ci := 12) (v := .ref b_tp) (C := RX12) (T := TX12) (N := 52) hx hb hts inG_X12 hown hK hP 0 rfl rfl 7 (by decide +kernel) (hts _ fl_X12_23) (fun _ h9 => h9) rfl dX12_next_263 ?_
                        refine lv_aload_n hx hb dX12_next_266 rfl (lv_at hl 0 rfl) ?_
                        refine va_get (D := G.1) (ci := 12) (v := .int k243_to) (C := RX12) (T := TX12) (N := 52) hx hb hts inG_X12 hown hK hP 0 rfl rfl 10 (by decide +kernel) (hts _ fl_X12_202) (fun _ h9 => h9) rfl dX12_next_267 ?_
                        refine W.eq (g2 := F0 m 270 ls [.int k243_to, .ref b_tp]) rfl ?_
                        refine va_iald hx hb hK hP 1 0 rfl rfl (i := k243_to) (vp_in_iff.mpr ⟨by omega, by omega⟩) dX12_next_270 ?_
                        obtain ⟨hPc, hDc, hFc⟩ := g5_sub3 (wc := []) hP hD hS hA [] (by decide +kernel) rfl
                        refine va_calli (va_runS (As := [.int (v_tp k243_to.toNatClampNeg)]) (rest := []) ⟨hx, hb, hml, hown, hts⟩ (n_isDigitX l G H.size (v_tp k243_to.toNatClampNeg)) (va_cwS 1 hts gS_X12_221 rfl rfl rfl hs_X12_isDigit ⟨Nat.le_of_ble_eq_true rfl, Nat.le_of_ble_eq_true rfl⟩) (g5_preS hPc hK hDc hN hT hS hFc) rfl rfl hl.1 rfl (lv_room (Nat.le_of_ble_eq_true rfl)) dX12_next_271 ⟨Nat.le_of_ble_eq_true rfl, Nat.le_of_ble_eq_true rfl⟩) hS (fun q _ h => hFc q h) hFc (fun r u t H locs ht hvm hw hB hz1 hk1 hS => ?_)
                        obtain ⟨hP1, hD1⟩ := hB
                        have hP1 := g5_ht ht hP1
                        rcases hw with ⟨(i_65 : 48 ≤ (v_tp k243_to.toNatClampNeg).toInt ∧ (v_tp k243_to.toNatClampNeg).toInt ≤ 57), rfl, rfl⟩ | ⟨(i_66 : (v_tp k243_to.toNatClampNeg).toInt < 48 ∨ 57 < (v_tp k243_to.toNatClampNeg).toInt), rfl, rfl⟩
                        ·
                          have hJ9 := g5_same hP hk1
                          clear hP hPc hDc hFc ht hvm hz1 hk1 hP1 hD1
                          have hP := hJ9
                          clear hJ9
                          refine lv_if_eq (tgt := 335) hx hb dX12_next_274 (by decide +kernel) (fun c_67 => ?_) (fun c_67 => ?_)
                          ·
                            exact absurd c_67 (by decide +kernel)
                          ·
                            refine lv_aload_n hx hb dX12_next_277 rfl (lv_at hl 0 rfl) ?_
                            refine lv_aload_n hx hb dX12_next_278 rfl (lv_at hl 0 rfl) ?_
                            refine va_get (D := G.1) (ci := 12) (v := .long k243_wo) (C := RX12) (T := TX12) (N := 52) hx hb hts inG_X12 hown hK hP 0 rfl rfl 12 (by decide +kernel) (hts _ fl_X12_214) (fun _ h9 => h9) rfl dX12_next_279 ?_
                            refine lv_ldc2 (v := 1000000) hx hb hown (hts _ kl_X12_190) dX12_next_282 ?_
                            refine W.eq (g2 := F0 m 285 ls [.long 1000000, .long k243_wo, .ref b_o]) rfl ?_
                            have tl_68 : (1000000 : Int64).toInt = 1000000 := (by decide +kernel)
                            have tc_69 := g5_cmpI k243_wo (1000000 : Int64)
                            refine W.lcmp hx hb dX12_next_285 ?_
                            refine lv_if_le (tgt := 296) hx hb dX12_next_286 (by decide +kernel) (fun c_70 => ?_) (fun c_70 => ?_)
                            ·
                              have i_70 : (lg_cmp k243_wo 1000000).toInt ≤ 0 := g5_le (a := (lg_cmp k243_wo 1000000).toInt) (b := 0) rfl (by decide +kernel) c_70
                              refine lv_aload_n hx hb dX12_next_296 rfl (lv_at hl 0 rfl) ?_
                              refine va_get (D := G.1) (ci := 12) (v := .long k243_wo) (C := RX12) (T := TX12) (N := 52) hx hb hts inG_X12 hown hK hP 0 rfl rfl 12 (by decide +kernel) (hts _ fl_X12_214) (fun _ h9 => h9) rfl dX12_next_297 ?_
                              refine lv_ldc2 (v := 10) hx hb hown (hts _ kl_X12_156) dX12_next_300 ?_
                              refine lv_lmul hx hb dX12_next_303 ?_
                              refine W.eq (g2 := F0 m 304 ls [.long (k243_wo * 10), .ref b_o]) rfl ?_
                              refine lv_aload_n hx hb dX12_next_304 rfl (lv_at hl 0 rfl) ?_
                              refine va_get (D := G.1) (ci := 12) (v := .ref b_tp) (C := RX12) (T := TX12) (N := 52) hx hb hts inG_X12 hown hK hP 0 rfl rfl 7 (by decide +kernel) (hts _ fl_X12_23) (fun _ h9 => h9) rfl dX12_next_305 ?_
                              refine lv_aload_n hx hb dX12_next_308 rfl (lv_at hl 0 rfl) ?_
                              refine va_get (D := G.1) (ci := 12) (v := .int k243_to) (C := RX12) (T := TX12) (N := 52) hx hb hts inG_X12 hown hK hP 0 rfl rfl 10 (by decide +kernel) (hts _ fl_X12_202) (fun _ h9 => h9) rfl dX12_next_309 ?_
                              refine va_iald hx hb hK hP 1 0 rfl rfl (i := k243_to) (vp_in_iff.mpr ⟨by omega, by omega⟩) dX12_next_312 ?_
                              refine W.eq (g2 := F0 m 313 ls [.int (v_tp k243_to.toNatClampNeg), .long (k243_wo * 10), .ref b_o]) rfl ?_
                              refine lv_i2l (v := (v_tp k243_to.toNatClampNeg).toInt64) hx hb dX12_next_313 rfl ?_
                              refine lv_ladd hx hb dX12_next_314 ?_
                              refine lv_ldc2 (v := 48) hx hb hown (hts _ kl_X12_231) dX12_next_315 ?_
                              refine lv_lsub hx hb dX12_next_318 ?_
                              refine va_put (D := G.1) (ci := 12) (v := .long (((k243_wo * 10) + ((v_tp k243_to.toNatClampNeg).toInt64)) - 48)) (ty := .long) (C := RX12) (T := TX12) (N := 52) hx hb hts inG_X12 tyX12 tyX12_ok nmX12 hown hK hP hD hS 0 rfl rfl 12 (by decide +kernel) (hts _ fl_X12_214) (fun _ h9 => h9) rfl (by decide +kernel) rfl rfl (Nat.le_of_ble_eq_true rfl) dX12_next_319 ?_
                              clear hP hD hS
                              intro H locs hP hD hS
                              refine g5_rs [(b_o, (oc12 u_th u_sa b_rf b_ro b_im b_ke u_fd b_tp u_td k8_fr k243_to 2 (((k243_wo * 10) + ((v_tp k243_to.toNatClampNeg).toInt64)) - 48) u_fa u_bd u_nc b_nl u_co b_op b_ar u_le b_pi b_pa u_pd u_od b_ws b_hw u_la b_se b_re u_bk u_va u_su u_ce u_ho u_wy u_bt u_ps b_pt u_tg u_sn b_ip u_ic b_ah b_be b_me u_wd b_tr b_ld u_st b_wn u_id)), (b_tp, (arI G 400 v_tp))] hP hD ?_
                              clear hP hD
                              intro hP hD
                              refine W.eq (g2 := F0 m 322 ls []) rfl ?_
                              refine lv_aload_n hx hb dX12_next_322 rfl (lv_at hl 0 rfl) ?_
                              refine lv_dup hx hb dX12_next_323 rfl ?_
                              refine va_get (D := G.1) (ci := 12) (v := .int k243_to) (C := RX12) (T := TX12) (N := 52) hx hb hts inG_X12 hown hK hP 0 rfl rfl 10 (by decide +kernel) (hts _ fl_X12_202) (fun _ h9 => h9) rfl dX12_next_324 ?_
                              refine lv_iconst (v := 1) hx hb dX12_next_327 (by decide +kernel) ?_
                              refine lv_iadd hx hb dX12_next_328 ?_
                              have t_71 : (k243_to + 1).toInt = k243_to.toInt + 1 := g5_iadd (a := k243_to.toInt) (b := 1) (by rfl) (by decide +kernel) (by omega) (by omega)
                              refine W.eq (g2 := F0 m 329 ls [.int (k243_to + 1), .ref b_o]) rfl ?_
                              refine va_put (D := G.1) (ci := 12) (v := .int (k243_to + 1)) (ty := .int) (C := RX12) (T := TX12) (N := 52) hx hb hts inG_X12 tyX12 tyX12_ok nmX12 hown hK hP hD hS 0 rfl rfl 10 (by decide +kernel) (hts _ fl_X12_202) (fun _ h9 => h9) rfl (by decide +kernel) rfl rfl (Nat.le_of_ble_eq_true rfl) dX12_next_329 ?_
                              clear hP hD hS
                              intro H locs hP hD hS
                              refine g5_rs [(b_o, (oc12 u_th u_sa b_rf b_ro b_im b_ke u_fd b_tp u_td k8_fr (k243_to + 1) 2 (((k243_wo * 10) + ((v_tp k243_to.toNatClampNeg).toInt64)) - 48) u_fa u_bd u_nc b_nl u_co b_op b_ar u_le b_pi b_pa u_pd u_od b_ws b_hw u_la b_se b_re u_bk u_va u_su u_ce u_ho u_wy u_bt u_ps b_pt u_tg u_sn b_ip u_ic b_ah b_be b_me u_wd b_tr b_ld u_st b_wn u_id)), (b_tp, (arI G 400 v_tp))] hP hD ?_
                              clear hP hD
                              intro hP hD
                              refine lv_goto (tgt := 243) hx hb dX12_next_332 (by decide +kernel) ?_
                              exact ih_243_62 ((k243_to + 1), (((k243_wo * 10) + ((v_tp k243_to.toNatClampNeg).toInt64)) - 48)) ls H locs (show Int.toNat (400 - (k243_to + 1).toInt) < Int.toNat (400 - k243_to.toInt) from g_up (show k243_to.toInt < (k243_to + 1).toInt by omega) (show k243_to.toInt < 400 by omega)) ⟨lv_sub hl [0] rfl, hP, hD, hS, ⟨by omega, by omega⟩, by omega, dgp_S i_61 (by omega) (by omega) (by omega) i_65 (by omega) (by first | exact Or.inl ⟨by omega, rfl⟩ | exact Or.inr ⟨by omega, rfl⟩)⟩
                            ·
                              have i_70 : (lg_cmp k243_wo 1000000).toInt > 0 := g5_leN (a := (lg_cmp k243_wo 1000000).toInt) (b := 0) rfl (by decide +kernel) c_70
                              refine lv_aload_n hx hb dX12_next_289 rfl (lv_at hl 0 rfl) ?_
                              refine va_get (D := G.1) (ci := 12) (v := .long k243_wo) (C := RX12) (T := TX12) (N := 52) hx hb hts inG_X12 hown hK hP 0 rfl rfl 12 (by decide +kernel) (hts _ fl_X12_214) (fun _ h9 => h9) rfl dX12_next_290 ?_
                              refine lv_goto (tgt := 319) hx hb dX12_next_293 (by decide +kernel) ?_
                              refine va_put (D := G.1) (ci := 12) (v := .long k243_wo) (ty := .long) (C := RX12) (T := TX12) (N := 52) hx hb hts inG_X12 tyX12 tyX12_ok nmX12 hown hK hP hD hS 0 rfl rfl 12 (by decide +kernel) (hts _ fl_X12_214) (fun _ h9 => h9) rfl (by decide +kernel) rfl rfl (Nat.le_of_ble_eq_true rfl) dX12_next_319 ?_
                              clear hP hD hS
                              intro H locs hP hD hS
                              refine g5_rs [(b_o, (oc12 u_th u_sa b_rf b_ro b_im b_ke u_fd b_tp u_td k8_fr k243_to 2 k243_wo u_fa u_bd u_nc b_nl u_co b_op b_ar u_le b_pi b_pa u_pd u_od b_ws b_hw u_la b_se b_re u_bk u_va u_su u_ce u_ho u_wy u_bt u_ps b_pt u_tg u_sn b_ip u_ic b_ah b_be b_me u_wd b_tr b_ld u_st b_wn u_id)), (b_tp, (arI G 400 v_tp))] hP hD ?_
                              clear hP hD
                              intro hP hD
                              refine W.eq (g2 := F0 m 322 ls []) rfl ?_
                              refine lv_aload_n hx hb dX12_next_322 rfl (lv_at hl 0 rfl) ?_
                              refine lv_dup hx hb dX12_next_323 rfl ?_
                              refine va_get (D := G.1) (ci := 12) (v := .int k243_to) (C := RX12) (T := TX12) (N := 52) hx hb hts inG_X12 hown hK hP 0 rfl rfl 10 (by decide +kernel) (hts _ fl_X12_202) (fun _ h9 => h9) rfl dX12_next_324 ?_
                              refine lv_iconst (v := 1) hx hb dX12_next_327 (by decide +kernel) ?_
                              refine lv_iadd hx hb dX12_next_328 ?_
                              have t_72 : (k243_to + 1).toInt = k243_to.toInt + 1 := g5_iadd (a := k243_to.toInt) (b := 1) (by rfl) (by decide +kernel) (by omega) (by omega)
                              refine W.eq (g2 := F0 m 329 ls [.int (k243_to + 1), .ref b_o]) rfl ?_
                              refine va_put (D := G.1) (ci := 12) (v := .int (k243_to + 1)) (ty := .int) (C := RX12) (T := TX12) (N := 52) hx hb hts inG_X12 tyX12 tyX12_ok nmX12 hown hK hP hD hS 0 rfl rfl 10 (by decide +kernel) (hts _ fl_X12_202) (fun _ h9 => h9) rfl (by decide +kernel) rfl rfl (Nat.le_of_ble_eq_true rfl) dX12_next_329 ?_
                              clear hP hD hS
                              intro H locs hP hD hS
                              refine g5_rs [(b_o, (oc12 u_th u_sa b_rf b_ro b_im b_ke u_fd b_tp u_td k8_fr (k243_to + 1) 2 k243_wo u_fa u_bd u_nc b_nl u_co b_op b_ar u_le b_pi b_pa u_pd u_od b_ws b_hw u_la b_se b_re u_bk u_va u_su u_ce u_ho u_wy u_bt u_ps b_pt u_tg u_sn b_ip u_ic b_ah b_be b_me u_wd b_tr b_ld u_st b_wn u_id)), (b_tp, (arI G 400 v_tp))] hP hD ?_
                              clear hP hD
                              intro hP hD
                              refine lv_goto (tgt := 243) hx hb dX12_next_332 (by decide +kernel) ?_
                              exact ih_243_62 ((k243_to + 1), k243_wo) ls H locs (show Int.toNat (400 - (k243_to + 1).toInt) < Int.toNat (400 - k243_to.toInt) from g_up (show k243_to.toInt < (k243_to + 1).toInt by omega) (show k243_to.toInt < 400 by omega)) ⟨lv_sub hl [0] rfl, hP, hD, hS, ⟨by omega, by omega⟩, by omega, dgp_S i_61 (by omega) (by omega) (by omega) i_65 (by omega) (by first | exact Or.inl ⟨by omega, rfl⟩ | exact Or.inr ⟨by omega, rfl⟩)⟩
                        ·
                          have hJ9 := g5_same hP hk1
                          clear hP hPc hDc hFc ht hvm hz1 hk1 hP1 hD1
                          have hP := hJ9
                          clear hJ9
                          refine lv_if_eq (tgt := 335) hx hb dX12_next_274 (by decide +kernel) (fun c_73 => ?_) (fun c_73 => ?_)
                          ·
                            exact W.vret hx hb hr (fun t ht hW => ⟨⟨[(b_o, (oc12 u_th u_sa b_rf b_ro b_im b_ke u_fd b_tp u_td k8_fr k243_to 2 k243_wo u_fa u_bd u_nc b_nl u_co b_op b_ar u_le b_pi b_pa u_pd u_od b_ws b_hw u_la b_se b_re u_bk u_va u_su u_ce u_ho u_wy u_bt u_ps b_pt u_tg u_sn b_ip u_ic b_ah b_be b_me u_wd b_tr b_ld u_st b_wn u_id)), (b_tp, (arI G 400 v_tp))], rfl, ⟨k8_fr, k243_to, 2, k243_wo, i_1, i_59, by omega, toka_tks (x := v_tp) (n := u_td.toInt.toNat) (i := (skT v_tp u_td.toInt.toNat u_to.toInt.toNat)) (wo := k243_wo) ((by have hf9 := (blp_end i_3 (by omega) (by first | exact Or.inl (by omega) | (unfold gNe at *; exact Or.inr (by omega)))); exact dgp_end i_61 hf9 (by omega) (by omega) i_49 (by decide +kernel) (Or.inr i_66))), (by have hf9 := (blp_end i_3 (by omega) (by first | exact Or.inl (by omega) | (unfold gNe at *; exact Or.inr (by omega)))); exact dgp_end i_61 hf9 (by omega) (by omega) i_49 (by decide +kernel) (Or.inr i_66)), rfl⟩, by rw [ht]; exact hP.sub [0, 1] rfl, hD.sub [0, 1] (by decide +kernel) rfl⟩, hS.F ht⟩) hS.2.2 dX12_next_335
                          ·
                            exact absurd c_73 (by decide +kernel)
                  ·
                    exact absurd c_58 (by decide +kernel)
                ·
                  exact absurd c_52 (by decide +kernel)
            ·
              have hJ9 := g5_same hP hk1
              clear hP hPc hDc hFc ht hvm hz1 hk1 hP1 hD1
              have hP := hJ9
              clear hJ9
              refine lv_if_eq (tgt := 113) hx hb dX12_next_106 (by decide +kernel) (fun c_74 => ?_) (fun c_74 => ?_)
              ·
                refine lv_iconst (v := 3) hx hb dX12_next_113 (by decide +kernel) ?_
                refine va_put (D := G.1) (ci := 12) (v := .int 3) (ty := .int) (C := RX12) (T := TX12) (N := 52) hx hb hts inG_X12 tyX12 tyX12_ok nmX12 hown hK hP hD hS 0 rfl rfl 11 (by decide +kernel) (hts _ fl_X12_224) (fun _ h9 => h9) rfl (by decide +kernel) rfl rfl (Nat.le_of_ble_eq_true rfl) dX12_next_114 ?_
                clear hP hD hS
                intro H locs hP hD hS
                refine g5_rs [(b_o, (oc12 u_th u_sa b_rf b_ro b_im b_ke u_fd b_tp u_td k8_fr k8_fr 3 0 u_fa u_bd u_nc b_nl u_co b_op b_ar u_le b_pi b_pa u_pd u_od b_ws b_hw u_la b_se b_re u_bk u_va u_su u_ce u_ho u_wy u_bt u_ps b_pt u_tg u_sn b_ip u_ic b_ah b_be b_me u_wd b_tr b_ld u_st b_wn u_id)), (b_tp, (arI G 400 v_tp))] hP hD ?_
                clear hP hD
                intro hP hD
                refine lv_aload_n hx hb dX12_next_117 rfl (lv_at hl 0 rfl) ?_
                refine va_get (D := G.1) (ci := 12) (v := .int 3) (C := RX12) (T := TX12) (N := 52) hx hb hts inG_X12 hown hK hP 0 rfl rfl 11 (by decide +kernel) (hts _ fl_X12_224) (fun _ h9 => h9) rfl dX12_next_118 ?_
                refine W.eq (g2 := F0 m 121 ls [.int 3]) rfl ?_
                refine lv_iconst (v := 3) hx hb dX12_next_121 (by decide +kernel) ?_
                refine lv_icmp_ne (tgt := 149) hx hb dX12_next_122 (by decide +kernel) (fun c_75 => ?_) (fun c_75 => ?_)
                ·
                  exact absurd c_75 (by decide +kernel)
                ·
                  refine lv_aload_n hx hb dX12_next_125 rfl (lv_at hl 0 rfl) ?_
                  refine lv_aload_n hx hb dX12_next_126 rfl (lv_at hl 0 rfl) ?_
                  refine va_get (D := G.1) (ci := 12) (v := .ref b_tp) (C := RX12) (T := TX12) (N := 52) hx hb hts inG_X12 hown hK hP 0 rfl rfl 7 (by decide +kernel) (hts _ fl_X12_23) (fun _ h9 => h9) rfl dX12_next_127 ?_
                  refine lv_aload_n hx hb dX12_next_130 rfl (lv_at hl 0 rfl) ?_
                  refine W.eq (g2 := F0 m 131 ls [.ref b_o, .ref b_tp, .ref b_o]) rfl ?_
                  refine va_get (D := G.1) (ci := 12) (v := .int k8_fr) (C := RX12) (T := TX12) (N := 52) hx hb hts inG_X12 hown hK hP 0 rfl rfl 9 (by decide +kernel) (hts _ fl_X12_211) (fun _ h9 => h9) rfl dX12_next_131 ?_
                  refine va_iald hx hb hK hP 1 0 rfl rfl (i := k8_fr) (vp_in_iff.mpr ⟨by omega, by omega⟩) dX12_next_134 ?_
                  refine lv_i2l (v := (v_tp k8_fr.toNatClampNeg).toInt64) hx hb dX12_next_135 rfl ?_
                  refine va_put (D := G.1) (ci := 12) (v := .long (v_tp k8_fr.toNatClampNeg).toInt64) (ty := .long) (C := RX12) (T := TX12) (N := 52) hx hb hts inG_X12 tyX12 tyX12_ok nmX12 hown hK hP hD hS 0 rfl rfl 12 (by decide +kernel) (hts _ fl_X12_214) (fun _ h9 => h9) rfl (by decide +kernel) rfl rfl (Nat.le_of_ble_eq_true rfl) dX12_next_136 ?_
                  clear hP hD hS
                  intro H locs hP hD hS
                  refine g5_rs [(b_o, (oc12 u_th u_sa b_rf b_ro b_im b_ke u_fd b_tp u_td k8_fr k8_fr 3 ((v_tp k8_fr.toNatClampNeg).toInt64) u_fa u_bd u_nc b_nl u_co b_op b_ar u_le b_pi b_pa u_pd u_od b_ws b_hw u_la b_se b_re u_bk u_va u_su u_ce u_ho u_wy u_bt u_ps b_pt u_tg u_sn b_ip u_ic b_ah b_be b_me u_wd b_tr b_ld u_st b_wn u_id)), (b_tp, (arI G 400 v_tp))] hP hD ?_
                  clear hP hD
                  intro hP hD
                  refine lv_aload_n hx hb dX12_next_139 rfl (lv_at hl 0 rfl) ?_
                  refine W.eq (g2 := F0 m 140 ls [.ref b_o]) rfl ?_
                  refine lv_dup hx hb dX12_next_140 rfl ?_
                  refine va_get (D := G.1) (ci := 12) (v := .int k8_fr) (C := RX12) (T := TX12) (N := 52) hx hb hts inG_X12 hown hK hP 0 rfl rfl 10 (by decide +kernel) (hts _ fl_X12_202) (fun _ h9 => h9) rfl dX12_next_141 ?_
                  refine lv_iconst (v := 1) hx hb dX12_next_144 (by decide +kernel) ?_
                  refine lv_iadd hx hb dX12_next_145 ?_
                  have t_76 : (k8_fr + 1).toInt = k8_fr.toInt + 1 := g5_iadd (a := k8_fr.toInt) (b := 1) (by rfl) (by decide +kernel) (by omega) (by omega)
                  refine va_put (D := G.1) (ci := 12) (v := .int (k8_fr + 1)) (ty := .int) (C := RX12) (T := TX12) (N := 52) hx hb hts inG_X12 tyX12 tyX12_ok nmX12 hown hK hP hD hS 0 rfl rfl 10 (by decide +kernel) (hts _ fl_X12_202) (fun _ h9 => h9) rfl (by decide +kernel) rfl rfl (Nat.le_of_ble_eq_true rfl) dX12_next_146 ?_
                  clear hP hD hS
                  intro H locs hP hD hS
                  refine g5_rs [(b_o, (oc12 u_th u_sa b_rf b_ro b_im b_ke u_fd b_tp u_td k8_fr (k8_fr + 1) 3 ((v_tp k8_fr.toNatClampNeg).toInt64) u_fa u_bd u_nc b_nl u_co b_op b_ar u_le b_pi b_pa u_pd u_od b_ws b_hw u_la b_se b_re u_bk u_va u_su u_ce u_ho u_wy u_bt u_ps b_pt u_tg u_sn b_ip u_ic b_ah b_be b_me u_wd b_tr b_ld u_st b_wn u_id)), (b_tp, (arI G 400 v_tp))] hP hD ?_
                  clear hP hD
                  intro hP hD
                  refine g5_loop (α := (Int32) × (Int64)) (fun (q : (Int32) × (Int64)) (ls : Array Slot) (H : Heap) (locs : List Loc) => match q with | (k149_to, k149_wo) => lv_has ls 1 [(0, .ref b_o)] ∧ va_P G.1 vwCl [(b_o, (oc12 u_th u_sa b_rf b_ro b_im b_ke u_fd b_tp u_td k8_fr k149_to 3 k149_wo u_fa u_bd u_nc b_nl u_co b_op b_ar u_le b_pi b_pa u_pd u_od b_ws b_hw u_la b_se b_re u_bk u_va u_su u_ce u_ho u_wy u_bt u_ps b_pt u_tg u_sn b_ip u_ic b_ah b_be b_me u_wd b_tr b_ld u_st b_wn u_id)), (b_tp, (arI G 400 v_tp))] H ∧ va_D A [(b_o, (oc12 u_th u_sa b_rf b_ro b_im b_ke u_fd b_tp u_td k8_fr k149_to 3 k149_wo u_fa u_bd u_nc b_nl u_co b_op b_ar u_le b_pi b_pa u_pd u_od b_ws b_hw u_la b_se b_re u_bk u_va u_su u_ce u_ho u_wy u_bt u_ps b_pt u_tg u_sn b_ip u_ic b_ah b_be b_me u_wd b_tr b_ld u_st b_wn u_id)), (b_tp, (arI G 400 v_tp))] ∧ va_S A s.heap H locs ∧ (0 ≤ k149_to.toInt ∧ k149_to.toInt ≤ 400) ∧ (k8_fr.toInt ≤ k149_to.toInt ∧ k149_to.toInt ≤ u_td.toInt) ∧ (k149_to.toInt = k8_fr.toInt + 1) ∧ (k149_wo = (v_tp k8_fr.toNatClampNeg).toInt64)) (fun (q : (Int32) × (Int64)) => match q with | (k149_to, k149_wo) => Int.toNat (400 - k149_to.toInt)) ((k8_fr + 1), (v_tp k8_fr.toNatClampNeg).toInt64) ⟨lv_sub hl [0] rfl, hP, hD, hS, ⟨by omega, by omega⟩, by omega, by omega, rfl⟩ ?_
                  rintro ⟨k149_to, k149_wo⟩ ls H locs ⟨hl, hP, hD, hS, (i_77 : 0 ≤ k149_to.toInt ∧ k149_to.toInt ≤ 400), (i_78 : k8_fr.toInt ≤ k149_to.toInt ∧ k149_to.toInt ≤ u_td.toInt), (i_79 : k149_to.toInt = k8_fr.toInt + 1), (i_80 : k149_wo = (v_tp k8_fr.toNatClampNeg).toInt64)⟩ ih_149_81
                  replace hl : lv_has ls 1 [(0, .ref b_o)] := hl
                  refine g5_rs [(b_o, (oc12 u_th u_sa b_rf b_ro b_im b_ke u_fd b_tp u_td k8_fr k149_to 3 k149_wo u_fa u_bd u_nc b_nl u_co b_op b_ar u_le b_pi b_pa u_pd u_od b_ws b_hw u_la b_se b_re u_bk u_va u_su u_ce u_ho u_wy u_bt u_ps b_pt u_tg u_sn b_ip u_ic b_ah b_be b_me u_wd b_tr b_ld u_st b_wn u_id)), (b_tp, (arI G 400 v_tp))] hP hD ?_
                  clear hP hD
                  intro hP hD
                  refine lv_aload_n hx hb dX12_next_149 rfl (lv_at hl 0 rfl) ?_
                  refine va_get (D := G.1) (ci := 12) (v := .int 3) (C := RX12) (T := TX12) (N := 52) hx hb hts inG_X12 hown hK hP 0 rfl rfl 11 (by decide +kernel) (hts _ fl_X12_224) (fun _ h9 => h9) rfl dX12_next_150 ?_
                  refine lv_iconst (v := 1) hx hb dX12_next_153 (by decide +kernel) ?_
                  refine lv_icmp_ne (tgt := 243) hx hb dX12_next_154 (by decide +kernel) (fun c_82 => ?_) (fun c_82 => ?_)
                  ·
                    refine g5_loop (α := (Int32) × (Int64)) (fun (q : (Int32) × (Int64)) (ls : Array Slot) (H : Heap) (locs : List Loc) => match q with | (k243_to, k243_wo) => lv_has ls 1 [(0, .ref b_o)] ∧ va_P G.1 vwCl [(b_o, (oc12 u_th u_sa b_rf b_ro b_im b_ke u_fd b_tp u_td k8_fr k243_to 3 k243_wo u_fa u_bd u_nc b_nl u_co b_op b_ar u_le b_pi b_pa u_pd u_od b_ws b_hw u_la b_se b_re u_bk u_va u_su u_ce u_ho u_wy u_bt u_ps b_pt u_tg u_sn b_ip u_ic b_ah b_be b_me u_wd b_tr b_ld u_st b_wn u_id)), (b_tp, (arI G 400 v_tp))] H ∧ va_D A [(b_o, (oc12 u_th u_sa b_rf b_ro b_im b_ke u_fd b_tp u_td k8_fr k243_to 3 k243_wo u_fa u_bd u_nc b_nl u_co b_op b_ar u_le b_pi b_pa u_pd u_od b_ws b_hw u_la b_se b_re u_bk u_va u_su u_ce u_ho u_wy u_bt u_ps b_pt u_tg u_sn b_ip u_ic b_ah b_be b_me u_wd b_tr b_ld u_st b_wn u_id)), (b_tp, (arI G 400 v_tp))] ∧ va_S A s.heap H locs ∧ (0 ≤ k243_to.toInt ∧ k243_to.toInt ≤ 400) ∧ (k8_fr.toInt ≤ k243_to.toInt ∧ k243_to.toInt ≤ u_td.toInt) ∧ (k243_to.toInt = k8_fr.toInt + 1) ∧ (k243_wo = (v_tp k8_fr.toNatClampNeg).toInt64)) (fun (q : (Int32) × (Int64)) => match q with | (k243_to, k243_wo) => Int.toNat (400 - k243_to.toInt)) (k149_to, k149_wo) ⟨lv_sub hl [0] rfl, hP, hD, hS, i_77, by omega, by omega, i_80⟩ ?_
                    rintro ⟨k243_to, k243_wo⟩ ls H locs ⟨hl, hP, hD, hS, (i_83 : 0 ≤ k243_to.toInt ∧ k243_to.toInt ≤ 400), (i_84 : k8_fr.toInt ≤ k243_to.toInt ∧ k243_to.toInt ≤ u_td.toInt), (i_85 : k243_to.toInt = k8_fr.toInt + 1), (i_86 : k243_wo = (v_tp k8_fr.toNatClampNeg).toInt64)⟩ ih_243_87
                    replace hl : lv_has ls 1 [(0, .ref b_o)] := hl
                    refine g5_rs [(b_o, (oc12 u_th u_sa b_rf b_ro b_im b_ke u_fd b_tp u_td k8_fr k243_to 3 k243_wo u_fa u_bd u_nc b_nl u_co b_op b_ar u_le b_pi b_pa u_pd u_od b_ws b_hw u_la b_se b_re u_bk u_va u_su u_ce u_ho u_wy u_bt u_ps b_pt u_tg u_sn b_ip u_ic b_ah b_be b_me u_wd b_tr b_ld u_st b_wn u_id)), (b_tp, (arI G 400 v_tp))] hP hD ?_
                    clear hP hD
                    intro hP hD
                    refine lv_aload_n hx hb dX12_next_243 rfl (lv_at hl 0 rfl) ?_
                    refine va_get (D := G.1) (ci := 12) (v := .int 3) (C := RX12) (T := TX12) (N := 52) hx hb hts inG_X12 hown hK hP 0 rfl rfl 11 (by decide +kernel) (hts _ fl_X12_224) (fun _ h9 => h9) rfl dX12_next_244 ?_
                    refine lv_iconst (v := 2) hx hb dX12_next_247 (by decide +kernel) ?_
                    refine lv_icmp_ne (tgt := 335) hx hb dX12_next_248 (by decide +kernel) (fun c_88 => ?_) (fun c_88 => ?_)
                    ·
                      exact W.vret hx hb hr (fun t ht hW => ⟨⟨[(b_o, (oc12 u_th u_sa b_rf b_ro b_im b_ke u_fd b_tp u_td k8_fr k243_to 3 k243_wo u_fa u_bd u_nc b_nl u_co b_op b_ar u_le b_pi b_pa u_pd u_od b_ws b_hw u_la b_se b_re u_bk u_va u_su u_ce u_ho u_wy u_bt u_ps b_pt u_tg u_sn b_ip u_ic b_ah b_be b_me u_wd b_tr b_ld u_st b_wn u_id)), (b_tp, (arI G 400 v_tp))], rfl, ⟨k8_fr, k243_to, 3, k243_wo, i_1, i_83, by omega, toka_tks (x := v_tp) (n := u_td.toInt.toNat) (i := (skT v_tp u_td.toInt.toNat u_to.toInt.toNat)) (wo := k243_wo) ((by have hf9 := (blp_end i_3 (by omega) (by first | exact Or.inl (by omega) | (unfold gNe at *; exact Or.inr (by omega)))); exact toka_sign hf9 (by omega) i_21 i_50 (by decide +kernel) (by omega) i_86)), (by have hf9 := (blp_end i_3 (by omega) (by first | exact Or.inl (by omega) | (unfold gNe at *; exact Or.inr (by omega)))); exact toka_sign hf9 (by omega) i_21 i_50 (by decide +kernel) (by omega) i_86), rfl⟩, by rw [ht]; exact hP.sub [0, 1] rfl, hD.sub [0, 1] (by decide +kernel) rfl⟩, hS.F ht⟩) hS.2.2 dX12_next_335
                    ·
                      exact absurd c_88 (by decide +kernel)
                  ·
                    exact absurd c_82 (by decide +kernel)
              ·
                exact absurd c_74 (by decide +kernel)
          ·
            exact absurd c_48 (by decide +kernel)
      ·
        have i_19 : k8_fr.toInt = u_td.toInt := g5_neN (a := k8_fr.toInt) (b := u_td.toInt) rfl rfl c_19
        omega
    ·
      have i_18 : (v_tp k8_fr.toNatClampNeg).toInt = 32 := g5_neN (a := (v_tp k8_fr.toNatClampNeg).toInt) (b := 32) rfl (by decide +kernel) c_18
      refine lv_aload_n hx hb dX12_next_33 rfl (lv_at hl 0 rfl) ?_
      refine lv_dup hx hb dX12_next_34 rfl ?_
      refine va_get (D := G.1) (ci := 12) (v := .int k8_fr) (C := RX12) (T := TX12) (N := 52) hx hb hts inG_X12 hown hK hP 0 rfl rfl 9 (by decide +kernel) (hts _ fl_X12_211) (fun _ h9 => h9) rfl dX12_next_35 ?_
      refine lv_iconst (v := 1) hx hb dX12_next_38 (by decide +kernel) ?_
      refine W.eq (g2 := F0 m 39 ls [.int 1, .int k8_fr, .ref b_o]) rfl ?_
      refine lv_iadd hx hb dX12_next_39 ?_
      have t_89 : (k8_fr + 1).toInt = k8_fr.toInt + 1 := g5_iadd (a := k8_fr.toInt) (b := 1) (by rfl) (by decide +kernel) (by omega) (by omega)
      refine va_put (D := G.1) (ci := 12) (v := .int (k8_fr + 1)) (ty := .int) (C := RX12) (T := TX12) (N := 52) hx hb hts inG_X12 tyX12 tyX12_ok nmX12 hown hK hP hD hS 0 rfl rfl 9 (by decide +kernel) (hts _ fl_X12_211) (fun _ h9 => h9) rfl (by decide +kernel) rfl rfl (Nat.le_of_ble_eq_true rfl) dX12_next_40 ?_
      clear hP hD hS
      intro H locs hP hD hS
      refine g5_rs [(b_o, (oc12 u_th u_sa b_rf b_ro b_im b_ke u_fd b_tp u_td (k8_fr + 1) u_to u_so u_wo u_fa u_bd u_nc b_nl u_co b_op b_ar u_le b_pi b_pa u_pd u_od b_ws b_hw u_la b_se b_re u_bk u_va u_su u_ce u_ho u_wy u_bt u_ps b_pt u_tg u_sn b_ip u_ic b_ah b_be b_me u_wd b_tr b_ld u_st b_wn u_id)), (b_tp, (arI G 400 v_tp))] hP hD ?_
      clear hP hD
      intro hP hD
      refine lv_goto (tgt := 8) hx hb dX12_next_43 (by decide +kernel) ?_
      exact ih_8_4 (k8_fr + 1) ls H locs (show Int.toNat (400 - (k8_fr + 1).toInt) < Int.toNat (400 - k8_fr.toInt) from g_up (show k8_fr.toInt < (k8_fr + 1).toInt by omega) (show k8_fr.toInt < 400 by omega)) ⟨lv_sub hl [0] rfl, hP, hD, hS, ⟨by omega, by omega⟩, by omega, blp_S i_3 (by omega) (by omega) (by omega) (by omega)⟩
set_option maxHeartbeats 4000000 in
set_option maxRecDepth 100000 in
theorem n_isWordX (l : Launch) (G : g5_G) (b_o b_rf b_ro b_im b_ke b_tp b_nl b_op b_ar b_pi b_pa b_ws b_hw b_se b_re b_pt b_ip b_ah b_be b_me b_tr b_ld b_wn : Nat) (sz : Nat) (u_th : Int32) (u_sa : Int32) (u_fd : Int32) (u_td : Int32) (u_fr : Int32) (u_to : Int32) (u_so : Int32) (u_fa : Int32) (u_bd : Int32) (u_nc : Int32) (u_co : Int32) (u_le : Int32) (u_pd : Int32) (u_od : Int32) (u_la : Int32) (u_bk : Int32) (u_ce : Int32) (u_ho : Int32) (u_wy : Int32) (u_bt : Int32) (u_ps : Int32) (u_tg : Int32) (u_sn : Int32) (u_ic : Int32) (u_wd : Int32) (u_id : Int32) (u_wo : Int64) (u_va : Int64) (u_su : Int64) (u_st : Int64) (p_1 : Int64) (h_u_td : 0 ≤ u_td.toInt ∧ u_td.toInt ≤ 400) (h_u_fr : 0 ≤ u_fr.toInt ∧ u_fr.toInt ≤ 400) (h_u_to : 0 ≤ u_to.toInt ∧ u_to.toInt ≤ 400) (h_u_bd : 0 ≤ u_bd.toInt ∧ u_bd.toInt ≤ 1) (h_u_nc : 0 ≤ u_nc.toInt ∧ u_nc.toInt ≤ 12) (h_u_co : 0 ≤ u_co.toInt ∧ u_co.toInt ≤ 400) (h_u_pd : 0 ≤ u_pd.toInt ∧ u_pd.toInt ≤ 400) (h_u_la : 0 ≤ u_la.toInt ∧ u_la.toInt ≤ 4840) (h_u_bk : 0 ≤ u_bk.toInt ∧ u_bk.toInt ≤ 1) (h_u_ce : 0 ≤ u_ce.toInt ∧ u_ce.toInt ≤ 63) (h_u_ho : 0 ≤ u_ho.toInt ∧ u_ho.toInt ≤ 23) (h_u_wy : 0 ≤ u_wy.toInt ∧ u_wy.toInt ≤ 3) (h_u_bt : 0 ≤ u_bt.toInt ∧ u_bt.toInt ≤ 1000000) (h_u_ps : 0 ≤ u_ps.toInt ∧ u_ps.toInt ≤ 200) (h_u_ic : 0 ≤ u_ic.toInt ∧ u_ic.toInt ≤ 1) (h_u_id : 0 ≤ u_id.toInt ∧ u_id.toInt ≤ 1) : Met l yX12_isWord (wsG yX12_isWord cX12_isWord 3 (some .boolean)) ({ frames := 0, cells := 0, slots := 0, locals := 0 }) (va_Pc [.ref b_o, .long p_1] (g5_P G [(b_o, (oc12 u_th u_sa b_rf b_ro b_im b_ke u_fd b_tp u_td u_fr u_to u_so u_wo u_fa u_bd u_nc b_nl u_co b_op b_ar u_le b_pi b_pa u_pd u_od b_ws b_hw u_la b_se b_re u_bk u_va u_su u_ce u_ho u_wy u_bt u_ps b_pt u_tg u_sn b_ip u_ic b_ah b_be b_me u_wd b_tr b_ld u_st b_wn u_id))] sz)) (va_Qi (fun (r : Int32) (u : va_W) => ((u_so.toInt = 1 ∧ u_wo.toInt = p_1.toInt) ∧ (r = 1) ∧ (u = [(b_o, (oc12 u_th u_sa b_rf b_ro b_im b_ke u_fd b_tp u_td u_fr u_to u_so u_wo u_fa u_bd u_nc b_nl u_co b_op b_ar u_le b_pi b_pa u_pd u_od b_ws b_hw u_la b_se b_re u_bk u_va u_su u_ce u_ho u_wy u_bt u_ps b_pt u_tg u_sn b_ip u_ic b_ah b_be b_me u_wd b_tr b_ld u_st b_wn u_id))])) ∨ ((¬ (u_so.toInt = 1 ∧ u_wo.toInt = p_1.toInt)) ∧ (r = 0) ∧ (u = [(b_o, (oc12 u_th u_sa b_rf b_ro b_im b_ke u_fd b_tp u_td u_fr u_to u_so u_wo u_fa u_bd u_nc b_nl u_co b_op b_ar u_le b_pi b_pa u_pd u_od b_ws b_hw u_la b_se b_re u_bk u_va u_su u_ce u_ho u_wy u_bt u_ps b_pt u_tg u_sn b_ip u_ic b_ah b_be b_me u_wd b_tr b_ld u_st b_wn u_id))]))) (g5_B G (va_A [(b_o, (oc12 u_th u_sa b_rf b_ro b_im b_ke u_fd b_tp u_td u_fr u_to u_so u_wo u_fa u_bd u_nc b_nl u_co b_op b_ar u_le b_pi b_pa u_pd u_od b_ws b_hw u_la b_se b_re u_bk u_va u_su u_ce u_ho u_wy u_bt u_ps b_pt u_tg u_sn b_ip u_ic b_ah b_be b_me u_wd b_tr b_ld u_st b_wn u_id))] sz)) (va_A [(b_o, (oc12 u_th u_sa b_rf b_ro b_im b_ke u_fd b_tp u_td u_fr u_to u_so u_wo u_fa u_bd u_nc b_nl u_co b_op b_ar u_le b_pi b_pa u_pd u_od b_ws b_hw u_la b_se b_re u_bk u_va u_su u_ce u_ho u_wy u_bt u_ps b_pt u_tg u_sn b_ip u_ic b_ah b_be b_me u_wd b_tr b_ld u_st b_wn u_id))] sz)) 0 0 (va_A [(b_o, (oc12 u_th u_sa b_rf b_ro b_im b_ke u_fd b_tp u_td u_fr u_to u_so u_wo u_fa u_bd u_nc b_nl u_co b_op b_ar u_le b_pi b_pa u_pd u_od b_ws b_hw u_la b_se b_re u_bk u_va u_su u_ce u_ho u_wy u_bt u_ps b_pt u_tg u_sn b_ip u_ic b_ah b_be b_me u_wd b_tr b_ld u_st b_wn u_id))] sz) := by
  refine Met.ofW (cc := cX12_isWord) (maxL := 3) (ret := (some .boolean)) (by decide) rfl ?_
  intro p e s m args below meth c s₁ B hml hv
  obtain ⟨rfl, hsz, hP, hK, hD0, hN, hT⟩ := hv
  have hx := B.exec
  have hb := B.bytes
  have hr := B.returns
  have hts : ∀ w ∈ tblG, w.before _ s = true := fun w h => atoms_spec (ws := (wsG yX12_isWord cX12_isWord 3 (some .boolean))) B.pre w (List.mem_cons_of_mem _ h)
  have hown : s.vm.findClass RX12 = some m.cls := findClass_of_methodNamed B.named
  have hlocks := B.notSynchronized
  subst hsz
  have hD := hD0.self (sz := s.heap.size)
  generalize hAe : va_A [(b_o, (oc12 u_th u_sa b_rf b_ro b_im b_ke u_fd b_tp u_td u_fr u_to u_so u_wo u_fa u_bd u_nc b_nl u_co b_op b_ar u_le b_pi b_pa u_pd u_od b_ws b_hw u_la b_se b_re u_bk u_va u_su u_ce u_ho u_wy u_bt u_ps b_pt u_tg u_sn b_ip u_ic b_ah b_be b_me u_wd b_tr b_ld u_st b_wn u_id))] s.heap.size = A at hD hT ⊢
  have hA : ∀ q : Nat, s.heap.size ≤ q → A q := fun q h => by rw [← hAe]; exact Or.inr h
  have hS : va_S A s.heap s.heap [] := va_S.rf
  have hP : va_P G.1 vwCl [(b_o, (oc12 u_th u_sa b_rf b_ro b_im b_ke u_fd b_tp u_td u_fr u_to u_so u_wo u_fa u_bd u_nc b_nl u_co b_op b_ar u_le b_pi b_pa u_pd u_od b_ws b_hw u_la b_se b_re u_bk u_va u_su u_ce u_ho u_wy u_bt u_ps b_pt u_tg u_sn b_ip u_ic b_ah b_be b_me u_wd b_tr b_ld u_st b_wn u_id))] s.heap := hP
  have hl := lv_entry ([.ref b_o, .long p_1]) (n := 3) (Nat.le_of_ble_eq_true rfl)
  rw [lg_entry_eq]
  generalize (lg_sl ([.ref b_o, .long p_1]) ++ List.replicate (3 - (lg_sl ([.ref b_o, .long p_1])).length) Slot.unset).toArray = ls at hl ⊢
  have hl : lv_has ls 3 [(0, .ref b_o), (1, .long p_1)] := hl
  refine lv_aload_n hx hb dX12_isWord_0 rfl (lv_at hl 0 rfl) ?_
  refine va_get (D := G.1) (ci := 12) (v := .int u_so) (C := RX12) (T := TX12) (N := 52) hx hb hts inG_X12 hown hK hP 0 rfl rfl 11 (by decide) (hts _ fl_X12_224) (fun _ h9 => h9) rfl dX12_isWord_1 ?_
  refine lv_iconst (v := 1) hx hb dX12_isWord_4 (by decide) ?_
  refine lv_icmp_ne (tgt := 21) hx hb dX12_isWord_5 (by decide) (fun c_1 => ?_) (fun c_1 => ?_)
  ·
    have n_1 : gNe (u_so.toInt) (1) := by have z := g5_ne (a := u_so.toInt) (b := 1) (by rfl) (by decide) c_1; unfold gNe; omega
    refine lv_iconst (v := 0) hx hb dX12_isWord_21 (by decide) ?_
    exact W.zret (v := 0) hx hb hr rfl (fun t ht hW => ⟨⟨0, [(b_o, (oc12 u_th u_sa b_rf b_ro b_im b_ke u_fd b_tp u_td u_fr u_to u_so u_wo u_fa u_bd u_nc b_nl u_co b_op b_ar u_le b_pi b_pa u_pd u_od b_ws b_hw u_la b_se b_re u_bk u_va u_su u_ce u_ho u_wy u_bt u_ps b_pt u_tg u_sn b_ip u_ic b_ah b_be b_me u_wd b_tr b_ld u_st b_wn u_id))], rfl, Or.inr (⟨fun q9 => by first | omega | (unfold gNe at *; omega), rfl, rfl⟩), by rw [ht]; exact hP.sub [0] rfl, hD.sub [0] (by decide) rfl⟩, hS.F ht⟩) hS.2.2 dX12_isWord_22
  ·
    have i_1 : u_so.toInt = 1 := by have z := g5_neN (a := u_so.toInt) (b := 1) (by rfl) (by decide) c_1; omega
    refine lv_aload_n hx hb dX12_isWord_8 rfl (lv_at hl 0 rfl) ?_
    refine va_get (D := G.1) (ci := 12) (v := .long u_wo) (C := RX12) (T := TX12) (N := 52) hx hb hts inG_X12 hown hK hP 0 rfl rfl 12 (by decide) (hts _ fl_X12_214) (fun _ h9 => h9) rfl dX12_isWord_9 ?_
    refine lv_lload_n hx hb dX12_isWord_12 rfl (lv_at hl 1 rfl) ?_
    have tc_2 := g5_cmpI u_wo p_1
    refine W.lcmp hx hb dX12_isWord_13 ?_
    refine W.eq (g2 := F0 m 14 ls [.int (lg_cmp u_wo p_1)]) rfl ?_
    refine lv_if_ne (tgt := 21) hx hb dX12_isWord_14 (by decide) (fun c_3 => ?_) (fun c_3 => ?_)
    ·
      have n_3 : gNe ((lg_cmp u_wo p_1).toInt) (0) := by have z := g5_ne (a := (lg_cmp u_wo p_1).toInt) (b := 0) (by rfl) (by decide) c_3; unfold gNe; omega
      refine lv_iconst (v := 0) hx hb dX12_isWord_21 (by decide) ?_
      exact W.zret (v := 0) hx hb hr rfl (fun t ht hW => ⟨⟨0, [(b_o, (oc12 u_th u_sa b_rf b_ro b_im b_ke u_fd b_tp u_td u_fr u_to u_so u_wo u_fa u_bd u_nc b_nl u_co b_op b_ar u_le b_pi b_pa u_pd u_od b_ws b_hw u_la b_se b_re u_bk u_va u_su u_ce u_ho u_wy u_bt u_ps b_pt u_tg u_sn b_ip u_ic b_ah b_be b_me u_wd b_tr b_ld u_st b_wn u_id))], rfl, Or.inr (⟨fun q9 => by first | omega | (unfold gNe at *; omega), rfl, rfl⟩), by rw [ht]; exact hP.sub [0] rfl, hD.sub [0] (by decide) rfl⟩, hS.F ht⟩) hS.2.2 dX12_isWord_22
    ·
      have i_3 : (lg_cmp u_wo p_1).toInt = 0 := by have z := g5_neN (a := (lg_cmp u_wo p_1).toInt) (b := 0) (by rfl) (by decide) c_3; omega
      refine lv_iconst (v := 1) hx hb dX12_isWord_17 (by decide) ?_
      refine lv_goto (tgt := 22) hx hb dX12_isWord_18 (by decide) ?_
      exact W.zret (v := 1) hx hb hr rfl (fun t ht hW => ⟨⟨1, [(b_o, (oc12 u_th u_sa b_rf b_ro b_im b_ke u_fd b_tp u_td u_fr u_to u_so u_wo u_fa u_bd u_nc b_nl u_co b_op b_ar u_le b_pi b_pa u_pd u_od b_ws b_hw u_la b_se b_re u_bk u_va u_su u_ce u_ho u_wy u_bt u_ps b_pt u_tg u_sn b_ip u_ic b_ah b_be b_me u_wd b_tr b_ld u_st b_wn u_id))], rfl, Or.inl (⟨⟨by omega, by omega⟩, rfl, rfl⟩), by rw [ht]; exact hP.sub [0] rfl, hD.sub [0] (by decide) rfl⟩, hS.F ht⟩) hS.2.2 dX12_isWord_22
set_option maxHeartbeats 4000000 in
set_option maxRecDepth 100000 in
theorem n_isWordX294 (l : Launch) (G : g5_G) (b_o b_rf b_ro b_im b_ke b_tp b_nl b_op b_ar b_pi b_pa b_ws b_hw b_se b_re b_pt b_ip b_ah b_be b_me b_tr b_ld b_wn : Nat) (sz : Nat) (u_th : Int32) (u_sa : Int32) (u_fd : Int32) (u_td : Int32) (u_fr : Int32) (u_to : Int32) (u_so : Int32) (u_fa : Int32) (u_bd : Int32) (u_nc : Int32) (u_co : Int32) (u_le : Int32) (u_pd : Int32) (u_od : Int32) (u_la : Int32) (u_bk : Int32) (u_ce : Int32) (u_ho : Int32) (u_wy : Int32) (u_bt : Int32) (u_ps : Int32) (u_tg : Int32) (u_sn : Int32) (u_ic : Int32) (u_wd : Int32) (u_id : Int32) (u_wo : Int64) (u_va : Int64) (u_su : Int64) (u_st : Int64) (h_u_td : 0 ≤ u_td.toInt ∧ u_td.toInt ≤ 400) (h_u_fr : 0 ≤ u_fr.toInt ∧ u_fr.toInt ≤ 400) (h_u_to : 0 ≤ u_to.toInt ∧ u_to.toInt ≤ 400) (h_u_bd : 0 ≤ u_bd.toInt ∧ u_bd.toInt ≤ 1) (h_u_nc : 0 ≤ u_nc.toInt ∧ u_nc.toInt ≤ 12) (h_u_co : 0 ≤ u_co.toInt ∧ u_co.toInt ≤ 400) (h_u_pd : 0 ≤ u_pd.toInt ∧ u_pd.toInt ≤ 400) (h_u_la : 0 ≤ u_la.toInt ∧ u_la.toInt ≤ 4840) (h_u_bk : 0 ≤ u_bk.toInt ∧ u_bk.toInt ≤ 1) (h_u_ce : 0 ≤ u_ce.toInt ∧ u_ce.toInt ≤ 63) (h_u_ho : 0 ≤ u_ho.toInt ∧ u_ho.toInt ≤ 23) (h_u_wy : 0 ≤ u_wy.toInt ∧ u_wy.toInt ≤ 3) (h_u_bt : 0 ≤ u_bt.toInt ∧ u_bt.toInt ≤ 1000000) (h_u_ps : 0 ≤ u_ps.toInt ∧ u_ps.toInt ≤ 200) (h_u_ic : 0 ≤ u_ic.toInt ∧ u_ic.toInt ≤ 1) (h_u_id : 0 ≤ u_id.toInt ∧ u_id.toInt ≤ 1) : Met l yX12_isWord (wsG yX12_isWord cX12_isWord 3 (some .boolean)) ({ frames := 0, cells := 0, slots := 0, locals := 0 }) (va_Pc [.ref b_o, .long 294] (g5_P G [(b_o, (oc12 u_th u_sa b_rf b_ro b_im b_ke u_fd b_tp u_td u_fr u_to u_so u_wo u_fa u_bd u_nc b_nl u_co b_op b_ar u_le b_pi b_pa u_pd u_od b_ws b_hw u_la b_se b_re u_bk u_va u_su u_ce u_ho u_wy u_bt u_ps b_pt u_tg u_sn b_ip u_ic b_ah b_be b_me u_wd b_tr b_ld u_st b_wn u_id))] sz)) (va_Qi (fun (r : Int32) (u : va_W) => ((u_so.toInt = 1 ∧ u_wo.toInt = 294) ∧ (r = 1) ∧ (u = [(b_o, (oc12 u_th u_sa b_rf b_ro b_im b_ke u_fd b_tp u_td u_fr u_to u_so u_wo u_fa u_bd u_nc b_nl u_co b_op b_ar u_le b_pi b_pa u_pd u_od b_ws b_hw u_la b_se b_re u_bk u_va u_su u_ce u_ho u_wy u_bt u_ps b_pt u_tg u_sn b_ip u_ic b_ah b_be b_me u_wd b_tr b_ld u_st b_wn u_id))])) ∨ ((¬ (u_so.toInt = 1 ∧ u_wo.toInt = 294)) ∧ (r = 0) ∧ (u = [(b_o, (oc12 u_th u_sa b_rf b_ro b_im b_ke u_fd b_tp u_td u_fr u_to u_so u_wo u_fa u_bd u_nc b_nl u_co b_op b_ar u_le b_pi b_pa u_pd u_od b_ws b_hw u_la b_se b_re u_bk u_va u_su u_ce u_ho u_wy u_bt u_ps b_pt u_tg u_sn b_ip u_ic b_ah b_be b_me u_wd b_tr b_ld u_st b_wn u_id))]))) (g5_B G (va_A [(b_o, (oc12 u_th u_sa b_rf b_ro b_im b_ke u_fd b_tp u_td u_fr u_to u_so u_wo u_fa u_bd u_nc b_nl u_co b_op b_ar u_le b_pi b_pa u_pd u_od b_ws b_hw u_la b_se b_re u_bk u_va u_su u_ce u_ho u_wy u_bt u_ps b_pt u_tg u_sn b_ip u_ic b_ah b_be b_me u_wd b_tr b_ld u_st b_wn u_id))] sz)) (va_A [(b_o, (oc12 u_th u_sa b_rf b_ro b_im b_ke u_fd b_tp u_td u_fr u_to u_so u_wo u_fa u_bd u_nc b_nl u_co b_op b_ar u_le b_pi b_pa u_pd u_od b_ws b_hw u_la b_se b_re u_bk u_va u_su u_ce u_ho u_wy u_bt u_ps b_pt u_tg u_sn b_ip u_ic b_ah b_be b_me u_wd b_tr b_ld u_st b_wn u_id))] sz)) 0 0 (va_A [(b_o, (oc12 u_th u_sa b_rf b_ro b_im b_ke u_fd b_tp u_td u_fr u_to u_so u_wo u_fa u_bd u_nc b_nl u_co b_op b_ar u_le b_pi b_pa u_pd u_od b_ws b_hw u_la b_se b_re u_bk u_va u_su u_ce u_ho u_wy u_bt u_ps b_pt u_tg u_sn b_ip u_ic b_ah b_be b_me u_wd b_tr b_ld u_st b_wn u_id))] sz) := by
  refine Met.ofW (cc := cX12_isWord) (maxL := 3) (ret := (some .boolean)) (by decide) rfl ?_
  intro p e s m args below meth c s₁ B hml hv
  obtain ⟨rfl, hsz, hP, hK, hD0, hN, hT⟩ := hv
  have hx := B.exec
  have hb := B.bytes
  have hr := B.returns
  have hts : ∀ w ∈ tblG, w.before _ s = true := fun w h => atoms_spec (ws := (wsG yX12_isWord cX12_isWord 3 (some .boolean))) B.pre w (List.mem_cons_of_mem _ h)
  have hown : s.vm.findClass RX12 = some m.cls := findClass_of_methodNamed B.named
  have hlocks := B.notSynchronized
  subst hsz
  have hD := hD0.self (sz := s.heap.size)
  generalize hAe : va_A [(b_o, (oc12 u_th u_sa b_rf b_ro b_im b_ke u_fd b_tp u_td u_fr u_to u_so u_wo u_fa u_bd u_nc b_nl u_co b_op b_ar u_le b_pi b_pa u_pd u_od b_ws b_hw u_la b_se b_re u_bk u_va u_su u_ce u_ho u_wy u_bt u_ps b_pt u_tg u_sn b_ip u_ic b_ah b_be b_me u_wd b_tr b_ld u_st b_wn u_id))] s.heap.size = A at hD hT ⊢
  have hA : ∀ q : Nat, s.heap.size ≤ q → A q := fun q h => by rw [← hAe]; exact Or.inr h
  have hS : va_S A s.heap s.heap [] := va_S.rf
  have hP : va_P G.1 vwCl [(b_o, (oc12 u_th u_sa b_rf b_ro b_im b_ke u_fd b_tp u_td u_fr u_to u_so u_wo u_fa u_bd u_nc b_nl u_co b_op b_ar u_le b_pi b_pa u_pd u_od b_ws b_hw u_la b_se b_re u_bk u_va u_su u_ce u_ho u_wy u_bt u_ps b_pt u_tg u_sn b_ip u_ic b_ah b_be b_me u_wd b_tr b_ld u_st b_wn u_id))] s.heap := hP
  have hl := lv_entry ([.ref b_o, .long 294]) (n := 3) (Nat.le_of_ble_eq_true rfl)
  rw [lg_entry_eq]
  generalize (lg_sl ([.ref b_o, .long 294]) ++ List.replicate (3 - (lg_sl ([.ref b_o, .long 294])).length) Slot.unset).toArray = ls at hl ⊢
  have hl : lv_has ls 3 [(0, .ref b_o), (1, .long 294)] := hl
  refine lv_aload_n hx hb dX12_isWord_0 rfl (lv_at hl 0 rfl) ?_
  refine va_get (D := G.1) (ci := 12) (v := .int u_so) (C := RX12) (T := TX12) (N := 52) hx hb hts inG_X12 hown hK hP 0 rfl rfl 11 (by decide) (hts _ fl_X12_224) (fun _ h9 => h9) rfl dX12_isWord_1 ?_
  refine lv_iconst (v := 1) hx hb dX12_isWord_4 (by decide) ?_
  refine lv_icmp_ne (tgt := 21) hx hb dX12_isWord_5 (by decide) (fun c_1 => ?_) (fun c_1 => ?_)
  ·
    have n_1 : gNe (u_so.toInt) (1) := by have z := g5_ne (a := u_so.toInt) (b := 1) (by rfl) (by decide) c_1; unfold gNe; omega
    refine lv_iconst (v := 0) hx hb dX12_isWord_21 (by decide) ?_
    exact W.zret (v := 0) hx hb hr rfl (fun t ht hW => ⟨⟨0, [(b_o, (oc12 u_th u_sa b_rf b_ro b_im b_ke u_fd b_tp u_td u_fr u_to u_so u_wo u_fa u_bd u_nc b_nl u_co b_op b_ar u_le b_pi b_pa u_pd u_od b_ws b_hw u_la b_se b_re u_bk u_va u_su u_ce u_ho u_wy u_bt u_ps b_pt u_tg u_sn b_ip u_ic b_ah b_be b_me u_wd b_tr b_ld u_st b_wn u_id))], rfl, Or.inr (⟨fun q9 => by first | omega | (unfold gNe at *; omega), rfl, rfl⟩), by rw [ht]; exact hP.sub [0] rfl, hD.sub [0] (by decide) rfl⟩, hS.F ht⟩) hS.2.2 dX12_isWord_22
  ·
    have i_1 : u_so.toInt = 1 := by have z := g5_neN (a := u_so.toInt) (b := 1) (by rfl) (by decide) c_1; omega
    refine lv_aload_n hx hb dX12_isWord_8 rfl (lv_at hl 0 rfl) ?_
    refine va_get (D := G.1) (ci := 12) (v := .long u_wo) (C := RX12) (T := TX12) (N := 52) hx hb hts inG_X12 hown hK hP 0 rfl rfl 12 (by decide) (hts _ fl_X12_214) (fun _ h9 => h9) rfl dX12_isWord_9 ?_
    refine lv_lload_n hx hb dX12_isWord_12 rfl (lv_at hl 1 rfl) ?_
    have tl_2 : (294 : Int64).toInt = 294 := (by decide)
    have tc_3 := g5_cmpI u_wo (294 : Int64)
    refine W.lcmp hx hb dX12_isWord_13 ?_
    refine W.eq (g2 := F0 m 14 ls [.int (lg_cmp u_wo 294)]) rfl ?_
    refine lv_if_ne (tgt := 21) hx hb dX12_isWord_14 (by decide) (fun c_4 => ?_) (fun c_4 => ?_)
    ·
      have n_4 : gNe ((lg_cmp u_wo 294).toInt) (0) := by have z := g5_ne (a := (lg_cmp u_wo 294).toInt) (b := 0) (by rfl) (by decide) c_4; unfold gNe; omega
      refine lv_iconst (v := 0) hx hb dX12_isWord_21 (by decide) ?_
      exact W.zret (v := 0) hx hb hr rfl (fun t ht hW => ⟨⟨0, [(b_o, (oc12 u_th u_sa b_rf b_ro b_im b_ke u_fd b_tp u_td u_fr u_to u_so u_wo u_fa u_bd u_nc b_nl u_co b_op b_ar u_le b_pi b_pa u_pd u_od b_ws b_hw u_la b_se b_re u_bk u_va u_su u_ce u_ho u_wy u_bt u_ps b_pt u_tg u_sn b_ip u_ic b_ah b_be b_me u_wd b_tr b_ld u_st b_wn u_id))], rfl, Or.inr (⟨fun q9 => by first | omega | (unfold gNe at *; omega), rfl, rfl⟩), by rw [ht]; exact hP.sub [0] rfl, hD.sub [0] (by decide) rfl⟩, hS.F ht⟩) hS.2.2 dX12_isWord_22
    ·
      have i_4 : (lg_cmp u_wo 294).toInt = 0 := by have z := g5_neN (a := (lg_cmp u_wo 294).toInt) (b := 0) (by rfl) (by decide) c_4; omega
      refine lv_iconst (v := 1) hx hb dX12_isWord_17 (by decide) ?_
      refine lv_goto (tgt := 22) hx hb dX12_isWord_18 (by decide) ?_
      exact W.zret (v := 1) hx hb hr rfl (fun t ht hW => ⟨⟨1, [(b_o, (oc12 u_th u_sa b_rf b_ro b_im b_ke u_fd b_tp u_td u_fr u_to u_so u_wo u_fa u_bd u_nc b_nl u_co b_op b_ar u_le b_pi b_pa u_pd u_od b_ws b_hw u_la b_se b_re u_bk u_va u_su u_ce u_ho u_wy u_bt u_ps b_pt u_tg u_sn b_ip u_ic b_ah b_be b_me u_wd b_tr b_ld u_st b_wn u_id))], rfl, Or.inl (⟨⟨by omega, by omega⟩, rfl, rfl⟩), by rw [ht]; exact hP.sub [0] rfl, hD.sub [0] (by decide) rfl⟩, hS.F ht⟩) hS.2.2 dX12_isWord_22
