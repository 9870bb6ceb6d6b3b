set_option maxHeartbeats 4000000 in
set_option maxRecDepth 100000 in
theorem x_firstN (l : Launch) (G : g5_G) (a_o a_k a_h a_g a_gn a_b a_bn a_p a_pn a_bb a_j a_as a_sk a_l a_pt a_im a_ke a_wa a_th a_ha a_wk a_r a_x a_wd a_rf a_s a_w : Nat) (sz : Nat) (e_tl : Int32) (e_fd : Int32) (e_fpl : Int32) (e_wn : Int32) (e_lr : Int32) (e_le : Int32) (e_st : Int32) (e_fo : Int32) (e_lc : Int32) (e_g : Int32) (e_b : Int32) (e_p : Int32) (e_ln : Int32) (e_se : Int32) (e_lh : Int32) (e_br : Int32) (e_we : Int32) (e_me : Int32) (e_ce : Int32) (e_wy : Int32) (e_ho : Int32) (e_ov : Int32) (p_b : Int32) (p_t : Int32) (e_wa : Int64) (e_gb : Int64) (f_g : Nat → Int32) (f_b : Nat → Int32) (f_p : Nat → Int32) (f_bb : Nat → Int64) (f_as : Nat → Int32) (f_sk : Nat → Int64) (f_l : Nat → Option Nat) (f_pt : Nat → Int32) (h_e_tl : 0 ≤ e_tl.toInt ∧ e_tl.toInt ≤ 400) (h_e_wn : 0 ≤ e_wn.toInt ∧ e_wn.toInt ≤ 1) (h_e_g : 0 ≤ e_g.toInt ∧ e_g.toInt ≤ 6) (h_e_b : 0 ≤ e_b.toInt ∧ e_b.toInt ≤ 5) (h_e_p : 0 ≤ e_p.toInt ∧ e_p.toInt ≤ 8) (h_e_ov : 0 ≤ e_ov.toInt ∧ e_ov.toInt ≤ 1) (e_gk : gOK f_g e_g.toInt) (e_pk : gOK f_p e_p.toInt) (e_gi : inT e_gb f_g e_g.toInt) (e_f : e_fo.toInt < 0 ∨ e_lc.toInt ≤ e_fo.toInt) : Met l yX11_first (wsG yX11_first cX11_first 7 (some .int)) ({ frames := 15, cells := 0, slots := 0, locals := 582 }) (va_Pc [.ref a_o, .int p_b, .int p_t] (g5_P G [(a_o, (oc11 a_h a_im a_ke a_k a_wa a_th a_ha a_wk a_r a_x e_tl e_fd e_fpl a_wd e_wn a_rf e_lr)), (a_k, (oc5 a_h a_j a_pt e_ln e_se e_lh e_br e_we e_me e_ce e_wy e_ho e_ov)), (a_h, (oc1 e_wa e_le e_st e_fo e_lc a_l a_g a_b a_s a_p a_w e_gb a_bb)), (a_g, (oc6 6 5 a_gn e_g)), (a_gn, (arI G 30 f_g)), (a_b, (oc6 5 24 a_bn e_b)), (a_bn, (arI G 120 f_b)), (a_p, (oc6 8 5 a_pn e_p)), (a_pn, (arI G 40 f_p)), (a_bb, (arJ G 24 f_bb)), (a_j, (oc2 a_as a_sk)), (a_as, (arI G 8 f_as)), (a_sk, (arJ G 50 f_sk)), (a_l, (arW G 6 f_l)), (a_pt, (arI G 200 f_pt))] sz)) (va_Qi (fun (r : Int32) (u : va_W) => (∃ (o_r : Int32) (o_ln : Int32) (o_se : Int32) (o_lh : Int32) (o_br : Int32) (o_we : Int32) (o_me : Int32) (o_ce : Int32) (o_wy : Int32) (o_ho : Int32) (o_ov : Int32) (o_pt : Nat → Int32) (o_as : Nat → Int32) (o_sk : Nat → Int64), (0 ≤ o_ov.toInt ∧ o_ov.toInt ≤ 1) ∧ (r = o_r) ∧ (u = [(a_o, (oc11 a_h a_im a_ke a_k a_wa a_th a_ha a_wk a_r a_x e_tl e_fd e_fpl a_wd e_wn a_rf e_lr)), (a_k, (oc5 a_h a_j a_pt o_ln o_se o_lh o_br o_we o_me o_ce o_wy o_ho o_ov)), (a_h, (oc1 e_wa e_le e_st e_fo e_lc a_l a_g a_b a_s a_p a_w e_gb a_bb)), (a_g, (oc6 6 5 a_gn e_g)), (a_gn, (arI G 30 f_g)), (a_b, (oc6 5 24 a_bn e_b)), (a_bn, (arI G 120 f_b)), (a_p, (oc6 8 5 a_pn e_p)), (a_pn, (arI G 40 f_p)), (a_bb, (arJ G 24 f_bb)), (a_j, (oc2 a_as a_sk)), (a_as, (arI G 8 o_as)), (a_sk, (arJ G 50 o_sk)), (a_l, (arW G 6 f_l)), (a_pt, (arI G 200 o_pt))]))) (g5_B G (va_A [(a_o, (oc11 a_h a_im a_ke a_k a_wa a_th a_ha a_wk a_r a_x e_tl e_fd e_fpl a_wd e_wn a_rf e_lr)), (a_k, (oc5 a_h a_j a_pt e_ln e_se e_lh e_br e_we e_me e_ce e_wy e_ho e_ov)), (a_h, (oc1 e_wa e_le e_st e_fo e_lc a_l a_g a_b a_s a_p a_w e_gb a_bb)), (a_g, (oc6 6 5 a_gn e_g)), (a_gn, (arI G 30 f_g)), (a_b, (oc6 5 24 a_bn e_b)), (a_bn, (arI G 120 f_b)), (a_p, (oc6 8 5 a_pn e_p)), (a_pn, (arI G 40 f_p)), (a_bb, (arJ G 24 f_bb)), (a_j, (oc2 a_as a_sk)), (a_as, (arI G 8 f_as)), (a_sk, (arJ G 50 f_sk)), (a_l, (arW G 6 f_l)), (a_pt, (arI G 200 f_pt))] sz)) (va_A [(a_o, (oc11 a_h a_im a_ke a_k a_wa a_th a_ha a_wk a_r a_x e_tl e_fd e_fpl a_wd e_wn a_rf e_lr)), (a_k, (oc5 a_h a_j a_pt e_ln e_se e_lh e_br e_we e_me e_ce e_wy e_ho e_ov)), (a_h, (oc1 e_wa e_le e_st e_fo e_lc a_l a_g a_b a_s a_p a_w e_gb a_bb)), (a_g, (oc6 6 5 a_gn e_g)), (a_gn, (arI G 30 f_g)), (a_b, (oc6 5 24 a_bn e_b)), (a_bn, (arI G 120 f_b)), (a_p, (oc6 8 5 a_pn e_p)), (a_pn, (arI G 40 f_p)), (a_bb, (arJ G 24 f_bb)), (a_j, (oc2 a_as a_sk)), (a_as, (arI G 8 f_as)), (a_sk, (arJ G 50 f_sk)), (a_l, (arW G 6 f_l)), (a_pt, (arI G 200 f_pt))] sz)) 0 0 (va_A [(a_o, (oc11 a_h a_im a_ke a_k a_wa a_th a_ha a_wk a_r a_x e_tl e_fd e_fpl a_wd e_wn a_rf e_lr)), (a_k, (oc5 a_h a_j a_pt e_ln e_se e_lh e_br e_we e_me e_ce e_wy e_ho e_ov)), (a_h, (oc1 e_wa e_le e_st e_fo e_lc a_l a_g a_b a_s a_p a_w e_gb a_bb)), (a_g, (oc6 6 5 a_gn e_g)), (a_gn, (arI G 30 f_g)), (a_b, (oc6 5 24 a_bn e_b)), (a_bn, (arI G 120 f_b)), (a_p, (oc6 8 5 a_pn e_p)), (a_pn, (arI G 40 f_p)), (a_bb, (arJ G 24 f_bb)), (a_j, (oc2 a_as a_sk)), (a_as, (arI G 8 f_as)), (a_sk, (arJ G 50 f_sk)), (a_l, (arW G 6 f_l)), (a_pt, (arI G 200 f_pt))] sz) := by
  refine Met.ofW (cc := cX11_first) (maxL := 7) (ret := (some .int)) (by decide) rfl ?_
  intro p e s m args below meth c s₁ B hml hv
  obtain ⟨rfl, hsz, hP, hK, hD0, hN, hT⟩ := hv
  have hx := B.exec
  have hb := B.bytes
  have hr := B.returns
  have hts : ∀ w ∈ tblG, w.before _ s = true := fun w h => atoms_spec (ws := (wsG yX11_first cX11_first 7 (some .int))) B.pre w (List.mem_cons_of_mem _ h)
  have hown : s.vm.findClass RX11 = some m.cls := findClass_of_methodNamed B.named
  have hlocks := B.notSynchronized
  subst hsz
  have hD := hD0.self (sz := s.heap.size)
  generalize hAe : va_A [(a_o, (oc11 a_h a_im a_ke a_k a_wa a_th a_ha a_wk a_r a_x e_tl e_fd e_fpl a_wd e_wn a_rf e_lr)), (a_k, (oc5 a_h a_j a_pt e_ln e_se e_lh e_br e_we e_me e_ce e_wy e_ho e_ov)), (a_h, (oc1 e_wa e_le e_st e_fo e_lc a_l a_g a_b a_s a_p a_w e_gb a_bb)), (a_g, (oc6 6 5 a_gn e_g)), (a_gn, (arI G 30 f_g)), (a_b, (oc6 5 24 a_bn e_b)), (a_bn, (arI G 120 f_b)), (a_p, (oc6 8 5 a_pn e_p)), (a_pn, (arI G 40 f_p)), (a_bb, (arJ G 24 f_bb)), (a_j, (oc2 a_as a_sk)), (a_as, (arI G 8 f_as)), (a_sk, (arJ G 50 f_sk)), (a_l, (arW G 6 f_l)), (a_pt, (arI G 200 f_pt))] s.heap.size = A at hD hT ⊢
  have hA : ∀ q : Nat, s.heap.size ≤ q → A q := fun q h => by rw [← hAe]; exact Or.inr h
  have hS : va_S A s.heap s.heap [] := va_S.rf
  have hP : va_P G.1 vwCl [(a_o, (oc11 a_h a_im a_ke a_k a_wa a_th a_ha a_wk a_r a_x e_tl e_fd e_fpl a_wd e_wn a_rf e_lr)), (a_k, (oc5 a_h a_j a_pt e_ln e_se e_lh e_br e_we e_me e_ce e_wy e_ho e_ov)), (a_h, (oc1 e_wa e_le e_st e_fo e_lc a_l a_g a_b a_s a_p a_w e_gb a_bb)), (a_g, (oc6 6 5 a_gn e_g)), (a_gn, (arI G 30 f_g)), (a_b, (oc6 5 24 a_bn e_b)), (a_bn, (arI G 120 f_b)), (a_p, (oc6 8 5 a_pn e_p)), (a_pn, (arI G 40 f_p)), (a_bb, (arJ G 24 f_bb)), (a_j, (oc2 a_as a_sk)), (a_as, (arI G 8 f_as)), (a_sk, (arJ G 50 f_sk)), (a_l, (arW G 6 f_l)), (a_pt, (arI G 200 f_pt))] s.heap := hP
  have hl := lv_entry ([.ref a_o, .int p_b, .int p_t]) (n := 7) (Nat.le_of_ble_eq_true rfl)
  rw [lg_entry_eq]
  generalize (lg_sl ([.ref a_o, .int p_b, .int p_t]) ++ List.replicate (7 - (lg_sl ([.ref a_o, .int p_b, .int p_t])).length) Slot.unset).toArray = ls at hl ⊢
  have hl : lv_has ls 7 [(0, .ref a_o), (1, .int p_b), (2, .int p_t)] := hl
  refine lv_aload_n hx hb dX11_first_0 rfl (lv_at hl 0 rfl) ?_
  refine va_get (D := G.1) (ci := 11) (v := .ref a_h) (C := RX11) (T := TX11) (N := 17) hx hb hts inG_X11 hown hK hP 0 rfl rfl 0 (by decide) (hts _ fl_X11_12) (fun _ h9 => h9) rfl dX11_first_1 ?_
  refine va_get (D := G.1) (ci := 1) (v := .ref a_b) (C := RX1) (T := TX1) (N := 13) hx hb hts inG_X1 hown hK hP 2 rfl rfl 7 (by decide) (hts _ fl_X11_167) (fun _ h9 => h9) rfl dX11_first_4 ?_
  refine lv_iload_n hx hb dX11_first_7 rfl (lv_at hl 1 rfl) ?_
  obtain ⟨hPc, hDc, hFc⟩ := g5_sub3 (wc := [(a_b, (oc6 5 24 a_bn e_b))]) hP hD hS hA [5] (by decide) rfl
  refine va_calli (va_runV (As := [.int p_b]) (rest := []) ⟨hx, hb, hml, hown, hts⟩ (t_has_B l G a_b a_bn s.heap.size e_b p_b h_e_b) (cwV 1 hts gV_X11_160 rfl rfl rfl hv_X6_has ⟨Nat.le_of_ble_eq_true rfl, Nat.le_of_ble_eq_true rfl⟩) (g5_preV hPc hK hDc hN hT hS hFc (ci := 6) (q0 := 0) rfl rfl) rfl rfl hl.1 rfl (lv_room (Nat.le_of_ble_eq_true rfl)) dX11_first_8 ⟨Nat.le_of_ble_eq_true rfl, Nat.le_of_ble_eq_true rfl⟩) hS (fun q _ h => hFc q h) hFc (fun r u t H1 locs ht hvm hw hB hz1 hk1 hS => ?_)
  obtain ⟨hP1, hD1⟩ := hB
  rw [ht] at hP1
  rcases hw with ⟨i_1, rfl, rfl⟩ | ⟨i_2, rfl, rfl⟩
  ·
    have i_1 : 0 ≤ p_b.toInt ∧ p_b.toInt < e_b.toInt := i_1
    obtain ⟨hP, hD⟩ := va_join (wr := [(a_o, (oc11 a_h a_im a_ke a_k a_wa a_th a_ha a_wk a_r a_x e_tl e_fd e_fpl a_wd e_wn a_rf e_lr)), (a_k, (oc5 a_h a_j a_pt e_ln e_se e_lh e_br e_we e_me e_ce e_wy e_ho e_ov)), (a_h, (oc1 e_wa e_le e_st e_fo e_lc a_l a_g a_b a_s a_p a_w e_gb a_bb)), (a_g, (oc6 6 5 a_gn e_g)), (a_gn, (arI G 30 f_g)), (a_bn, (arI G 120 f_b)), (a_p, (oc6 8 5 a_pn e_p)), (a_pn, (arI G 40 f_p)), (a_bb, (arJ G 24 f_bb)), (a_j, (oc2 a_as a_sk)), (a_as, (arI G 8 f_as)), (a_sk, (arJ G 50 f_sk)), (a_l, (arW G 6 f_l)), (a_pt, (arI G 200 f_pt))]) hP hD [5] [0, 1, 2, 3, 4, 6, 7, 8, 9, 10, 11, 12, 13, 14] rfl rfl (by decide) (by decide) hk1 hFc hP1 hD1
    generalize H1 = H at hP hS ⊢
    refine g5_rs [(a_o, (oc11 a_h a_im a_ke a_k a_wa a_th a_ha a_wk a_r a_x e_tl e_fd e_fpl a_wd e_wn a_rf e_lr)), (a_k, (oc5 a_h a_j a_pt e_ln e_se e_lh e_br e_we e_me e_ce e_wy e_ho e_ov)), (a_h, (oc1 e_wa e_le e_st e_fo e_lc a_l a_g a_b a_s a_p a_w e_gb a_bb)), (a_g, (oc6 6 5 a_gn e_g)), (a_gn, (arI G 30 f_g)), (a_bn, (arI G 120 f_b)), (a_p, (oc6 8 5 a_pn e_p)), (a_pn, (arI G 40 f_p)), (a_bb, (arJ G 24 f_bb)), (a_j, (oc2 a_as a_sk)), (a_as, (arI G 8 f_as)), (a_sk, (arJ G 50 f_sk)), (a_l, (arW G 6 f_l)), (a_pt, (arI G 200 f_pt)), (a_b, (oc6 5 24 a_bn e_b))] hP hD (fun hP hD => ?_)
    refine lv_if_eq (tgt := 23) hx hb dX11_first_11 (by decide) (fun c_3 => ?_) (fun c_3 => ?_)
    ·
      exact absurd c_3 (by decide)
    ·
      refine lv_iload_n hx hb dX11_first_14 rfl (lv_at hl 2 rfl) ?_
      refine lv_if_lt (tgt := 23) hx hb dX11_first_15 (by decide) (fun c_4 => ?_) (fun c_4 => ?_)
      ·
        have i_4 : p_t.toInt < 0 := by have z := g5_lt (a := p_t.toInt) (b := 0) (by rfl) (by decide) c_4; omega
        refine lv_iconst (v := (-1)) hx hb dX11_first_23 (by decide) ?_
        exact W.iret (v := (-1)) hx hb hr (fun t ht hW => ⟨⟨(-1), [(a_o, (oc11 a_h a_im a_ke a_k a_wa a_th a_ha a_wk a_r a_x e_tl e_fd e_fpl a_wd e_wn a_rf e_lr)), (a_k, (oc5 a_h a_j a_pt e_ln e_se e_lh e_br e_we e_me e_ce e_wy e_ho e_ov)), (a_h, (oc1 e_wa e_le e_st e_fo e_lc a_l a_g a_b a_s a_p a_w e_gb a_bb)), (a_g, (oc6 6 5 a_gn e_g)), (a_gn, (arI G 30 f_g)), (a_b, (oc6 5 24 a_bn e_b)), (a_bn, (arI G 120 f_b)), (a_p, (oc6 8 5 a_pn e_p)), (a_pn, (arI G 40 f_p)), (a_bb, (arJ G 24 f_bb)), (a_j, (oc2 a_as a_sk)), (a_as, (arI G 8 f_as)), (a_sk, (arJ G 50 f_sk)), (a_l, (arW G 6 f_l)), (a_pt, (arI G 200 f_pt))], rfl, ⟨(-1), e_ln, e_se, e_lh, e_br, e_we, e_me, e_ce, e_wy, e_ho, e_ov, f_pt, f_as, f_sk, h_e_ov, rfl, rfl⟩, by rw [ht]; exact hP.sub [0, 1, 2, 3, 4, 14, 5, 6, 7, 8, 9, 10, 11, 12, 13] rfl, hD.sub [0, 1, 2, 3, 4, 14, 5, 6, 7, 8, 9, 10, 11, 12, 13] (by decide) rfl⟩, hS.F ht⟩) hS.2.2 dX11_first_24
      ·
        have i_4 : p_t.toInt ≥ 0 := by have z := g5_ltN (a := p_t.toInt) (b := 0) (by rfl) (by decide) c_4; omega
        refine lv_iload_n hx hb dX11_first_18 rfl (lv_at hl 2 rfl) ?_
        refine lv_iconst (v := 2) hx hb dX11_first_19 (by decide) ?_
        refine lv_icmp_le (tgt := 25) hx hb dX11_first_20 (by decide) (fun c_5 => ?_) (fun c_5 => ?_)
        ·
          have i_5 : p_t.toInt ≤ 2 := by have z := g5_le (a := p_t.toInt) (b := 2) (by rfl) (by decide) c_5; omega
          refine lv_iconst (v := 0) hx hb dX11_first_25 (by decide) ?_
          refine lv_istore_n (lv' := [(3, .int 0), (0, .ref a_o), (1, .int p_b), (2, .int p_t)]) hx hb dX11_first_26 rfl hl (by decide) rfl (fun ls hl => ?_)
          refine g5_loop (α := (Int32) × (Int32) × (Int32) × (Int32) × (Int32) × (Int32) × (Int32) × (Int32) × (Int32) × (Int32) × (Nat → Int32) × (Nat → Int32) × (Nat → Int64) × (Int32)) (fun (q : (Int32) × (Int32) × (Int32) × (Int32) × (Int32) × (Int32) × (Int32) × (Int32) × (Int32) × (Int32) × (Nat → Int32) × (Nat → Int32) × (Nat → Int64) × (Int32)) (ls : Array Slot) (H : Heap) (locs : List Loc) => match q with | (k_h, k_se, k_lh, k_br, k_we, k_me, k_ce, k_wy, k_ho, k_ov, k_pt, k_as, k_sk, k_ln) => lv_has ls 7 [(3, .int k_h), (0, .ref a_o), (1, .int p_b), (2, .int p_t)] ∧ va_P G.1 vwCl [(a_o, (oc11 a_h a_im a_ke a_k a_wa a_th a_ha a_wk a_r a_x e_tl e_fd e_fpl a_wd e_wn a_rf e_lr)), (a_k, (oc5 a_h a_j a_pt k_ln k_se k_lh k_br k_we k_me k_ce k_wy k_ho k_ov)), (a_h, (oc1 e_wa e_le e_st e_fo e_lc a_l a_g a_b a_s a_p a_w e_gb a_bb)), (a_g, (oc6 6 5 a_gn e_g)), (a_gn, (arI G 30 f_g)), (a_bn, (arI G 120 f_b)), (a_p, (oc6 8 5 a_pn e_p)), (a_pn, (arI G 40 f_p)), (a_bb, (arJ G 24 f_bb)), (a_j, (oc2 a_as a_sk)), (a_as, (arI G 8 k_as)), (a_sk, (arJ G 50 k_sk)), (a_l, (arW G 6 f_l)), (a_pt, (arI G 200 k_pt)), (a_b, (oc6 5 24 a_bn e_b))] H ∧ va_D A [(a_o, (oc11 a_h a_im a_ke a_k a_wa a_th a_ha a_wk a_r a_x e_tl e_fd e_fpl a_wd e_wn a_rf e_lr)), (a_k, (oc5 a_h a_j a_pt k_ln k_se k_lh k_br k_we k_me k_ce k_wy k_ho k_ov)), (a_h, (oc1 e_wa e_le e_st e_fo e_lc a_l a_g a_b a_s a_p a_w e_gb a_bb)), (a_g, (oc6 6 5 a_gn e_g)), (a_gn, (arI G 30 f_g)), (a_bn, (arI G 120 f_b)), (a_p, (oc6 8 5 a_pn e_p)), (a_pn, (arI G 40 f_p)), (a_bb, (arJ G 24 f_bb)), (a_j, (oc2 a_as a_sk)), (a_as, (arI G 8 k_as)), (a_sk, (arJ G 50 k_sk)), (a_l, (arW G 6 f_l)), (a_pt, (arI G 200 k_pt)), (a_b, (oc6 5 24 a_bn e_b))] ∧ va_S A s.heap H locs ∧ (0 ≤ k_h.toInt ∧ k_h.toInt ≤ 24) ∧ (0 ≤ k_ov.toInt ∧ k_ov.toInt ≤ 1)) (fun (q : (Int32) × (Int32) × (Int32) × (Int32) × (Int32) × (Int32) × (Int32) × (Int32) × (Int32) × (Int32) × (Nat → Int32) × (Nat → Int32) × (Nat → Int64) × (Int32)) => match q with | (k_h, k_se, k_lh, k_br, k_we, k_me, k_ce, k_wy, k_ho, k_ov, k_pt, k_as, k_sk, k_ln) => Int.toNat (24 - k_h.toInt)) (0, e_se, e_lh, e_br, e_we, e_me, e_ce, e_wy, e_ho, e_ov, f_pt, f_as, f_sk, e_ln) ⟨lv_sub hl [0, 1, 2, 3] rfl, hP, hD, hS, ⟨by decide, by decide⟩, h_e_ov⟩ ?_
          rintro ⟨k_h, k_se, k_lh, k_br, k_we, k_me, k_ce, k_wy, k_ho, k_ov, k_pt, k_as, k_sk, k_ln⟩ ls H locs ⟨hl, hP, hD, hS, i_6, i_7⟩ ih_27_8
          have hl : lv_has ls 7 [(3, .int k_h), (0, .ref a_o), (1, .int p_b), (2, .int p_t)] := hl
          have i_6 : 0 ≤ k_h.toInt ∧ k_h.toInt ≤ 24 := i_6
          have i_7 : 0 ≤ k_ov.toInt ∧ k_ov.toInt ≤ 1 := i_7
          refine g5_rs [(a_o, (oc11 a_h a_im a_ke a_k a_wa a_th a_ha a_wk a_r a_x e_tl e_fd e_fpl a_wd e_wn a_rf e_lr)), (a_k, (oc5 a_h a_j a_pt k_ln k_se k_lh k_br k_we k_me k_ce k_wy k_ho k_ov)), (a_h, (oc1 e_wa e_le e_st e_fo e_lc a_l a_g a_b a_s a_p a_w e_gb a_bb)), (a_g, (oc6 6 5 a_gn e_g)), (a_gn, (arI G 30 f_g)), (a_bn, (arI G 120 f_b)), (a_p, (oc6 8 5 a_pn e_p)), (a_pn, (arI G 40 f_p)), (a_bb, (arJ G 24 f_bb)), (a_j, (oc2 a_as a_sk)), (a_as, (arI G 8 k_as)), (a_sk, (arJ G 50 k_sk)), (a_l, (arW G 6 f_l)), (a_pt, (arI G 200 k_pt)), (a_b, (oc6 5 24 a_bn e_b))] hP hD (fun hP hD => ?_)
          refine lv_iload_n hx hb dX11_first_27 rfl (lv_at hl 0 rfl) ?_
          refine lv_bipush (v := 24) hx hb dX11_first_28 (by decide) ?_
          refine lv_icmp_ge (tgt := 138) hx hb dX11_first_30 (by decide) (fun c_9 => ?_) (fun c_9 => ?_)
          ·
            have i_9 : k_h.toInt ≥ 24 := by have z := g5_ge (a := k_h.toInt) (b := 24) (by rfl) (by decide) c_9; omega
            refine lv_iconst (v := (-1)) hx hb dX11_first_138 (by decide) ?_
            exact W.iret (v := (-1)) hx hb hr (fun t ht hW => ⟨⟨(-1), [(a_o, (oc11 a_h a_im a_ke a_k a_wa a_th a_ha a_wk a_r a_x e_tl e_fd e_fpl a_wd e_wn a_rf e_lr)), (a_k, (oc5 a_h a_j a_pt k_ln k_se k_lh k_br k_we k_me k_ce k_wy k_ho k_ov)), (a_h, (oc1 e_wa e_le e_st e_fo e_lc a_l a_g a_b a_s a_p a_w e_gb a_bb)), (a_g, (oc6 6 5 a_gn e_g)), (a_gn, (arI G 30 f_g)), (a_b, (oc6 5 24 a_bn e_b)), (a_bn, (arI G 120 f_b)), (a_p, (oc6 8 5 a_pn e_p)), (a_pn, (arI G 40 f_p)), (a_bb, (arJ G 24 f_bb)), (a_j, (oc2 a_as a_sk)), (a_as, (arI G 8 k_as)), (a_sk, (arJ G 50 k_sk)), (a_l, (arW G 6 f_l)), (a_pt, (arI G 200 k_pt))], rfl, ⟨(-1), k_ln, k_se, k_lh, k_br, k_we, k_me, k_ce, k_wy, k_ho, k_ov, k_pt, k_as, k_sk, i_7, rfl, rfl⟩, by rw [ht]; exact hP.sub [0, 1, 2, 3, 4, 14, 5, 6, 7, 8, 9, 10, 11, 12, 13] rfl, hD.sub [0, 1, 2, 3, 4, 14, 5, 6, 7, 8, 9, 10, 11, 12, 13] (by decide) rfl⟩, hS.F ht⟩) hS.2.2 dX11_first_139
          ·
            have i_9 : k_h.toInt < 24 := by have z := g5_geN (a := k_h.toInt) (b := 24) (by rfl) (by decide) c_9; omega
            refine lv_iconst (v := 0) hx hb dX11_first_33 (by decide) ?_
            refine lv_istore (lv' := [(4, .int 0), (3, .int k_h), (0, .ref a_o), (1, .int p_b), (2, .int p_t)]) hx hb dX11_first_34 hl (by decide) rfl (fun ls hl => ?_)
            refine g5_loop (α := (Int32) × (Int32) × (Int32) × (Int32) × (Int32) × (Int32) × (Int32) × (Int32) × (Int32) × (Int32) × (Nat → Int32) × (Nat → Int32) × (Nat → Int64) × (Int32)) (fun (q : (Int32) × (Int32) × (Int32) × (Int32) × (Int32) × (Int32) × (Int32) × (Int32) × (Int32) × (Int32) × (Nat → Int32) × (Nat → Int32) × (Nat → Int64) × (Int32)) (ls : Array Slot) (H : Heap) (locs : List Loc) => match q with | (m_b, m_se, m_lh, m_br, m_we, m_me, m_ce, m_wy, m_ho, m_ov, m_pt, m_as, m_sk, m_ln) => lv_has ls 7 [(4, .int m_b), (3, .int k_h), (0, .ref a_o), (1, .int p_b), (2, .int p_t)] ∧ va_P G.1 vwCl [(a_o, (oc11 a_h a_im a_ke a_k a_wa a_th a_ha a_wk a_r a_x e_tl e_fd e_fpl a_wd e_wn a_rf e_lr)), (a_k, (oc5 a_h a_j a_pt m_ln m_se m_lh m_br m_we m_me m_ce m_wy m_ho m_ov)), (a_h, (oc1 e_wa e_le e_st e_fo e_lc a_l a_g a_b a_s a_p a_w e_gb a_bb)), (a_g, (oc6 6 5 a_gn e_g)), (a_gn, (arI G 30 f_g)), (a_bn, (arI G 120 f_b)), (a_p, (oc6 8 5 a_pn e_p)), (a_pn, (arI G 40 f_p)), (a_bb, (arJ G 24 f_bb)), (a_j, (oc2 a_as a_sk)), (a_as, (arI G 8 m_as)), (a_sk, (arJ G 50 m_sk)), (a_l, (arW G 6 f_l)), (a_pt, (arI G 200 m_pt)), (a_b, (oc6 5 24 a_bn e_b))] H ∧ va_D A [(a_o, (oc11 a_h a_im a_ke a_k a_wa a_th a_ha a_wk a_r a_x e_tl e_fd e_fpl a_wd e_wn a_rf e_lr)), (a_k, (oc5 a_h a_j a_pt m_ln m_se m_lh m_br m_we m_me m_ce m_wy m_ho m_ov)), (a_h, (oc1 e_wa e_le e_st e_fo e_lc a_l a_g a_b a_s a_p a_w e_gb a_bb)), (a_g, (oc6 6 5 a_gn e_g)), (a_gn, (arI G 30 f_g)), (a_bn, (arI G 120 f_b)), (a_p, (oc6 8 5 a_pn e_p)), (a_pn, (arI G 40 f_p)), (a_bb, (arJ G 24 f_bb)), (a_j, (oc2 a_as a_sk)), (a_as, (arI G 8 m_as)), (a_sk, (arJ G 50 m_sk)), (a_l, (arW G 6 f_l)), (a_pt, (arI G 200 m_pt)), (a_b, (oc6 5 24 a_bn e_b))] ∧ va_S A s.heap H locs ∧ (0 ≤ m_b.toInt ∧ m_b.toInt ≤ 5) ∧ (0 ≤ m_ov.toInt ∧ m_ov.toInt ≤ 1)) (fun (q : (Int32) × (Int32) × (Int32) × (Int32) × (Int32) × (Int32) × (Int32) × (Int32) × (Int32) × (Int32) × (Nat → Int32) × (Nat → Int32) × (Nat → Int64) × (Int32)) => match q with | (m_b, m_se, m_lh, m_br, m_we, m_me, m_ce, m_wy, m_ho, m_ov, m_pt, m_as, m_sk, m_ln) => Int.toNat (5 - m_b.toInt)) (0, k_se, k_lh, k_br, k_we, k_me, k_ce, k_wy, k_ho, k_ov, k_pt, k_as, k_sk, k_ln) ⟨lv_sub hl [0, 1, 2, 3, 4] rfl, hP, hD, hS, ⟨by decide, by decide⟩, i_7⟩ ?_
            rintro ⟨m_b, m_se, m_lh, m_br, m_we, m_me, m_ce, m_wy, m_ho, m_ov, m_pt, m_as, m_sk, m_ln⟩ ls H locs ⟨hl, hP, hD, hS, i_10, i_11⟩ ih_36_12
            have hl : lv_has ls 7 [(4, .int m_b), (3, .int k_h), (0, .ref a_o), (1, .int p_b), (2, .int p_t)] := hl
            have i_10 : 0 ≤ m_b.toInt ∧ m_b.toInt ≤ 5 := i_10
            have i_11 : 0 ≤ m_ov.toInt ∧ m_ov.toInt ≤ 1 := i_11
            refine g5_rs [(a_o, (oc11 a_h a_im a_ke a_k a_wa a_th a_ha a_wk a_r a_x e_tl e_fd e_fpl a_wd e_wn a_rf e_lr)), (a_k, (oc5 a_h a_j a_pt m_ln m_se m_lh m_br m_we m_me m_ce m_wy m_ho m_ov)), (a_h, (oc1 e_wa e_le e_st e_fo e_lc a_l a_g a_b a_s a_p a_w e_gb a_bb)), (a_g, (oc6 6 5 a_gn e_g)), (a_gn, (arI G 30 f_g)), (a_bn, (arI G 120 f_b)), (a_p, (oc6 8 5 a_pn e_p)), (a_pn, (arI G 40 f_p)), (a_bb, (arJ G 24 f_bb)), (a_j, (oc2 a_as a_sk)), (a_as, (arI G 8 m_as)), (a_sk, (arJ G 50 m_sk)), (a_l, (arW G 6 f_l)), (a_pt, (arI G 200 m_pt)), (a_b, (oc6 5 24 a_bn e_b))] hP hD (fun hP hD => ?_)
            refine lv_iload hx hb dX11_first_36 (lv_at hl 0 rfl) ?_
            refine lv_aload_n hx hb dX11_first_38 rfl (lv_at hl 2 rfl) ?_
            refine va_get (D := G.1) (ci := 11) (v := .ref a_h) (C := RX11) (T := TX11) (N := 17) hx hb hts inG_X11 hown hK hP 0 rfl rfl 0 (by decide) (hts _ fl_X11_12) (fun _ h9 => h9) rfl dX11_first_39 ?_
            refine va_get (D := G.1) (ci := 1) (v := .ref a_b) (C := RX1) (T := TX1) (N := 13) hx hb hts inG_X1 hown hK hP 2 rfl rfl 7 (by decide) (hts _ fl_X11_167) (fun _ h9 => h9) rfl dX11_first_42 ?_
            refine va_get (D := G.1) (ci := 6) (v := .int e_b) (C := RX6) (T := TX6) (N := 4) hx hb hts inG_X6 hown hK hP 14 rfl rfl 3 (by decide) (hts _ fl_X11_238) (fun _ h9 => h9) rfl dX11_first_45 ?_
            refine lv_icmp_ge (tgt := 132) hx hb dX11_first_48 (by decide) (fun c_13 => ?_) (fun c_13 => ?_)
            ·
              have i_13 : m_b.toInt ≥ e_b.toInt := by have z := g5_ge (a := m_b.toInt) (b := e_b.toInt) (by rfl) (by rfl) c_13; omega
              refine lv_iinc (v := (k_h + 1)) (lv' := [(3, .int (k_h + 1)), (4, .int m_b), (0, .ref a_o), (1, .int p_b), (2, .int p_t)]) hx hb dX11_first_132 hl (k := 1) rfl rfl (by decide) rfl (fun ls hl => ?_)
              have t_14 : (k_h + 1).toInt = k_h.toInt + 1 := g5_iadd (a := k_h.toInt) (b := 1) rfl (by decide) (by omega) (by omega)
              refine lv_goto (tgt := 27) hx hb dX11_first_135 (by decide) ?_
              exact ih_27_8 ((k_h + 1), m_se, m_lh, m_br, m_we, m_me, m_ce, m_wy, m_ho, m_ov, m_pt, m_as, m_sk, m_ln) ls H locs (show Int.toNat (24 - (k_h + 1).toInt) < Int.toNat (24 - k_h.toInt) from g_up (show k_h.toInt < (k_h + 1).toInt by omega) (show k_h.toInt < 24 by omega)) ⟨lv_sub hl [0, 2, 3, 4] rfl, hP, hD, hS, ⟨by omega, by omega⟩, i_11⟩
            ·
              have i_13 : m_b.toInt < e_b.toInt := by have z := g5_geN (a := m_b.toInt) (b := e_b.toInt) (by rfl) (by rfl) c_13; omega
              refine lv_iload hx hb dX11_first_51 (lv_at hl 0 rfl) ?_
              refine lv_iload_n hx hb dX11_first_53 rfl (lv_at hl 3 rfl) ?_
              refine lv_icmp_ne (tgt := 61) hx hb dX11_first_54 (by decide) (fun c_15 => ?_) (fun c_15 => ?_)
              ·
                have n_15 : gNe (m_b.toInt) (p_b.toInt) := by have z := g5_ne (a := m_b.toInt) (b := p_b.toInt) (by rfl) (by rfl) c_15; unfold gNe; omega
                refine lv_aload_n hx hb dX11_first_61 rfl (lv_at hl 2 rfl) ?_
                refine va_get (D := G.1) (ci := 11) (v := .ref a_h) (C := RX11) (T := TX11) (N := 17) hx hb hts inG_X11 hown hK hP 0 rfl rfl 0 (by decide) (hts _ fl_X11_12) (fun _ h9 => h9) rfl dX11_first_62 ?_
                refine va_get (D := G.1) (ci := 1) (v := .ref a_b) (C := RX1) (T := TX1) (N := 13) hx hb hts inG_X1 hown hK hP 2 rfl rfl 7 (by decide) (hts _ fl_X11_167) (fun _ h9 => h9) rfl dX11_first_65 ?_
                refine lv_iload hx hb dX11_first_68 (lv_at hl 0 rfl) ?_
                refine lv_iload_n hx hb dX11_first_70 rfl (lv_at hl 1 rfl) ?_
                obtain ⟨hPc, hDc, hFc⟩ := g5_sub3 (wc := [(a_b, (oc6 5 24 a_bn e_b)), (a_bn, (arI G 120 f_b))]) hP hD hS hA [14, 5] (by decide) rfl
                refine va_calli (va_runV (As := [.int m_b, .int k_h]) (rest := []) ⟨hx, hb, hml, hown, hts⟩ (t_get_B l G a_b a_bn H.size e_b m_b k_h f_b h_e_b) (cwV 2 hts gV_X11_163 rfl rfl rfl hv_X6_get ⟨Nat.le_of_ble_eq_true rfl, Nat.le_of_ble_eq_true rfl⟩) (g5_preV hPc hK hDc hN hT hS hFc (ci := 6) (q0 := 0) rfl rfl) rfl rfl hl.1 rfl (lv_room (Nat.le_of_ble_eq_true rfl)) dX11_first_71 ⟨Nat.le_of_ble_eq_true rfl, Nat.le_of_ble_eq_true rfl⟩) hS (fun q _ h => hFc q h) hFc (fun r u t H1 locs ht hvm hw hB hz1 hk1 hS => ?_)
                obtain ⟨hP1, hD1⟩ := hB
                rw [ht] at hP1
                obtain ⟨z17, i_16, y18, rfl⟩ := hw
                have i_16 : z17 = tget f_b e_b.toInt 24 m_b.toInt k_h.toInt := i_16
                obtain ⟨hP, hD⟩ := va_join (wr := [(a_o, (oc11 a_h a_im a_ke a_k a_wa a_th a_ha a_wk a_r a_x e_tl e_fd e_fpl a_wd e_wn a_rf e_lr)), (a_k, (oc5 a_h a_j a_pt m_ln m_se m_lh m_br m_we m_me m_ce m_wy m_ho m_ov)), (a_h, (oc1 e_wa e_le e_st e_fo e_lc a_l a_g a_b a_s a_p a_w e_gb a_bb)), (a_g, (oc6 6 5 a_gn e_g)), (a_gn, (arI G 30 f_g)), (a_p, (oc6 8 5 a_pn e_p)), (a_pn, (arI G 40 f_p)), (a_bb, (arJ G 24 f_bb)), (a_j, (oc2 a_as a_sk)), (a_as, (arI G 8 m_as)), (a_sk, (arJ G 50 m_sk)), (a_l, (arW G 6 f_l)), (a_pt, (arI G 200 m_pt))]) hP hD [14, 5] [0, 1, 2, 3, 4, 6, 7, 8, 9, 10, 11, 12, 13] rfl rfl (by decide) (by decide) hk1 hFc hP1 hD1
                generalize H1 = H at hP hS ⊢
                refine g5_rs [(a_o, (oc11 a_h a_im a_ke a_k a_wa a_th a_ha a_wk a_r a_x e_tl e_fd e_fpl a_wd e_wn a_rf e_lr)), (a_k, (oc5 a_h a_j a_pt m_ln m_se m_lh m_br m_we m_me m_ce m_wy m_ho m_ov)), (a_h, (oc1 e_wa e_le e_st e_fo e_lc a_l a_g a_b a_s a_p a_w e_gb a_bb)), (a_g, (oc6 6 5 a_gn e_g)), (a_gn, (arI G 30 f_g)), (a_p, (oc6 8 5 a_pn e_p)), (a_pn, (arI G 40 f_p)), (a_bb, (arJ G 24 f_bb)), (a_j, (oc2 a_as a_sk)), (a_as, (arI G 8 m_as)), (a_sk, (arJ G 50 m_sk)), (a_l, (arW G 6 f_l)), (a_pt, (arI G 200 m_pt)), (a_b, (oc6 5 24 a_bn e_b)), (a_bn, (arI G 120 f_b))] hP hD (fun hP hD => ?_)
                refine g5_ti (v := z17) y18 ?_
                refine lv_istore (lv' := [(5, .int z17), (4, .int m_b), (3, .int k_h), (0, .ref a_o), (1, .int p_b), (2, .int p_t)]) hx hb dX11_first_74 hl (by decide) rfl (fun ls hl => ?_)
                refine lv_iload hx hb dX11_first_76 (lv_at hl 0 rfl) ?_
                refine lv_iconst (v := (-1)) hx hb dX11_first_78 (by decide) ?_
                refine lv_icmp_ne (tgt := 86) hx hb dX11_first_79 (by decide) (fun c_19 => ?_) (fun c_19 => ?_)
                ·
                  have n_19 : gNe (z17.toInt) ((-1)) := by have z := g5_ne (a := z17.toInt) (b := (-1)) (by rfl) (by decide) c_19; unfold gNe; omega
                  refine lv_aload_n hx hb dX11_first_86 rfl (lv_at hl 3 rfl) ?_
                  refine va_get (D := G.1) (ci := 11) (v := .ref a_k) (C := RX11) (T := TX11) (N := 17) hx hb hts inG_X11 hown hK hP 0 rfl rfl 3 (by decide) (hts _ fl_X11_29) (fun _ h9 => h9) rfl dX11_first_87 ?_
                  refine lv_iload hx hb dX11_first_90 (lv_at hl 0 rfl) ?_
                  refine lv_iload_n hx hb dX11_first_92 rfl (lv_at hl 2 rfl) ?_
                  refine lv_iload_n hx hb dX11_first_93 rfl (lv_at hl 4 rfl) ?_
                  obtain ⟨hPc, hDc, hFc⟩ := g5_sub3 (wc := [(a_k, (oc5 a_h a_j a_pt m_ln m_se m_lh m_br m_we m_me m_ce m_wy m_ho m_ov)), (a_h, (oc1 e_wa e_le e_st e_fo e_lc a_l a_g a_b a_s a_p a_w e_gb a_bb)), (a_g, (oc6 6 5 a_gn e_g)), (a_gn, (arI G 30 f_g)), (a_b, (oc6 5 24 a_bn e_b)), (a_bn, (arI G 120 f_b)), (a_p, (oc6 8 5 a_pn e_p)), (a_pn, (arI G 40 f_p)), (a_bb, (arJ G 24 f_bb)), (a_j, (oc2 a_as a_sk)), (a_as, (arI G 8 m_as)), (a_sk, (arJ G 50 m_sk)), (a_l, (arW G 6 f_l)), (a_pt, (arI G 200 m_pt))]) hP hD hS hA [1, 2, 3, 4, 13, 14, 5, 6, 7, 8, 9, 10, 11, 12] (by decide) rfl
                  refine va_calli (va_runV (As := [.int z17, .int k_h, .int p_b]) (rest := []) ⟨hx, hb, hml, hown, hts⟩ (s_latenessN l G a_k a_h a_g a_gn a_b a_bn a_p a_pn a_bb a_j a_as a_sk a_l a_pt a_s a_w H.size e_le e_st e_fo e_lc e_g e_b e_p m_ln m_se m_lh m_br m_we m_me m_ce m_wy m_ho m_ov z17 k_h p_b e_wa e_gb f_g f_b f_p f_bb m_as m_sk f_l m_pt h_e_g h_e_b h_e_p i_11 (e_gk) (e_pk) (e_gi) (e_f)) (cwV 3 hts gV_X11_234 rfl rfl rfl hv_X5_lateness ⟨Nat.le_of_ble_eq_true rfl, Nat.le_of_ble_eq_true rfl⟩) (g5_preV hPc hK hDc hN hT hS hFc (ci := 5) (q0 := 0) rfl rfl) rfl rfl hl.1 rfl (lv_room (Nat.le_of_ble_eq_true rfl)) dX11_first_94 ⟨Nat.le_of_ble_eq_true rfl, Nat.le_of_ble_eq_true rfl⟩) hS (fun q _ h => hFc q h) hFc (fun r u t H1 locs ht hvm hw hB hz1 hk1 hS => ?_)
                  obtain ⟨hP1, hD1⟩ := hB
                  rw [ht] at hP1
                  obtain ⟨z21, z22, z23, z24, z25, z26, z27, z28, z29, z30, z31, z32, z33, z34, i_20, y35, rfl⟩ := hw
                  have i_20 : 0 ≤ z31.toInt ∧ z31.toInt ≤ 1 := i_20
                  obtain ⟨hP, hD⟩ := va_join (wr := [(a_o, (oc11 a_h a_im a_ke a_k a_wa a_th a_ha a_wk a_r a_x e_tl e_fd e_fpl a_wd e_wn a_rf e_lr))]) hP hD [1, 2, 3, 4, 13, 14, 5, 6, 7, 8, 9, 10, 11, 12] [0] rfl rfl (by decide) (by decide) hk1 hFc hP1 hD1
                  generalize H1 = H at hP hS ⊢
                  refine g5_rs [(a_o, (oc11 a_h a_im a_ke a_k a_wa a_th a_ha a_wk a_r a_x e_tl e_fd e_fpl a_wd e_wn a_rf e_lr)), (a_k, (oc5 a_h a_j a_pt z22 z23 z24 z25 z26 z27 z28 z29 z30 z31)), (a_h, (oc1 e_wa e_le e_st e_fo e_lc a_l a_g a_b a_s a_p a_w e_gb a_bb)), (a_g, (oc6 6 5 a_gn e_g)), (a_gn, (arI G 30 f_g)), (a_b, (oc6 5 24 a_bn e_b)), (a_bn, (arI G 120 f_b)), (a_p, (oc6 8 5 a_pn e_p)), (a_pn, (arI G 40 f_p)), (a_bb, (arJ G 24 f_bb)), (a_j, (oc2 a_as a_sk)), (a_as, (arI G 8 z33)), (a_sk, (arJ G 50 z34)), (a_l, (arW G 6 f_l)), (a_pt, (arI G 200 z32))] hP hD (fun hP hD => ?_)
                  refine g5_ti (v := z21) y35 ?_
                  refine lv_istore (lv' := [(6, .int z21), (5, .int z17), (4, .int m_b), (3, .int k_h), (0, .ref a_o), (1, .int p_b), (2, .int p_t)]) hx hb dX11_first_97 hl (by decide) rfl (fun ls hl => ?_)
                  refine lv_iload hx hb dX11_first_99 (lv_at hl 0 rfl) ?_
                  refine lv_iconst (v := (-1)) hx hb dX11_first_101 (by decide) ?_
                  refine lv_icmp_eq (tgt := 126) hx hb dX11_first_102 (by decide) (fun c_36 => ?_) (fun c_36 => ?_)
                  ·
                    have i_36 : z21.toInt = (-1) := by have z := g5_eq (a := z21.toInt) (b := (-1)) (by rfl) (by decide) c_36; omega
                    refine lv_iinc (v := (m_b + 1)) (lv' := [(4, .int (m_b + 1)), (6, .int z21), (5, .int z17), (3, .int k_h), (0, .ref a_o), (1, .int p_b), (2, .int p_t)]) hx hb dX11_first_126 hl (k := 2) rfl rfl (by decide) rfl (fun ls hl => ?_)
                    have t_37 : (m_b + 1).toInt = m_b.toInt + 1 := g5_iadd (a := m_b.toInt) (b := 1) rfl (by decide) (by omega) (by omega)
                    refine lv_goto (tgt := 36) hx hb dX11_first_129 (by decide) ?_
                    exact ih_36_12 ((m_b + 1), z23, z24, z25, z26, z27, z28, z29, z30, z31, z32, z33, z34, z22) ls H locs (show Int.toNat (5 - (m_b + 1).toInt) < Int.toNat (5 - m_b.toInt) from g_up (show m_b.toInt < (m_b + 1).toInt by omega) (show m_b.toInt < 5 by omega)) ⟨lv_sub hl [0, 3, 4, 5, 6] rfl, hP.sub [0, 1, 2, 3, 4, 6, 7, 8, 9, 10, 11, 12, 13, 14, 5] rfl, hD.sub [0, 1, 2, 3, 4, 6, 7, 8, 9, 10, 11, 12, 13, 14, 5] (by decide) rfl, hS, ⟨by omega, by omega⟩, i_20⟩
                  ·
                    have n_36 : gNe (z21.toInt) ((-1)) := by have z := g5_eqN (a := z21.toInt) (b := (-1)) (by rfl) (by decide) c_36; unfold gNe; omega
                    refine lv_iload_n hx hb dX11_first_105 rfl (lv_at hl 6 rfl) ?_
                    refine lv_if_ne (tgt := 113) hx hb dX11_first_106 (by decide) (fun c_38 => ?_) (fun c_38 => ?_)
                    ·
                      have n_38 : gNe (p_t.toInt) (0) := by have z := g5_ne (a := p_t.toInt) (b := 0) (by rfl) (by decide) c_38; unfold gNe; omega
                      have i_38 : p_t.toInt ≥ 1 := by have z := g5_ne (a := p_t.toInt) (b := 0) (by rfl) (by decide) c_38; omega
                      refine lv_iload_n hx hb dX11_first_113 rfl (lv_at hl 6 rfl) ?_
                      refine lv_iconst (v := 1) hx hb dX11_first_114 (by decide) ?_
                      refine lv_icmp_ne (tgt := 123) hx hb dX11_first_115 (by decide) (fun c_39 => ?_) (fun c_39 => ?_)
                      ·
                        have n_39 : gNe (p_t.toInt) (1) := by have z := g5_ne (a := p_t.toInt) (b := 1) (by rfl) (by decide) c_39; unfold gNe; omega
                        have i_39 : p_t.toInt ≥ 2 := by have z := g5_ne (a := p_t.toInt) (b := 1) (by rfl) (by decide) c_39; omega
                        refine lv_iload hx hb dX11_first_123 (lv_at hl 0 rfl) ?_
                        exact W.iret (v := z21) hx hb hr (fun t ht hW => ⟨⟨z21, [(a_o, (oc11 a_h a_im a_ke a_k a_wa a_th a_ha a_wk a_r a_x e_tl e_fd e_fpl a_wd e_wn a_rf e_lr)), (a_k, (oc5 a_h a_j a_pt z22 z23 z24 z25 z26 z27 z28 z29 z30 z31)), (a_h, (oc1 e_wa e_le e_st e_fo e_lc a_l a_g a_b a_s a_p a_w e_gb a_bb)), (a_g, (oc6 6 5 a_gn e_g)), (a_gn, (arI G 30 f_g)), (a_b, (oc6 5 24 a_bn e_b)), (a_bn, (arI G 120 f_b)), (a_p, (oc6 8 5 a_pn e_p)), (a_pn, (arI G 40 f_p)), (a_bb, (arJ G 24 f_bb)), (a_j, (oc2 a_as a_sk)), (a_as, (arI G 8 z33)), (a_sk, (arJ G 50 z34)), (a_l, (arW G 6 f_l)), (a_pt, (arI G 200 z32))], rfl, ⟨z21, z22, z23, z24, z25, z26, z27, z28, z29, z30, z31, z32, z33, z34, i_20, rfl, rfl⟩, by rw [ht]; exact hP.sub [0, 1, 2, 3, 4, 5, 6, 7, 8, 9, 10, 11, 12, 13, 14] rfl, hD.sub [0, 1, 2, 3, 4, 5, 6, 7, 8, 9, 10, 11, 12, 13, 14] (by decide) rfl⟩, hS.F ht⟩) hS.2.2 dX11_first_125
                      ·
                        have i_39 : p_t.toInt = 1 := by have z := g5_neN (a := p_t.toInt) (b := 1) (by rfl) (by decide) c_39; omega
                        refine lv_iload hx hb dX11_first_118 (lv_at hl 2 rfl) ?_
                        refine lv_goto (tgt := 125) hx hb dX11_first_120 (by decide) ?_
                        exact W.iret (v := m_b) hx hb hr (fun t ht hW => ⟨⟨m_b, [(a_o, (oc11 a_h a_im a_ke a_k a_wa a_th a_ha a_wk a_r a_x e_tl e_fd e_fpl a_wd e_wn a_rf e_lr)), (a_k, (oc5 a_h a_j a_pt z22 z23 z24 z25 z26 z27 z28 z29 z30 z31)), (a_h, (oc1 e_wa e_le e_st e_fo e_lc a_l a_g a_b a_s a_p a_w e_gb a_bb)), (a_g, (oc6 6 5 a_gn e_g)), (a_gn, (arI G 30 f_g)), (a_b, (oc6 5 24 a_bn e_b)), (a_bn, (arI G 120 f_b)), (a_p, (oc6 8 5 a_pn e_p)), (a_pn, (arI G 40 f_p)), (a_bb, (arJ G 24 f_bb)), (a_j, (oc2 a_as a_sk)), (a_as, (arI G 8 z33)), (a_sk, (arJ G 50 z34)), (a_l, (arW G 6 f_l)), (a_pt, (arI G 200 z32))], rfl, ⟨m_b, z22, z23, z24, z25, z26, z27, z28, z29, z30, z31, z32, z33, z34, i_20, rfl, rfl⟩, by rw [ht]; exact hP.sub [0, 1, 2, 3, 4, 5, 6, 7, 8, 9, 10, 11, 12, 13, 14] rfl, hD.sub [0, 1, 2, 3, 4, 5, 6, 7, 8, 9, 10, 11, 12, 13, 14] (by decide) rfl⟩, hS.F ht⟩) hS.2.2 dX11_first_125
                    ·
                      have i_38 : p_t.toInt = 0 := by have z := g5_neN (a := p_t.toInt) (b := 0) (by rfl) (by decide) c_38; omega
                      refine lv_iload_n hx hb dX11_first_109 rfl (lv_at hl 3 rfl) ?_
                      refine lv_goto (tgt := 125) hx hb dX11_first_110 (by decide) ?_
                      exact W.iret (v := k_h) hx hb hr (fun t ht hW => ⟨⟨k_h, [(a_o, (oc11 a_h a_im a_ke a_k a_wa a_th a_ha a_wk a_r a_x e_tl e_fd e_fpl a_wd e_wn a_rf e_lr)), (a_k, (oc5 a_h a_j a_pt z22 z23 z24 z25 z26 z27 z28 z29 z30 z31)), (a_h, (oc1 e_wa e_le e_st e_fo e_lc a_l a_g a_b a_s a_p a_w e_gb a_bb)), (a_g, (oc6 6 5 a_gn e_g)), (a_gn, (arI G 30 f_g)), (a_b, (oc6 5 24 a_bn e_b)), (a_bn, (arI G 120 f_b)), (a_p, (oc6 8 5 a_pn e_p)), (a_pn, (arI G 40 f_p)), (a_bb, (arJ G 24 f_bb)), (a_j, (oc2 a_as a_sk)), (a_as, (arI G 8 z33)), (a_sk, (arJ G 50 z34)), (a_l, (arW G 6 f_l)), (a_pt, (arI G 200 z32))], rfl, ⟨k_h, z22, z23, z24, z25, z26, z27, z28, z29, z30, z31, z32, z33, z34, i_20, rfl, rfl⟩, by rw [ht]; exact hP.sub [0, 1, 2, 3, 4, 5, 6, 7, 8, 9, 10, 11, 12, 13, 14] rfl, hD.sub [0, 1, 2, 3, 4, 5, 6, 7, 8, 9, 10, 11, 12, 13, 14] (by decide) rfl⟩, hS.F ht⟩) hS.2.2 dX11_first_125
                ·
                  have i_19 : z17.toInt = (-1) := by have z := g5_neN (a := z17.toInt) (b := (-1)) (by rfl) (by decide) c_19; omega
                  refine lv_iconst (v := (-1)) hx hb dX11_first_82 (by decide) ?_
                  refine lv_goto (tgt := 97) hx hb dX11_first_83 (by decide) ?_
                  refine lv_istore (lv' := [(6, .int (-1)), (5, .int z17), (4, .int m_b), (3, .int k_h), (0, .ref a_o), (1, .int p_b), (2, .int p_t)]) hx hb dX11_first_97 hl (by decide) rfl (fun ls hl => ?_)
                  refine lv_iload hx hb dX11_first_99 (lv_at hl 0 rfl) ?_
                  refine lv_iconst (v := (-1)) hx hb dX11_first_101 (by decide) ?_
                  refine lv_icmp_eq (tgt := 126) hx hb dX11_first_102 (by decide) (fun c_40 => ?_) (fun c_40 => ?_)
                  ·
                    refine lv_iinc (v := (m_b + 1)) (lv' := [(4, .int (m_b + 1)), (6, .int (-1)), (5, .int z17), (3, .int k_h), (0, .ref a_o), (1, .int p_b), (2, .int p_t)]) hx hb dX11_first_126 hl (k := 2) rfl rfl (by decide) rfl (fun ls hl => ?_)
                    have t_41 : (m_b + 1).toInt = m_b.toInt + 1 := g5_iadd (a := m_b.toInt) (b := 1) rfl (by decide) (by omega) (by omega)
                    refine lv_goto (tgt := 36) hx hb dX11_first_129 (by decide) ?_
                    exact ih_36_12 ((m_b + 1), m_se, m_lh, m_br, m_we, m_me, m_ce, m_wy, m_ho, m_ov, m_pt, m_as, m_sk, m_ln) ls H locs (show Int.toNat (5 - (m_b + 1).toInt) < Int.toNat (5 - m_b.toInt) from g_up (show m_b.toInt < (m_b + 1).toInt by omega) (show m_b.toInt < 5 by omega)) ⟨lv_sub hl [0, 3, 4, 5, 6] rfl, hP.sub [0, 1, 2, 3, 4, 14, 5, 6, 7, 8, 9, 10, 11, 12, 13] rfl, hD.sub [0, 1, 2, 3, 4, 14, 5, 6, 7, 8, 9, 10, 11, 12, 13] (by decide) rfl, hS, ⟨by omega, by omega⟩, i_11⟩
                  ·
                    exact absurd c_40 (by decide)
              ·
                have i_15 : m_b.toInt = p_b.toInt := by have z := g5_neN (a := m_b.toInt) (b := p_b.toInt) (by rfl) (by rfl) c_15; omega
                refine lv_iconst (v := (-1)) hx hb dX11_first_57 (by decide) ?_
                refine lv_goto (tgt := 74) hx hb dX11_first_58 (by decide) ?_
                refine lv_istore (lv' := [(5, .int (-1)), (4, .int m_b), (3, .int k_h), (0, .ref a_o), (1, .int p_b), (2, .int p_t)]) hx hb dX11_first_74 hl (by decide) rfl (fun ls hl => ?_)
                refine lv_iload hx hb dX11_first_76 (lv_at hl 0 rfl) ?_
                refine lv_iconst (v := (-1)) hx hb dX11_first_78 (by decide) ?_
                refine lv_icmp_ne (tgt := 86) hx hb dX11_first_79 (by decide) (fun c_42 => ?_) (fun c_42 => ?_)
                ·
                  exact absurd c_42 (by decide)
                ·
                  refine lv_iconst (v := (-1)) hx hb dX11_first_82 (by decide) ?_
                  refine lv_goto (tgt := 97) hx hb dX11_first_83 (by decide) ?_
                  refine lv_istore (lv' := [(6, .int (-1)), (5, .int (-1)), (4, .int m_b), (3, .int k_h), (0, .ref a_o), (1, .int p_b), (2, .int p_t)]) hx hb dX11_first_97 hl (by decide) rfl (fun ls hl => ?_)
                  refine lv_iload hx hb dX11_first_99 (lv_at hl 0 rfl) ?_
                  refine lv_iconst (v := (-1)) hx hb dX11_first_101 (by decide) ?_
                  refine lv_icmp_eq (tgt := 126) hx hb dX11_first_102 (by decide) (fun c_43 => ?_) (fun c_43 => ?_)
                  ·
                    refine lv_iinc (v := (m_b + 1)) (lv' := [(4, .int (m_b + 1)), (6, .int (-1)), (5, .int (-1)), (3, .int k_h), (0, .ref a_o), (1, .int p_b), (2, .int p_t)]) hx hb dX11_first_126 hl (k := 2) rfl rfl (by decide) rfl (fun ls hl => ?_)
                    have t_44 : (m_b + 1).toInt = m_b.toInt + 1 := g5_iadd (a := m_b.toInt) (b := 1) rfl (by decide) (by omega) (by omega)
                    refine lv_goto (tgt := 36) hx hb dX11_first_129 (by decide) ?_
                    exact ih_36_12 ((m_b + 1), m_se, m_lh, m_br, m_we, m_me, m_ce, m_wy, m_ho, m_ov, m_pt, m_as, m_sk, m_ln) ls H locs (show Int.toNat (5 - (m_b + 1).toInt) < Int.toNat (5 - m_b.toInt) from g_up (show m_b.toInt < (m_b + 1).toInt by omega) (show m_b.toInt < 5 by omega)) ⟨lv_sub hl [0, 3, 4, 5, 6] rfl, hP, hD, hS, ⟨by omega, by omega⟩, i_11⟩
                  ·
                    exact absurd c_43 (by decide)
        ·
          have i_5 : p_t.toInt > 2 := by have z := g5_leN (a := p_t.toInt) (b := 2) (by rfl) (by decide) c_5; omega
          refine lv_iconst (v := (-1)) hx hb dX11_first_23 (by decide) ?_
          exact W.iret (v := (-1)) hx hb hr (fun t ht hW => ⟨⟨(-1), [(a_o, (oc11 a_h a_im a_ke a_k a_wa a_th a_ha a_wk a_r a_x e_tl e_fd e_fpl a_wd e_wn a_rf e_lr)), (a_k, (oc5 a_h a_j a_pt e_ln e_se e_lh e_br e_we e_me e_ce e_wy e_ho e_ov)), (a_h, (oc1 e_wa e_le e_st e_fo e_lc a_l a_g a_b a_s a_p a_w e_gb a_bb)), (a_g, (oc6 6 5 a_gn e_g)), (a_gn, (arI G 30 f_g)), (a_b, (oc6 5 24 a_bn e_b)), (a_bn, (arI G 120 f_b)), (a_p, (oc6 8 5 a_pn e_p)), (a_pn, (arI G 40 f_p)), (a_bb, (arJ G 24 f_bb)), (a_j, (oc2 a_as a_sk)), (a_as, (arI G 8 f_as)), (a_sk, (arJ G 50 f_sk)), (a_l, (arW G 6 f_l)), (a_pt, (arI G 200 f_pt))], rfl, ⟨(-1), e_ln, e_se, e_lh, e_br, e_we, e_me, e_ce, e_wy, e_ho, e_ov, f_pt, f_as, f_sk, h_e_ov, rfl, rfl⟩, by rw [ht]; exact hP.sub [0, 1, 2, 3, 4, 14, 5, 6, 7, 8, 9, 10, 11, 12, 13] rfl, hD.sub [0, 1, 2, 3, 4, 14, 5, 6, 7, 8, 9, 10, 11, 12, 13] (by decide) rfl⟩, hS.F ht⟩) hS.2.2 dX11_first_24
  ·
    have i_2 : p_b.toInt < 0 ∨ e_b.toInt ≤ p_b.toInt := i_2
    obtain ⟨hP, hD⟩ := va_join (wr := [(a_o, (oc11 a_h a_im a_ke a_k a_wa a_th a_ha a_wk a_r a_x e_tl e_fd e_fpl a_wd e_wn a_rf e_lr)), (a_k, (oc5 a_h a_j a_pt e_ln e_se e_lh e_br e_we e_me e_ce e_wy e_ho e_ov)), (a_h, (oc1 e_wa e_le e_st e_fo e_lc a_l a_g a_b a_s a_p a_w e_gb a_bb)), (a_g, (oc6 6 5 a_gn e_g)), (a_gn, (arI G 30 f_g)), (a_bn, (arI G 120 f_b)), (a_p, (oc6 8 5 a_pn e_p)), (a_pn, (arI G 40 f_p)), (a_bb, (arJ G 24 f_bb)), (a_j, (oc2 a_as a_sk)), (a_as, (arI G 8 f_as)), (a_sk, (arJ G 50 f_sk)), (a_l, (arW G 6 f_l)), (a_pt, (arI G 200 f_pt))]) hP hD [5] [0, 1, 2, 3, 4, 6, 7, 8, 9, 10, 11, 12, 13, 14] rfl rfl (by decide) (by decide) hk1 hFc hP1 hD1
    generalize H1 = H at hP hS ⊢
    refine g5_rs [(a_o, (oc11 a_h a_im a_ke a_k a_wa a_th a_ha a_wk a_r a_x e_tl e_fd e_fpl a_wd e_wn a_rf e_lr)), (a_k, (oc5 a_h a_j a_pt e_ln e_se e_lh e_br e_we e_me e_ce e_wy e_ho e_ov)), (a_h, (oc1 e_wa e_le e_st e_fo e_lc a_l a_g a_b a_s a_p a_w e_gb a_bb)), (a_g, (oc6 6 5 a_gn e_g)), (a_gn, (arI G 30 f_g)), (a_bn, (arI G 120 f_b)), (a_p, (oc6 8 5 a_pn e_p)), (a_pn, (arI G 40 f_p)), (a_bb, (arJ G 24 f_bb)), (a_j, (oc2 a_as a_sk)), (a_as, (arI G 8 f_as)), (a_sk, (arJ G 50 f_sk)), (a_l, (arW G 6 f_l)), (a_pt, (arI G 200 f_pt)), (a_b, (oc6 5 24 a_bn e_b))] hP hD (fun hP hD => ?_)
    refine lv_if_eq (tgt := 23) hx hb dX11_first_11 (by decide) (fun c_45 => ?_) (fun c_45 => ?_)
    ·
      refine lv_iconst (v := (-1)) hx hb dX11_first_23 (by decide) ?_
      exact W.iret (v := (-1)) hx hb hr (fun t ht hW => ⟨⟨(-1), [(a_o, (oc11 a_h a_im a_ke a_k a_wa a_th a_ha a_wk a_r a_x e_tl e_fd e_fpl a_wd e_wn a_rf e_lr)), (a_k, (oc5 a_h a_j a_pt e_ln e_se e_lh e_br e_we e_me e_ce e_wy e_ho e_ov)), (a_h, (oc1 e_wa e_le e_st e_fo e_lc a_l a_g a_b a_s a_p a_w e_gb a_bb)), (a_g, (oc6 6 5 a_gn e_g)), (a_gn, (arI G 30 f_g)), (a_b, (oc6 5 24 a_bn e_b)), (a_bn, (arI G 120 f_b)), (a_p, (oc6 8 5 a_pn e_p)), (a_pn, (arI G 40 f_p)), (a_bb, (arJ G 24 f_bb)), (a_j, (oc2 a_as a_sk)), (a_as, (arI G 8 f_as)), (a_sk, (arJ G 50 f_sk)), (a_l, (arW G 6 f_l)), (a_pt, (arI G 200 f_pt))], rfl, ⟨(-1), e_ln, e_se, e_lh, e_br, e_we, e_me, e_ce, e_wy, e_ho, e_ov, f_pt, f_as, f_sk, h_e_ov, rfl, rfl⟩, by rw [ht]; exact hP.sub [0, 1, 2, 3, 4, 14, 5, 6, 7, 8, 9, 10, 11, 12, 13] rfl, hD.sub [0, 1, 2, 3, 4, 14, 5, 6, 7, 8, 9, 10, 11, 12, 13] (by decide) rfl⟩, hS.F ht⟩) hS.2.2 dX11_first_24
    ·
      exact absurd c_45 (by decide)
theorem dgX11_lit_0 : ∀ r ∈ ([(0, (.iload_n 1, 1)), (1, (.invokestatic 97, 3)), (4, (.ifCond .eq 17, 3)), (7, (.iload_n 2, 1)), (8, (.invokestatic 127, 3)), (11, (.ifCond .eq 10, 3)), (14, (.iload_n 3, 1)), (15, (.invokestatic 241, 3)), (18, (.ifCond .ne 5, 3)), (21, (.iconst (-1), 1)), (22, (.ireturn, 1)), (23, (.aload_n 0, 1)), (24, (.getfield 29, 3)), (27, (.iload_n 1, 1)), (28, (.iload_n 2, 1)), (29, (.invokevirtual 244, 3)), (32, (.lstore 4, 2)), (34, (.iload_n 3, 1)), (35, (.iconst (-1), 1)), (36, (.if_icmp .ne 9, 3)), (39, (.lload 4, 2)), (41, (.invokestatic 248, 3)), (44, (.ireturn, 1)), (45, (.lload 4, 2)), (47, (.iload_n 3, 1)), (48, (.invokestatic 115, 3)), (51, (.ifCond .eq 7, 3)), (54, (.iconst 1, 1)), (55, (.goto 4, 3)), (58, (.iconst 0, 1)), (59, (.ireturn, 1))] : List (Nat × (Instr × Nat))), decode cX11_lit r.1 = .ok r.2 := by decide +kernel
theorem dX11_lit_0 : decode cX11_lit 0 = .ok (.iload_n 1, 1) := dgX11_lit_0 (0, (.iload_n 1, 1)) (List.mem_of_getElem? (i := 0) rfl)
theorem dX11_lit_1 : decode cX11_lit 1 = .ok (.invokestatic 97, 3) := dgX11_lit_0 (1, (.invokestatic 97, 3)) (List.mem_of_getElem? (i := 1) rfl)
theorem dX11_lit_4 : decode cX11_lit 4 = .ok (.ifCond .eq 17, 3) := dgX11_lit_0 (4, (.ifCond .eq 17, 3)) (List.mem_of_getElem? (i := 2) rfl)
theorem dX11_lit_7 : decode cX11_lit 7 = .ok (.iload_n 2, 1) := dgX11_lit_0 (7, (.iload_n 2, 1)) (List.mem_of_getElem? (i := 3) rfl)
theorem dX11_lit_8 : decode cX11_lit 8 = .ok (.invokestatic 127, 3) := dgX11_lit_0 (8, (.invokestatic 127, 3)) (List.mem_of_getElem? (i := 4) rfl)
theorem dX11_lit_11 : decode cX11_lit 11 = .ok (.ifCond .eq 10, 3) := dgX11_lit_0 (11, (.ifCond .eq 10, 3)) (List.mem_of_getElem? (i := 5) rfl)
theorem dX11_lit_14 : decode cX11_lit 14 = .ok (.iload_n 3, 1) := dgX11_lit_0 (14, (.iload_n 3, 1)) (List.mem_of_getElem? (i := 6) rfl)
theorem dX11_lit_15 : decode cX11_lit 15 = .ok (.invokestatic 241, 3) := dgX11_lit_0 (15, (.invokestatic 241, 3)) (List.mem_of_getElem? (i := 7) rfl)
theorem dX11_lit_18 : decode cX11_lit 18 = .ok (.ifCond .ne 5, 3) := dgX11_lit_0 (18, (.ifCond .ne 5, 3)) (List.mem_of_getElem? (i := 8) rfl)
theorem dX11_lit_21 : decode cX11_lit 21 = .ok (.iconst (-1), 1) := dgX11_lit_0 (21, (.iconst (-1), 1)) (List.mem_of_getElem? (i := 9) rfl)
theorem dX11_lit_22 : decode cX11_lit 22 = .ok (.ireturn, 1) := dgX11_lit_0 (22, (.ireturn, 1)) (List.mem_of_getElem? (i := 10) rfl)
theorem dX11_lit_23 : decode cX11_lit 23 = .ok (.aload_n 0, 1) := dgX11_lit_0 (23, (.aload_n 0, 1)) (List.mem_of_getElem? (i := 11) rfl)
theorem dX11_lit_24 : decode cX11_lit 24 = .ok (.getfield 29, 3) := dgX11_lit_0 (24, (.getfield 29, 3)) (List.mem_of_getElem? (i := 12) rfl)
theorem dX11_lit_27 : decode cX11_lit 27 = .ok (.iload_n 1, 1) := dgX11_lit_0 (27, (.iload_n 1, 1)) (List.mem_of_getElem? (i := 13) rfl)
theorem dX11_lit_28 : decode cX11_lit 28 = .ok (.iload_n 2, 1) := dgX11_lit_0 (28, (.iload_n 2, 1)) (List.mem_of_getElem? (i := 14) rfl)
theorem dX11_lit_29 : decode cX11_lit 29 = .ok (.invokevirtual 244, 3) := dgX11_lit_0 (29, (.invokevirtual 244, 3)) (List.mem_of_getElem? (i := 15) rfl)
theorem dX11_lit_32 : decode cX11_lit 32 = .ok (.lstore 4, 2) := dgX11_lit_0 (32, (.lstore 4, 2)) (List.mem_of_getElem? (i := 16) rfl)
theorem dX11_lit_34 : decode cX11_lit 34 = .ok (.iload_n 3, 1) := dgX11_lit_0 (34, (.iload_n 3, 1)) (List.mem_of_getElem? (i := 17) rfl)
theorem dX11_lit_35 : decode cX11_lit 35 = .ok (.iconst (-1), 1) := dgX11_lit_0 (35, (.iconst (-1), 1)) (List.mem_of_getElem? (i := 18) rfl)
theorem dX11_lit_36 : decode cX11_lit 36 = .ok (.if_icmp .ne 9, 3) := dgX11_lit_0 (36, (.if_icmp .ne 9, 3)) (List.mem_of_getElem? (i := 19) rfl)
theorem dX11_lit_39 : decode cX11_lit 39 = .ok (.lload 4, 2) := dgX11_lit_0 (39, (.lload 4, 2)) (List.mem_of_getElem? (i := 20) rfl)
theorem dX11_lit_41 : decode cX11_lit 41 = .ok (.invokestatic 248, 3) := dgX11_lit_0 (41, (.invokestatic 248, 3)) (List.mem_of_getElem? (i := 21) rfl)
theorem dX11_lit_44 : decode cX11_lit 44 = .ok (.ireturn, 1) := dgX11_lit_0 (44, (.ireturn, 1)) (List.mem_of_getElem? (i := 22) rfl)
theorem dX11_lit_45 : decode cX11_lit 45 = .ok (.lload 4, 2) := dgX11_lit_0 (45, (.lload 4, 2)) (List.mem_of_getElem? (i := 23) rfl)
theorem dX11_lit_47 : decode cX11_lit 47 = .ok (.iload_n 3, 1) := dgX11_lit_0 (47, (.iload_n 3, 1)) (List.mem_of_getElem? (i := 24) rfl)
theorem dX11_lit_48 : decode cX11_lit 48 = .ok (.invokestatic 115, 3) := dgX11_lit_0 (48, (.invokestatic 115, 3)) (List.mem_of_getElem? (i := 25) rfl)
theorem dX11_lit_51 : decode cX11_lit 51 = .ok (.ifCond .eq 7, 3) := dgX11_lit_0 (51, (.ifCond .eq 7, 3)) (List.mem_of_getElem? (i := 26) rfl)
theorem dX11_lit_54 : decode cX11_lit 54 = .ok (.iconst 1, 1) := dgX11_lit_0 (54, (.iconst 1, 1)) (List.mem_of_getElem? (i := 27) rfl)
theorem dX11_lit_55 : decode cX11_lit 55 = .ok (.goto 4, 3) := dgX11_lit_0 (55, (.goto 4, 3)) (List.mem_of_getElem? (i := 28) rfl)
theorem dX11_lit_58 : decode cX11_lit 58 = .ok (.iconst 0, 1) := dgX11_lit_0 (58, (.iconst 0, 1)) (List.mem_of_getElem? (i := 29) rfl)
theorem dX11_lit_59 : decode cX11_lit 59 = .ok (.ireturn, 1) := dgX11_lit_0 (59, (.ireturn, 1)) (List.mem_of_getElem? (i := 30) rfl)
theorem ml_X11_244 : Cond.methodLink RX11 244 yX5_cellsFrom ∈ tblG := tg 899 (by decide +kernel) (by decide +kernel)
theorem im_X5_cellsFrom : Cond.instanceMethod yX5_cellsFrom ∈ tblG := tg 900 (by decide +kernel) (by decide +kernel)
theorem se_X5_cellsFrom : Cond.selects RX5 yX5_cellsFrom yX5_cellsFrom ∈ tblG := tg 901 (by decide +kernel) (by decide +kernel)
theorem cd_X5_cellsFrom : Cond.code yX5_cellsFrom cX5_cellsFrom 7 (some .long) ∈ tblG := tg 902 (by decide +kernel) (by decide +kernel)
theorem gW_X5_cellsFrom : GoodIn tblG (wsG yX5_cellsFrom cX5_cellsFrom 7 (some .long)) := tgi cd_X5_cellsFrom
theorem gV_X11_244 : GoodIn tblG (wsV RX11 244 RX5 yX5_cellsFrom (wsG yX5_cellsFrom cX5_cellsFrom 7 (some .long))) := tgV ml_X11_244 im_X5_cellsFrom se_X5_cellsFrom ini_X5 gW_X5_cellsFrom
theorem hv_X5_cellsFrom : yX5_cellsFrom.cls = RX5 ∧ yX5_cellsFrom.cls ≠ "java/lang/invoke/MethodHandle" ∧ yX5_cellsFrom.cls ≠ "java/lang/invoke/VarHandle" ∧ (parseMethodDescriptor yX5_cellsFrom.desc).map (fun d => d.parameters.length) = some 2 := by decide +kernel
set_option maxHeartbeats 4000000 in
set_option maxRecDepth 100000 in
theorem x_litN (l : Launch) (G : g5_G) (a_o a_k a_h a_g a_gn a_b a_bn a_p a_pn a_bb a_j a_as a_sk a_l a_pt a_im a_ke a_wa a_th a_ha a_wk a_r a_x a_wd a_rf a_s a_w : Nat) (sz : Nat) (e_tl : Int32) (e_fd : Int32) (e_fpl : Int32) (e_wn : Int32) (e_lr : Int32) (e_le : Int32) (e_st : Int32) (e_fo : Int32) (e_lc : Int32) (e_g : Int32) (e_b : Int32) (e_p : Int32) (e_ln : Int32) (e_se : Int32) (e_lh : Int32) (e_br : Int32) (e_we : Int32) (e_me : Int32) (e_ce : Int32) (e_wy : Int32) (e_ho : Int32) (e_ov : Int32) (p_c : Int32) (p_h : Int32) (p_t : Int32) (e_wa : Int64) (e_gb : Int64) (f_g : Nat → Int32) (f_b : Nat → Int32) (f_p : Nat → Int32) (f_bb : Nat → Int64) (f_as : Nat → Int32) (f_sk : Nat → Int64) (f_l : Nat → Option Nat) (f_pt : Nat → Int32) (h_e_tl : 0 ≤ e_tl.toInt ∧ e_tl.toInt ≤ 400) (h_e_wn : 0 ≤ e_wn.toInt ∧ e_wn.toInt ≤ 1) (h_e_g : 0 ≤ e_g.toInt ∧ e_g.toInt ≤ 6) (h_e_b : 0 ≤ e_b.toInt ∧ e_b.toInt ≤ 5) (h_e_p : 0 ≤ e_p.toInt ∧ e_p.toInt ≤ 8) (h_e_ov : 0 ≤ e_ov.toInt ∧ e_ov.toInt ≤ 1) (e_gk : gOK f_g e_g.toInt) (e_pk : gOK f_p e_p.toInt) (e_gi : inT e_gb f_g e_g.toInt) (e_f : e_fo.toInt < 0 ∨ e_lc.toInt ≤ e_fo.toInt) : Met l yX11_lit (wsG yX11_lit cX11_lit 6 (some .int)) ({ frames := 15, cells := 0, slots := 0, locals := 582 }) (va_Pc [.ref a_o, .int p_c, .int p_h, .int p_t] (g5_P G [(a_o, (oc11 a_h a_im a_ke a_k a_wa a_th a_ha a_wk a_r a_x e_tl e_fd e_fpl a_wd e_wn a_rf e_lr)), (a_k, (oc5 a_h a_j a_pt e_ln e_se e_lh e_br e_we e_me e_ce e_wy e_ho e_ov)), (a_h, (oc1 e_wa e_le e_st e_fo e_lc a_l a_g a_b a_s a_p a_w e_gb a_bb)), (a_g, (oc6 6 5 a_gn e_g)), (a_gn, (arI G 30 f_g)), (a_b, (oc6 5 24 a_bn e_b)), (a_bn, (arI G 120 f_b)), (a_p, (oc6 8 5 a_pn e_p)), (a_pn, (arI G 40 f_p)), (a_bb, (arJ G 24 f_bb)), (a_j, (oc2 a_as a_sk)), (a_as, (arI G 8 f_as)), (a_sk, (arJ G 50 f_sk)), (a_l, (arW G 6 f_l)), (a_pt, (arI G 200 f_pt))] sz)) (va_Qi (fun (r : Int32) (u : va_W) => (∃ (o_r : Int32) (o_ln : Int32) (o_se : Int32) (o_lh : Int32) (o_br : Int32) (o_we : Int32) (o_me : Int32) (o_ce : Int32) (o_wy : Int32) (o_ho : Int32) (o_ov : Int32) (o_pt : Nat → Int32) (o_as : Nat → Int32) (o_sk : Nat → Int64), (0 ≤ o_ov.toInt ∧ o_ov.toInt ≤ 1) ∧ (r = o_r) ∧ (u = [(a_o, (oc11 a_h a_im a_ke a_k a_wa a_th a_ha a_wk a_r a_x e_tl e_fd e_fpl a_wd e_wn a_rf e_lr)), (a_k, (oc5 a_h a_j a_pt o_ln o_se o_lh o_br o_we o_me o_ce o_wy o_ho o_ov)), (a_h, (oc1 e_wa e_le e_st e_fo e_lc a_l a_g a_b a_s a_p a_w e_gb a_bb)), (a_g, (oc6 6 5 a_gn e_g)), (a_gn, (arI G 30 f_g)), (a_b, (oc6 5 24 a_bn e_b)), (a_bn, (arI G 120 f_b)), (a_p, (oc6 8 5 a_pn e_p)), (a_pn, (arI G 40 f_p)), (a_bb, (arJ G 24 f_bb)), (a_j, (oc2 a_as a_sk)), (a_as, (arI G 8 o_as)), (a_sk, (arJ G 50 o_sk)), (a_l, (arW G 6 f_l)), (a_pt, (arI G 200 o_pt))]))) (g5_B G (va_A [(a_o, (oc11 a_h a_im a_ke a_k a_wa a_th a_ha a_wk a_r a_x e_tl e_fd e_fpl a_wd e_wn a_rf e_lr)), (a_k, (oc5 a_h a_j a_pt e_ln e_se e_lh e_br e_we e_me e_ce e_wy e_ho e_ov)), (a_h, (oc1 e_wa e_le e_st e_fo e_lc a_l a_g a_b a_s a_p a_w e_gb a_bb)), (a_g, (oc6 6 5 a_gn e_g)), (a_gn, (arI G 30 f_g)), (a_b, (oc6 5 24 a_bn e_b)), (a_bn, (arI G 120 f_b)), (a_p, (oc6 8 5 a_pn e_p)), (a_pn, (arI G 40 f_p)), (a_bb, (arJ G 24 f_bb)), (a_j, (oc2 a_as a_sk)), (a_as, (arI G 8 f_as)), (a_sk, (arJ G 50 f_sk)), (a_l, (arW G 6 f_l)), (a_pt, (arI G 200 f_pt))] sz)) (va_A [(a_o, (oc11 a_h a_im a_ke a_k a_wa a_th a_ha a_wk a_r a_x e_tl e_fd e_fpl a_wd e_wn a_rf e_lr)), (a_k, (oc5 a_h a_j a_pt e_ln e_se e_lh e_br e_we e_me e_ce e_wy e_ho e_ov)), (a_h, (oc1 e_wa e_le e_st e_fo e_lc a_l a_g a_b a_s a_p a_w e_gb a_bb)), (a_g, (oc6 6 5 a_gn e_g)), (a_gn, (arI G 30 f_g)), (a_b, (oc6 5 24 a_bn e_b)), (a_bn, (arI G 120 f_b)), (a_p, (oc6 8 5 a_pn e_p)), (a_pn, (arI G 40 f_p)), (a_bb, (arJ G 24 f_bb)), (a_j, (oc2 a_as a_sk)), (a_as, (arI G 8 f_as)), (a_sk, (arJ G 50 f_sk)), (a_l, (arW G 6 f_l)), (a_pt, (arI G 200 f_pt))] sz)) 0 0 (va_A [(a_o, (oc11 a_h a_im a_ke a_k a_wa a_th a_ha a_wk a_r a_x e_tl e_fd e_fpl a_wd e_wn a_rf e_lr)), (a_k, (oc5 a_h a_j a_pt e_ln e_se e_lh e_br e_we e_me e_ce e_wy e_ho e_ov)), (a_h, (oc1 e_wa e_le e_st e_fo e_lc a_l a_g a_b a_s a_p a_w e_gb a_bb)), (a_g, (oc6 6 5 a_gn e_g)), (a_gn, (arI G 30 f_g)), (a_b, (oc6 5 24 a_bn e_b)), (a_bn, (arI G 120 f_b)), (a_p, (oc6 8 5 a_pn e_p)), (a_pn, (arI G 40 f_p)), (a_bb, (arJ G 24 f_bb)), (a_j, (oc2 a_as a_sk)), (a_as, (arI G 8 f_as)), (a_sk, (arJ G 50 f_sk)), (a_l, (arW G 6 f_l)), (a_pt, (arI G 200 f_pt))] sz) := by
  refine Met.ofW (cc := cX11_lit) (maxL := 6) (ret := (some .int)) (by decide) rfl ?_
  intro p e s m args below meth c s₁ B hml hv
  obtain ⟨rfl, hsz, hP, hK, hD0, hN, hT⟩ := hv
  have hx := B.exec
  have hb := B.bytes
  have hr := B.returns
  have hts : ∀ w ∈ tblG, w.before _ s = true := fun w h => atoms_spec (ws := (wsG yX11_lit cX11_lit 6 (some .int))) B.pre w (List.mem_cons_of_mem _ h)
  have hown : s.vm.findClass RX11 = some m.cls := findClass_of_methodNamed B.named
  have hlocks := B.notSynchronized
  subst hsz
  have hD := hD0.self (sz := s.heap.size)
  generalize hAe : va_A [(a_o, (oc11 a_h a_im a_ke a_k a_wa a_th a_ha a_wk a_r a_x e_tl e_fd e_fpl a_wd e_wn a_rf e_lr)), (a_k, (oc5 a_h a_j a_pt e_ln e_se e_lh e_br e_we e_me e_ce e_wy e_ho e_ov)), (a_h, (oc1 e_wa e_le e_st e_fo e_lc a_l a_g a_b a_s a_p a_w e_gb a_bb)), (a_g, (oc6 6 5 a_gn e_g)), (a_gn, (arI G 30 f_g)), (a_b, (oc6 5 24 a_bn e_b)), (a_bn, (arI G 120 f_b)), (a_p, (oc6 8 5 a_pn e_p)), (a_pn, (arI G 40 f_p)), (a_bb, (arJ G 24 f_bb)), (a_j, (oc2 a_as a_sk)), (a_as, (arI G 8 f_as)), (a_sk, (arJ G 50 f_sk)), (a_l, (arW G 6 f_l)), (a_pt, (arI G 200 f_pt))] s.heap.size = A at hD hT ⊢
  have hA : ∀ q : Nat, s.heap.size ≤ q → A q := fun q h => by rw [← hAe]; exact Or.inr h
  have hS : va_S A s.heap s.heap [] := va_S.rf
  have hP : va_P G.1 vwCl [(a_o, (oc11 a_h a_im a_ke a_k a_wa a_th a_ha a_wk a_r a_x e_tl e_fd e_fpl a_wd e_wn a_rf e_lr)), (a_k, (oc5 a_h a_j a_pt e_ln e_se e_lh e_br e_we e_me e_ce e_wy e_ho e_ov)), (a_h, (oc1 e_wa e_le e_st e_fo e_lc a_l a_g a_b a_s a_p a_w e_gb a_bb)), (a_g, (oc6 6 5 a_gn e_g)), (a_gn, (arI G 30 f_g)), (a_b, (oc6 5 24 a_bn e_b)), (a_bn, (arI G 120 f_b)), (a_p, (oc6 8 5 a_pn e_p)), (a_pn, (arI G 40 f_p)), (a_bb, (arJ G 24 f_bb)), (a_j, (oc2 a_as a_sk)), (a_as, (arI G 8 f_as)), (a_sk, (arJ G 50 f_sk)), (a_l, (arW G 6 f_l)), (a_pt, (arI G 200 f_pt))] s.heap := hP
  have hl := lv_entry ([.ref a_o, .int p_c, .int p_h, .int p_t]) (n := 6) (Nat.le_of_ble_eq_true rfl)
  rw [lg_entry_eq]
  generalize (lg_sl ([.ref a_o, .int p_c, .int p_h, .int p_t]) ++ List.replicate (6 - (lg_sl ([.ref a_o, .int p_c, .int p_h, .int p_t])).length) Slot.unset).toArray = ls at hl ⊢
  have hl : lv_has ls 6 [(0, .ref a_o), (1, .int p_c), (2, .int p_h), (3, .int p_t)] := hl
  refine lv_iload_n hx hb dX11_lit_0 rfl (lv_at hl 1 rfl) ?_
  obtain ⟨hPc, hDc, hFc⟩ := g5_sub3 (wc := []) hP hD hS hA [] (by decide) rfl
  refine va_calli (va_runS (As := [.int p_c]) (rest := []) ⟨hx, hb, hml, hown, hts⟩ (x_isCell l G s.heap.size p_c) (va_cwS 1 hts gS_X11_97 rfl rfl rfl hs_X11_isCell ⟨Nat.le_of_ble_eq_true rfl, Nat.le_of_ble_eq_true rfl⟩) (g5_preS hPc hK hDc hN hT hS hFc) rfl rfl hl.1 rfl (lv_room (Nat.le_of_ble_eq_true rfl)) dX11_lit_1 ⟨Nat.le_of_ble_eq_true rfl, Nat.le_of_ble_eq_true rfl⟩) hS (fun q _ h => hFc q h) hFc (fun r u t H1 locs ht hvm hw hB hz1 hk1 hS => ?_)
  obtain ⟨hP1, hD1⟩ := hB
  rw [ht] at hP1
  rcases hw with ⟨i_1, rfl, rfl⟩ | ⟨rfl, rfl⟩
  ·
    have i_1 : 0 ≤ p_c.toInt ∧ p_c.toInt ≤ 63 := i_1
    have hP := g5_same hP hk1
    generalize H1 = H at hP hS ⊢
    refine lv_if_eq (tgt := 21) hx hb dX11_lit_4 (by decide) (fun c_2 => ?_) (fun c_2 => ?_)
    ·
      exact absurd c_2 (by decide)
    ·
      refine lv_iload_n hx hb dX11_lit_7 rfl (lv_at hl 2 rfl) ?_
      obtain ⟨hPc, hDc, hFc⟩ := g5_sub3 (wc := []) hP hD hS hA [] (by decide) rfl
      refine va_calli (va_runS (As := [.int p_h]) (rest := []) ⟨hx, hb, hml, hown, hts⟩ (x_isHour l G H.size p_h) (va_cwS 1 hts gS_X11_127 rfl rfl rfl hs_X11_isHour ⟨Nat.le_of_ble_eq_true rfl, Nat.le_of_ble_eq_true rfl⟩) (g5_preS hPc hK hDc hN hT hS hFc) rfl rfl hl.1 rfl (lv_room (Nat.le_of_ble_eq_true rfl)) dX11_lit_8 ⟨Nat.le_of_ble_eq_true rfl, Nat.le_of_ble_eq_true rfl⟩) hS (fun q _ h => hFc q h) hFc (fun r u t H1 locs ht hvm hw hB hz1 hk1 hS => ?_)
      obtain ⟨hP1, hD1⟩ := hB
      rw [ht] at hP1
      rcases hw with ⟨i_3, rfl, rfl⟩ | ⟨rfl, rfl⟩
      ·
        have i_3 : 0 ≤ p_h.toInt ∧ p_h.toInt ≤ 23 := i_3
        have hP := g5_same hP hk1
        generalize H1 = H at hP hS ⊢
        refine lv_if_eq (tgt := 21) hx hb dX11_lit_11 (by decide) (fun c_4 => ?_) (fun c_4 => ?_)
        ·
          exact absurd c_4 (by decide)
        ·
          refine lv_iload_n hx hb dX11_lit_14 rfl (lv_at hl 3 rfl) ?_
          obtain ⟨hPc, hDc, hFc⟩ := g5_sub3 (wc := []) hP hD hS hA [] (by decide) rfl
          refine va_calli (va_runS (As := [.int p_t]) (rest := []) ⟨hx, hb, hml, hown, hts⟩ (x_isCellOrNone l G H.size p_t) (va_cwS 1 hts gS_X11_241 rfl rfl rfl hs_X11_isCellOrNone ⟨Nat.le_of_ble_eq_true rfl, Nat.le_of_ble_eq_true rfl⟩) (g5_preS hPc hK hDc hN hT hS hFc) rfl rfl hl.1 rfl (lv_room (Nat.le_of_ble_eq_true rfl)) dX11_lit_15 ⟨Nat.le_of_ble_eq_true rfl, Nat.le_of_ble_eq_true rfl⟩) hS (fun q _ h => hFc q h) hFc (fun r u t H1 locs ht hvm hw hB hz1 hk1 hS => ?_)
          obtain ⟨hP1, hD1⟩ := hB
          rw [ht] at hP1
          rcases hw with ⟨i_5, rfl, rfl⟩ | ⟨rfl, rfl⟩
          ·
            have i_5 : (-1) ≤ p_t.toInt ∧ p_t.toInt ≤ 63 := i_5
            have hP := g5_same hP hk1
            generalize H1 = H at hP hS ⊢
            refine lv_if_ne (tgt := 23) hx hb dX11_lit_18 (by decide) (fun c_6 => ?_) (fun c_6 => ?_)
            ·
              refine lv_aload_n hx hb dX11_lit_23 rfl (lv_at hl 0 rfl) ?_
              refine va_get (D := G.1) (ci := 11) (v := .ref a_k) (C := RX11) (T := TX11) (N := 17) hx hb hts inG_X11 hown hK hP 0 rfl rfl 3 (by decide) (hts _ fl_X11_29) (fun _ h9 => h9) rfl dX11_lit_24 ?_
              refine lv_iload_n hx hb dX11_lit_27 rfl (lv_at hl 1 rfl) ?_
              refine lv_iload_n hx hb dX11_lit_28 rfl (lv_at hl 2 rfl) ?_
              obtain ⟨hPc, hDc, hFc⟩ := g5_sub3 (wc := [(a_k, (oc5 a_h a_j a_pt e_ln e_se e_lh e_br e_we e_me e_ce e_wy e_ho e_ov)), (a_h, (oc1 e_wa e_le e_st e_fo e_lc a_l a_g a_b a_s a_p a_w e_gb a_bb)), (a_g, (oc6 6 5 a_gn e_g)), (a_gn, (arI G 30 f_g)), (a_b, (oc6 5 24 a_bn e_b)), (a_bn, (arI G 120 f_b)), (a_p, (oc6 8 5 a_pn e_p)), (a_pn, (arI G 40 f_p)), (a_bb, (arJ G 24 f_bb)), (a_j, (oc2 a_as a_sk)), (a_as, (arI G 8 f_as)), (a_sk, (arJ G 50 f_sk)), (a_l, (arW G 6 f_l)), (a_pt, (arI G 200 f_pt))]) hP hD hS hA [1, 2, 3, 4, 5, 6, 7, 8, 9, 10, 11, 12, 13, 14] (by decide) rfl
              refine va_calll (va_runV (As := [.int p_c, .int p_h]) (rest := []) ⟨hx, hb, hml, hown, hts⟩ (s_cellsFromN l G a_k a_h a_g a_gn a_b a_bn a_p a_pn a_bb a_j a_as a_sk a_l a_pt a_s a_w H.size e_le e_st e_fo e_lc e_g e_b e_p e_ln e_se e_lh e_br e_we e_me e_ce e_wy e_ho e_ov p_c p_h e_wa e_gb f_g f_b f_p f_bb f_as f_sk f_l f_pt h_e_g h_e_b h_e_p h_e_ov (e_gk) (e_pk) (e_gi) (e_f)) (cwV 2 hts gV_X11_244 rfl rfl rfl hv_X5_cellsFrom ⟨Nat.le_of_ble_eq_true rfl, Nat.le_of_ble_eq_true rfl⟩) (g5_preV hPc hK hDc hN hT hS hFc (ci := 5) (q0 := 0) rfl rfl) rfl rfl hl.1 rfl (lv_room (Nat.le_of_ble_eq_true rfl)) dX11_lit_29 ⟨Nat.le_of_ble_eq_true rfl, Nat.le_of_ble_eq_true rfl⟩) hS (fun q _ h => hFc q h) hFc (fun r u t H1 locs ht hvm hw hB hz1 hk1 hS => ?_)
              obtain ⟨hP1, hD1⟩ := hB
              rw [ht] at hP1
              obtain ⟨z8, z9, z10, z11, z12, z13, z14, z15, z16, z17, z18, z19, z20, z21, i_7, y22, rfl⟩ := hw
              have i_7 : 0 ≤ z18.toInt ∧ z18.toInt ≤ 1 := i_7
              obtain ⟨hP, hD⟩ := va_join (wr := [(a_o, (oc11 a_h a_im a_ke a_k a_wa a_th a_ha a_wk a_r a_x e_tl e_fd e_fpl a_wd e_wn a_rf e_lr))]) hP hD [1, 2, 3, 4, 5, 6, 7, 8, 9, 10, 11, 12, 13, 14] [0] rfl rfl (by decide) (by decide) hk1 hFc hP1 hD1
              generalize H1 = H at hP hS ⊢
              refine g5_rs [(a_o, (oc11 a_h a_im a_ke a_k a_wa a_th a_ha a_wk a_r a_x e_tl e_fd e_fpl a_wd e_wn a_rf e_lr)), (a_k, (oc5 a_h a_j a_pt z9 z10 z11 z12 z13 z14 z15 z16 z17 z18)), (a_h, (oc1 e_wa e_le e_st e_fo e_lc a_l a_g a_b a_s a_p a_w e_gb a_bb)), (a_g, (oc6 6 5 a_gn e_g)), (a_gn, (arI G 30 f_g)), (a_b, (oc6 5 24 a_bn e_b)), (a_bn, (arI G 120 f_b)), (a_p, (oc6 8 5 a_pn e_p)), (a_pn, (arI G 40 f_p)), (a_bb, (arJ G 24 f_bb)), (a_j, (oc2 a_as a_sk)), (a_as, (arI G 8 z20)), (a_sk, (arJ G 50 z21)), (a_l, (arW G 6 f_l)), (a_pt, (arI G 200 z19))] hP hD (fun hP hD => ?_)
              refine g5_tl (v := z8) y22 ?_
              refine lv_lstore (lv' := [(4, .long z8), (0, .ref a_o), (1, .int p_c), (2, .int p_h), (3, .int p_t)]) hx hb dX11_lit_32 hl (by decide) rfl (fun ls hl => ?_)
              refine lv_iload_n hx hb dX11_lit_34 rfl (lv_at hl 4 rfl) ?_
              refine lv_iconst (v := (-1)) hx hb dX11_lit_35 (by decide) ?_
              refine lv_icmp_ne (tgt := 45) hx hb dX11_lit_36 (by decide) (fun c_23 => ?_) (fun c_23 => ?_)
              ·
                have n_23 : gNe (p_t.toInt) ((-1)) := by have z := g5_ne (a := p_t.toInt) (b := (-1)) (by rfl) (by decide) c_23; unfold gNe; omega
                have i_23 : p_t.toInt ≥ 0 := by have z := g5_ne (a := p_t.toInt) (b := (-1)) (by rfl) (by decide) c_23; omega
                refine lv_lload hx hb dX11_lit_45 (lv_at hl 0 rfl) ?_
                refine lv_iload_n hx hb dX11_lit_47 rfl (lv_at hl 4 rfl) ?_
                obtain ⟨hPc, hDc, hFc⟩ := g5_sub3 (wc := []) hP hD hS hA [] (by decide) rfl
                refine va_calli (va_runS (As := [.long z8, .int p_t]) (rest := []) ⟨hx, hb, hml, hown, hts⟩ (k_isOn l G H.size p_t z8 ⟨by omega, by omega⟩) (va_cwS 2 hts gS_X11_115 rfl rfl rfl hs_X11_isOn ⟨Nat.le_of_ble_eq_true rfl, Nat.le_of_ble_eq_true rfl⟩) (g5_preS hPc hK hDc hN hT hS hFc) rfl rfl hl.1 rfl (lv_room (Nat.le_of_ble_eq_true rfl)) dX11_lit_48 ⟨Nat.le_of_ble_eq_true rfl, Nat.le_of_ble_eq_true rfl⟩) hS (fun q _ h => hFc q h) hFc (fun r u t H1 locs ht hvm hw hB hz1 hk1 hS => ?_)
                obtain ⟨hP1, hD1⟩ := hB
                rw [ht] at hP1
                rcases hw with ⟨i_24, rfl, rfl⟩ | ⟨i_25, rfl, rfl⟩
                ·
                  have i_24 : onB z8 p_t.toInt = false := i_24
                  have hP := g5_same hP hk1
                  generalize H1 = H at hP hS ⊢
                  refine lv_if_eq (tgt := 58) hx hb dX11_lit_51 (by decide) (fun c_26 => ?_) (fun c_26 => ?_)
                  ·
                    refine lv_iconst (v := 0) hx hb dX11_lit_58 (by decide) ?_
                    exact W.iret (v := 0) hx hb hr (fun t ht hW => ⟨⟨0, [(a_o, (oc11 a_h a_im a_ke a_k a_wa a_th a_ha a_wk a_r a_x e_tl e_fd e_fpl a_wd e_wn a_rf e_lr)), (a_k, (oc5 a_h a_j a_pt z9 z10 z11 z12 z13 z14 z15 z16 z17 z18)), (a_h, (oc1 e_wa e_le e_st e_fo e_lc a_l a_g a_b a_s a_p a_w e_gb a_bb)), (a_g, (oc6 6 5 a_gn e_g)), (a_gn, (arI G 30 f_g)), (a_b, (oc6 5 24 a_bn e_b)), (a_bn, (arI G 120 f_b)), (a_p, (oc6 8 5 a_pn e_p)), (a_pn, (arI G 40 f_p)), (a_bb, (arJ G 24 f_bb)), (a_j, (oc2 a_as a_sk)), (a_as, (arI G 8 z20)), (a_sk, (arJ G 50 z21)), (a_l, (arW G 6 f_l)), (a_pt, (arI G 200 z19))], rfl, ⟨0, z9, z10, z11, z12, z13, z14, z15, z16, z17, z18, z19, z20, z21, i_7, rfl, rfl⟩, by rw [ht]; exact hP.sub [0, 1, 2, 3, 4, 5, 6, 7, 8, 9, 10, 11, 12, 13, 14] rfl, hD.sub [0, 1, 2, 3, 4, 5, 6, 7, 8, 9, 10, 11, 12, 13, 14] (by decide) rfl⟩, hS.F ht⟩) hS.2.2 dX11_lit_59
                  ·
                    exact absurd c_26 (by decide)
                ·
                  have i_25 : onB z8 p_t.toInt = true := i_25
                  have hP := g5_same hP hk1
                  generalize H1 = H at hP hS ⊢
                  refine lv_if_eq (tgt := 58) hx hb dX11_lit_51 (by decide) (fun c_27 => ?_) (fun c_27 => ?_)
                  ·
                    exact absurd c_27 (by decide)
                  ·
                    refine lv_iconst (v := 1) hx hb dX11_lit_54 (by decide) ?_
                    refine lv_goto (tgt := 59) hx hb dX11_lit_55 (by decide) ?_
                    exact W.iret (v := 1) hx hb hr (fun t ht hW => ⟨⟨1, [(a_o, (oc11 a_h a_im a_ke a_k a_wa a_th a_ha a_wk a_r a_x e_tl e_fd e_fpl a_wd e_wn a_rf e_lr)), (a_k, (oc5 a_h a_j a_pt z9 z10 z11 z12 z13 z14 z15 z16 z17 z18)), (a_h, (oc1 e_wa e_le e_st e_fo e_lc a_l a_g a_b a_s a_p a_w e_gb a_bb)), (a_g, (oc6 6 5 a_gn e_g)), (a_gn, (arI G 30 f_g)), (a_b, (oc6 5 24 a_bn e_b)), (a_bn, (arI G 120 f_b)), (a_p, (oc6 8 5 a_pn e_p)), (a_pn, (arI G 40 f_p)), (a_bb, (arJ G 24 f_bb)), (a_j, (oc2 a_as a_sk)), (a_as, (arI G 8 z20)), (a_sk, (arJ G 50 z21)), (a_l, (arW G 6 f_l)), (a_pt, (arI G 200 z19))], rfl, ⟨1, z9, z10, z11, z12, z13, z14, z15, z16, z17, z18, z19, z20, z21, i_7, rfl, rfl⟩, by rw [ht]; exact hP.sub [0, 1, 2, 3, 4, 5, 6, 7, 8, 9, 10, 11, 12, 13, 14] rfl, hD.sub [0, 1, 2, 3, 4, 5, 6, 7, 8, 9, 10, 11, 12, 13, 14] (by decide) rfl⟩, hS.F ht⟩) hS.2.2 dX11_lit_59
              ·
                have i_23 : p_t.toInt = (-1) := by have z := g5_neN (a := p_t.toInt) (b := (-1)) (by rfl) (by decide) c_23; omega
                refine lv_lload hx hb dX11_lit_39 (lv_at hl 0 rfl) ?_
                obtain ⟨hPc, hDc, hFc⟩ := g5_sub3 (wc := []) hP hD hS hA [] (by decide) rfl
                refine va_calli (va_runS (As := [.long z8]) (rest := []) ⟨hx, hb, hml, hown, hts⟩ (j_bitCountL l G H.size z8) (va_cwS 1 hts gS_X11_248 rfl rfl rfl hs_J13_bitCount_95d88 ⟨Nat.le_of_ble_eq_true rfl, Nat.le_of_ble_eq_true rfl⟩) (g5_preS hPc hK hDc hN hT hS hFc) rfl rfl hl.1 rfl (lv_room (Nat.le_of_ble_eq_true rfl)) dX11_lit_41 ⟨Nat.le_of_ble_eq_true rfl, Nat.le_of_ble_eq_true rfl⟩) hS (fun q _ h => hFc q h) hFc (fun r u t H1 locs ht hvm hw hB hz1 hk1 hS => ?_)
                obtain ⟨hP1, hD1⟩ := hB
                rw [ht] at hP1
                obtain ⟨z28, y29, rfl⟩ := hw
                have hP := g5_same hP hk1
                generalize H1 = H at hP hS ⊢
                refine g5_ti (v := z28) y29 ?_
                exact W.iret (v := z28) hx hb hr (fun t ht hW => ⟨⟨z28, [(a_o, (oc11 a_h a_im a_ke a_k a_wa a_th a_ha a_wk a_r a_x e_tl e_fd e_fpl a_wd e_wn a_rf e_lr)), (a_k, (oc5 a_h a_j a_pt z9 z10 z11 z12 z13 z14 z15 z16 z17 z18)), (a_h, (oc1 e_wa e_le e_st e_fo e_lc a_l a_g a_b a_s a_p a_w e_gb a_bb)), (a_g, (oc6 6 5 a_gn e_g)), (a_gn, (arI G 30 f_g)), (a_b, (oc6 5 24 a_bn e_b)), (a_bn, (arI G 120 f_b)), (a_p, (oc6 8 5 a_pn e_p)), (a_pn, (arI G 40 f_p)), (a_bb, (arJ G 24 f_bb)), (a_j, (oc2 a_as a_sk)), (a_as, (arI G 8 z20)), (a_sk, (arJ G 50 z21)), (a_l, (arW G 6 f_l)), (a_pt, (arI G 200 z19))], rfl, ⟨z28, z9, z10, z11, z12, z13, z14, z15, z16, z17, z18, z19, z20, z21, i_7, rfl, rfl⟩, by rw [ht]; exact hP.sub [0, 1, 2, 3, 4, 5, 6, 7, 8, 9, 10, 11, 12, 13, 14] rfl, hD.sub [0, 1, 2, 3, 4, 5, 6, 7, 8, 9, 10, 11, 12, 13, 14] (by decide) rfl⟩, hS.F ht⟩) hS.2.2 dX11_lit_44
            ·
              exact absurd c_6 (by decide)
          ·
            have hP := g5_same hP hk1
            generalize H1 = H at hP hS ⊢
            refine lv_if_ne (tgt := 23) hx hb dX11_lit_18 (by decide) (fun c_30 => ?_) (fun c_30 => ?_)
            ·
              exact absurd c_30 (by decide)
            ·
              refine lv_iconst (v := (-1)) hx hb dX11_lit_21 (by decide) ?_
              exact W.iret (v := (-1)) hx hb hr (fun t ht hW => ⟨⟨(-1), [(a_o, (oc11 a_h a_im a_ke a_k a_wa a_th a_ha a_wk a_r a_x e_tl e_fd e_fpl a_wd e_wn a_rf e_lr)), (a_k, (oc5 a_h a_j a_pt e_ln e_se e_lh e_br e_we e_me e_ce e_wy e_ho e_ov)), (a_h, (oc1 e_wa e_le e_st e_fo e_lc a_l a_g a_b a_s a_p a_w e_gb a_bb)), (a_g, (oc6 6 5 a_gn e_g)), (a_gn, (arI G 30 f_g)), (a_b, (oc6 5 24 a_bn e_b)), (a_bn, (arI G 120 f_b)), (a_p, (oc6 8 5 a_pn e_p)), (a_pn, (arI G 40 f_p)), (a_bb, (arJ G 24 f_bb)), (a_j, (oc2 a_as a_sk)), (a_as, (arI G 8 f_as)), (a_sk, (arJ G 50 f_sk)), (a_l, (arW G 6 f_l)), (a_pt, (arI G 200 f_pt))], rfl, ⟨(-1), e_ln, e_se, e_lh, e_br, e_we, e_me, e_ce, e_wy, e_ho, e_ov, f_pt, f_as, f_sk, h_e_ov, rfl, rfl⟩, by rw [ht]; exact hP.sub [0, 1, 2, 3, 4, 5, 6, 7, 8, 9, 10, 11, 12, 13, 14] rfl, hD.sub [0, 1, 2, 3, 4, 5, 6, 7, 8, 9, 10, 11, 12, 13, 14] (by decide) rfl⟩, hS.F ht⟩) hS.2.2 dX11_lit_22
      ·
        have hP := g5_same hP hk1
        generalize H1 = H at hP hS ⊢
        refine lv_if_eq (tgt := 21) hx hb dX11_lit_11 (by decide) (fun c_31 => ?_) (fun c_31 => ?_)
        ·
          refine lv_iconst (v := (-1)) hx hb dX11_lit_21 (by decide) ?_
          exact W.iret (v := (-1)) hx hb hr (fun t ht hW => ⟨⟨(-1), [(a_o, (oc11 a_h a_im a_ke a_k a_wa a_th a_ha a_wk a_r a_x e_tl e_fd e_fpl a_wd e_wn a_rf e_lr)), (a_k, (oc5 a_h a_j a_pt e_ln e_se e_lh e_br e_we e_me e_ce e_wy e_ho e_ov)), (a_h, (oc1 e_wa e_le e_st e_fo e_lc a_l a_g a_b a_s a_p a_w e_gb a_bb)), (a_g, (oc6 6 5 a_gn e_g)), (a_gn, (arI G 30 f_g)), (a_b, (oc6 5 24 a_bn e_b)), (a_bn, (arI G 120 f_b)), (a_p, (oc6 8 5 a_pn e_p)), (a_pn, (arI G 40 f_p)), (a_bb, (arJ G 24 f_bb)), (a_j, (oc2 a_as a_sk)), (a_as, (arI G 8 f_as)), (a_sk, (arJ G 50 f_sk)), (a_l, (arW G 6 f_l)), (a_pt, (arI G 200 f_pt))], rfl, ⟨(-1), e_ln, e_se, e_lh, e_br, e_we, e_me, e_ce, e_wy, e_ho, e_ov, f_pt, f_as, f_sk, h_e_ov, rfl, rfl⟩, by rw [ht]; exact hP.sub [0, 1, 2, 3, 4, 5, 6, 7, 8, 9, 10, 11, 12, 13, 14] rfl, hD.sub [0, 1, 2, 3, 4, 5, 6, 7, 8, 9, 10, 11, 12, 13, 14] (by decide) rfl⟩, hS.F ht⟩) hS.2.2 dX11_lit_22
        ·
          exact absurd c_31 (by decide)
  ·
    have hP := g5_same hP hk1
    generalize H1 = H at hP hS ⊢
    refine lv_if_eq (tgt := 21) hx hb dX11_lit_4 (by decide) (fun c_32 => ?_) (fun c_32 => ?_)
    ·
      refine lv_iconst (v := (-1)) hx hb dX11_lit_21 (by decide) ?_
      exact W.iret (v := (-1)) hx hb hr (fun t ht hW => ⟨⟨(-1), [(a_o, (oc11 a_h a_im a_ke a_k a_wa a_th a_ha a_wk a_r a_x e_tl e_fd e_fpl a_wd e_wn a_rf e_lr)), (a_k, (oc5 a_h a_j a_pt e_ln e_se e_lh e_br e_we e_me e_ce e_wy e_ho e_ov)), (a_h, (oc1 e_wa e_le e_st e_fo e_lc a_l a_g a_b a_s a_p a_w e_gb a_bb)), (a_g, (oc6 6 5 a_gn e_g)), (a_gn, (arI G 30 f_g)), (a_b, (oc6 5 24 a_bn e_b)), (a_bn, (arI G 120 f_b)), (a_p, (oc6 8 5 a_pn e_p)), (a_pn, (arI G 40 f_p)), (a_bb, (arJ G 24 f_bb)), (a_j, (oc2 a_as a_sk)), (a_as, (arI G 8 f_as)), (a_sk, (arJ G 50 f_sk)), (a_l, (arW G 6 f_l)), (a_pt, (arI G 200 f_pt))], rfl, ⟨(-1), e_ln, e_se, e_lh, e_br, e_we, e_me, e_ce, e_wy, e_ho, e_ov, f_pt, f_as, f_sk, h_e_ov, rfl, rfl⟩, by rw [ht]; exact hP.sub [0, 1, 2, 3, 4, 5, 6, 7, 8, 9, 10, 11, 12, 13, 14] rfl, hD.sub [0, 1, 2, 3, 4, 5, 6, 7, 8, 9, 10, 11, 12, 13, 14] (by decide) rfl⟩, hS.F ht⟩) hS.2.2 dX11_lit_22
    ·
      exact absurd c_32 (by decide)
theorem dgX11_unseen_0 : ∀ r ∈ ([(0, (.iload_n 1, 1)), (1, (.invokestatic 97, 3)), (4, (.ifCond .ne 5, 3)), (7, (.iconst (-1), 1)), (8, (.ireturn, 1)), (9, (.aload_n 0, 1)), (10, (.getfield 38, 3)), (13, (.invokevirtual 254, 3)), (16, (.iconst 0, 1)), (17, (.istore_n 2, 1)), (18, (.iconst 0, 1)), (19, (.istore_n 3, 1)), (20, (.iload_n 3, 1)), (21, (.bipush 24, 2)), (23, (.if_icmp .ge 28, 3)), (26, (.aload_n 0, 1)), (27, (.getfield 38, 3)), (30, (.getfield 257, 3)), (33, (.iload_n 3, 1)), (34, (.laload, 1)), (35, (.iload_n 1, 1)), (36, (.invokestatic 115, 3)), (39, (.ifCond .ne 6, 3)), (42, (.iinc 2 1, 3)), (45, (.iinc 3 1, 3)), (48, (.goto (-28), 3)), (51, (.iload_n 2, 1)), (52, (.ireturn, 1))] : List (Nat × (Instr × Nat))), decode cX11_unseen r.1 = .ok r.2 := by decide +kernel
theorem dX11_unseen_0 : decode cX11_unseen 0 = .ok (.iload_n 1, 1) := dgX11_unseen_0 (0, (.iload_n 1, 1)) (List.mem_of_getElem? (i := 0) rfl)
theorem dX11_unseen_1 : decode cX11_unseen 1 = .ok (.invokestatic 97, 3) := dgX11_unseen_0 (1, (.invokestatic 97, 3)) (List.mem_of_getElem? (i := 1) rfl)
theorem dX11_unseen_4 : decode cX11_unseen 4 = .ok (.ifCond .ne 5, 3) := dgX11_unseen_0 (4, (.ifCond .ne 5, 3)) (List.mem_of_getElem? (i := 2) rfl)
theorem dX11_unseen_7 : decode cX11_unseen 7 = .ok (.iconst (-1), 1) := dgX11_unseen_0 (7, (.iconst (-1), 1)) (List.mem_of_getElem? (i := 3) rfl)
theorem dX11_unseen_8 : decode cX11_unseen 8 = .ok (.ireturn, 1) := dgX11_unseen_0 (8, (.ireturn, 1)) (List.mem_of_getElem? (i := 4) rfl)
theorem dX11_unseen_9 : decode cX11_unseen 9 = .ok (.aload_n 0, 1) := dgX11_unseen_0 (9, (.aload_n 0, 1)) (List.mem_of_getElem? (i := 5) rfl)
theorem dX11_unseen_10 : decode cX11_unseen 10 = .ok (.getfield 38, 3) := dgX11_unseen_0 (10, (.getfield 38, 3)) (List.mem_of_getElem? (i := 6) rfl)
theorem dX11_unseen_13 : decode cX11_unseen 13 = .ok (.invokevirtual 254, 3) := dgX11_unseen_0 (13, (.invokevirtual 254, 3)) (List.mem_of_getElem? (i := 7) rfl)
theorem dX11_unseen_16 : decode cX11_unseen 16 = .ok (.iconst 0, 1) := dgX11_unseen_0 (16, (.iconst 0, 1)) (List.mem_of_getElem? (i := 8) rfl)
theorem dX11_unseen_17 : decode cX11_unseen 17 = .ok (.istore_n 2, 1) := dgX11_unseen_0 (17, (.istore_n 2, 1)) (List.mem_of_getElem? (i := 9) rfl)
theorem dX11_unseen_18 : decode cX11_unseen 18 = .ok (.iconst 0, 1) := dgX11_unseen_0 (18, (.iconst 0, 1)) (List.mem_of_getElem? (i := 10) rfl)
theorem dX11_unseen_19 : decode cX11_unseen 19 = .ok (.istore_n 3, 1) := dgX11_unseen_0 (19, (.istore_n 3, 1)) (List.mem_of_getElem? (i := 11) rfl)
theorem dX11_unseen_20 : decode cX11_unseen 20 = .ok (.iload_n 3, 1) := dgX11_unseen_0 (20, (.iload_n 3, 1)) (List.mem_of_getElem? (i := 12) rfl)
theorem dX11_unseen_21 : decode cX11_unseen 21 = .ok (.bipush 24, 2) := dgX11_unseen_0 (21, (.bipush 24, 2)) (List.mem_of_getElem? (i := 13) rfl)
theorem dX11_unseen_23 : decode cX11_unseen 23 = .ok (.if_icmp .ge 28, 3) := dgX11_unseen_0 (23, (.if_icmp .ge 28, 3)) (List.mem_of_getElem? (i := 14) rfl)
theorem dX11_unseen_26 : decode cX11_unseen 26 = .ok (.aload_n 0, 1) := dgX11_unseen_0 (26, (.aload_n 0, 1)) (List.mem_of_getElem? (i := 15) rfl)
theorem dX11_unseen_27 : decode cX11_unseen 27 = .ok (.getfield 38, 3) := dgX11_unseen_0 (27, (.getfield 38, 3)) (List.mem_of_getElem? (i := 16) rfl)
theorem dX11_unseen_30 : decode cX11_unseen 30 = .ok (.getfield 257, 3) := dgX11_unseen_0 (30, (.getfield 257, 3)) (List.mem_of_getElem? (i := 17) rfl)
theorem dX11_unseen_33 : decode cX11_unseen 33 = .ok (.iload_n 3, 1) := dgX11_unseen_0 (33, (.iload_n 3, 1)) (List.mem_of_getElem? (i := 18) rfl)
theorem dX11_unseen_34 : decode cX11_unseen 34 = .ok (.laload, 1) := dgX11_unseen_0 (34, (.laload, 1)) (List.mem_of_getElem? (i := 19) rfl)
theorem dX11_unseen_35 : decode cX11_unseen 35 = .ok (.iload_n 1, 1) := dgX11_unseen_0 (35, (.iload_n 1, 1)) (List.mem_of_getElem? (i := 20) rfl)
theorem dX11_unseen_36 : decode cX11_unseen 36 = .ok (.invokestatic 115, 3) := dgX11_unseen_0 (36, (.invokestatic 115, 3)) (List.mem_of_getElem? (i := 21) rfl)
theorem dX11_unseen_39 : decode cX11_unseen 39 = .ok (.ifCond .ne 6, 3) := dgX11_unseen_0 (39, (.ifCond .ne 6, 3)) (List.mem_of_getElem? (i := 22) rfl)
theorem dX11_unseen_42 : decode cX11_unseen 42 = .ok (.iinc 2 1, 3) := dgX11_unseen_0 (42, (.iinc 2 1, 3)) (List.mem_of_getElem? (i := 23) rfl)
theorem dX11_unseen_45 : decode cX11_unseen 45 = .ok (.iinc 3 1, 3) := dgX11_unseen_0 (45, (.iinc 3 1, 3)) (List.mem_of_getElem? (i := 24) rfl)
theorem dX11_unseen_48 : decode cX11_unseen 48 = .ok (.goto (-28), 3) := dgX11_unseen_0 (48, (.goto (-28), 3)) (List.mem_of_getElem? (i := 25) rfl)
theorem dX11_unseen_51 : decode cX11_unseen 51 = .ok (.iload_n 2, 1) := dgX11_unseen_0 (51, (.iload_n 2, 1)) (List.mem_of_getElem? (i := 26) rfl)
theorem dX11_unseen_52 : decode cX11_unseen 52 = .ok (.ireturn, 1) := dgX11_unseen_0 (52, (.ireturn, 1)) (List.mem_of_getElem? (i := 27) rfl)
theorem fl_X11_38 : Cond.fieldLink RX11 38 "LateGlass" "watch" "LLateGlass$Watch;" ∈ tblG := tg 448 (by decide +kernel) (by decide +kernel)
theorem ml_X11_254 : Cond.methodLink RX11 254 yX10_lookAround ∈ tblG := tg 913 (by decide +kernel) (by decide +kernel)
theorem im_X10_lookAround : Cond.instanceMethod yX10_lookAround ∈ tblG := tg 914 (by decide +kernel) (by decide +kernel)
theorem se_X10_lookAround : Cond.selects RX10 yX10_lookAround yX10_lookAround ∈ tblG := tg 915 (by decide +kernel) (by decide +kernel)
theorem cd_X10_lookAround : Cond.code yX10_lookAround cX10_lookAround 5 none ∈ tblG := tg 916 (by decide +kernel) (by decide +kernel)
theorem gW_X10_lookAround : GoodIn tblG (wsG yX10_lookAround cX10_lookAround 5 none) := tgi cd_X10_lookAround
theorem gV_X11_254 : GoodIn tblG (wsV RX11 254 RX10 yX10_lookAround (wsG yX10_lookAround cX10_lookAround 5 none)) := tgV ml_X11_254 im_X10_lookAround se_X10_lookAround ini_X10 gW_X10_lookAround
theorem hv_X10_lookAround : yX10_lookAround.cls = RX10 ∧ yX10_lookAround.cls ≠ "java/lang/invoke/MethodHandle" ∧ yX10_lookAround.cls ≠ "java/lang/invoke/VarHandle" ∧ (parseMethodDescriptor yX10_lookAround.desc).map (fun d => d.parameters.length) = some 0 := by decide +kernel
theorem fl_X11_257 : Cond.fieldLink RX11 257 "LateGlass$Watch" "boards" "[J" ∈ tblG := tg 303 (by decide +kernel) (by decide +kernel)
set_option maxHeartbeats 4000000 in
set_option maxRecDepth 100000 in
theorem x_unseenN (l : Launch) (G : g5_G) (a_o a_k a_h a_g a_gn a_b a_bn a_p a_pn a_bb a_j a_as a_sk a_l a_pt a_wa a_bo a_im a_ke a_th a_ha a_wk a_r a_x a_wd a_rf a_s a_w : Nat) (sz : Nat) (e_tl : Int32) (e_fd : Int32) (e_fpl : Int32) (e_wn : Int32) (e_lr : Int32) (e_le : Int32) (e_st : Int32) (e_fo : Int32) (e_lc : Int32) (e_g : Int32) (e_b : Int32) (e_p : Int32) (e_ln : Int32) (e_se : Int32) (e_lh : Int32) (e_br : Int32) (e_we : Int32) (e_me : Int32) (e_ce : Int32) (e_wy : Int32) (e_ho : Int32) (e_ov : Int32) (p_c : Int32) (e_wa : Int64) (e_gb : Int64) (f_g : Nat → Int32) (f_b : Nat → Int32) (f_p : Nat → Int32) (f_bb : Nat → Int64) (f_as : Nat → Int32) (f_sk : Nat → Int64) (f_l : Nat → Option Nat) (f_pt : Nat → Int32) (f_bo : Nat → Int64) (h_e_tl : 0 ≤ e_tl.toInt ∧ e_tl.toInt ≤ 400) (h_e_wn : 0 ≤ e_wn.toInt ∧ e_wn.toInt ≤ 1) (h_e_g : 0 ≤ e_g.toInt ∧ e_g.toInt ≤ 6) (h_e_b : 0 ≤ e_b.toInt ∧ e_b.toInt ≤ 5) (h_e_p : 0 ≤ e_p.toInt ∧ e_p.toInt ≤ 8) (h_e_ov : 0 ≤ e_ov.toInt ∧ e_ov.toInt ≤ 1) (e_gk : gOK f_g e_g.toInt) (e_pk : gOK f_p e_p.toInt) (e_gi : inT e_gb f_g e_g.toInt) (e_f : e_fo.toInt < 0 ∨ e_lc.toInt ≤ e_fo.toInt) : Met l yX11_unseen (wsG yX11_unseen cX11_unseen 4 (some .int)) ({ frames := 15, cells := 0, slots := 0, locals := 580 }) (va_Pc [.ref a_o, .int p_c] (g5_P G [(a_o, (oc11 a_h a_im a_ke a_k a_wa a_th a_ha a_wk a_r a_x e_tl e_fd e_fpl a_wd e_wn a_rf e_lr)), (a_k, (oc5 a_h a_j a_pt e_ln e_se e_lh e_br e_we e_me e_ce e_wy e_ho e_ov)), (a_h, (oc1 e_wa e_le e_st e_fo e_lc a_l a_g a_b a_s a_p a_w e_gb a_bb)), (a_g, (oc6 6 5 a_gn e_g)), (a_gn, (arI G 30 f_g)), (a_b, (oc6 5 24 a_bn e_b)), (a_bn, (arI G 120 f_b)), (a_p, (oc6 8 5 a_pn e_p)), (a_pn, (arI G 40 f_p)), (a_bb, (arJ G 24 f_bb)), (a_j, (oc2 a_as a_sk)), (a_as, (arI G 8 f_as)), (a_sk, (arJ G 50 f_sk)), (a_l, (arW G 6 f_l)), (a_pt, (arI G 200 f_pt)), (a_wa, (oc10 a_h a_k a_bo)), (a_bo, (arJ G 24 f_bo))] sz)) (va_Qi (fun (r : Int32) (u : va_W) => (∃ (o_r : Int32) (o_ln : Int32) (o_se : Int32) (o_lh : Int32) (o_br : Int32) (o_we : Int32) (o_me : Int32) (o_ce : Int32) (o_wy : Int32) (o_ho : Int32) (o_ov : Int32) (o_pt : Nat → Int32) (o_as : Nat → Int32) (o_sk : Nat → Int64) (o_bo : Nat → Int64), (0 ≤ o_ov.toInt ∧ o_ov.toInt ≤ 1) ∧ (r = o_r) ∧ (u = [(a_o, (oc11 a_h a_im a_ke a_k a_wa a_th a_ha a_wk a_r a_x e_tl e_fd e_fpl a_wd e_wn a_rf e_lr)), (a_k, (oc5 a_h a_j a_pt o_ln o_se o_lh o_br o_we o_me o_ce o_wy o_ho o_ov)), (a_h, (oc1 e_wa e_le e_st e_fo e_lc a_l a_g a_b a_s a_p a_w e_gb a_bb)), (a_g, (oc6 6 5 a_gn e_g)), (a_gn, (arI G 30 f_g)), (a_b, (oc6 5 24 a_bn e_b)), (a_bn, (arI G 120 f_b)), (a_p, (oc6 8 5 a_pn e_p)), (a_pn, (arI G 40 f_p)), (a_bb, (arJ G 24 f_bb)), (a_j, (oc2 a_as a_sk)), (a_as, (arI G 8 o_as)), (a_sk, (arJ G 50 o_sk)), (a_l, (arW G 6 f_l)), (a_pt, (arI G 200 o_pt)), (a_wa, (oc10 a_h a_k a_bo)), (a_bo, (arJ G 24 o_bo))]))) (g5_B G (va_A [(a_o, (oc11 a_h a_im a_ke a_k a_wa a_th a_ha a_wk a_r a_x e_tl e_fd e_fpl a_wd e_wn a_rf e_lr)), (a_k, (oc5 a_h a_j a_pt e_ln e_se e_lh e_br e_we e_me e_ce e_wy e_ho e_ov)), (a_h, (oc1 e_wa e_le e_st e_fo e_lc a_l a_g a_b a_s a_p a_w e_gb a_bb)), (a_g, (oc6 6 5 a_gn e_g)), (a_gn, (arI G 30 f_g)), (a_b, (oc6 5 24 a_bn e_b)), (a_bn, (arI G 120 f_b)), (a_p, (oc6 8 5 a_pn e_p)), (a_pn, (arI G 40 f_p)), (a_bb, (arJ G 24 f_bb)), (a_j, (oc2 a_as a_sk)), (a_as, (arI G 8 f_as)), (a_sk, (arJ G 50 f_sk)), (a_l, (arW G 6 f_l)), (a_pt, (arI G 200 f_pt)), (a_wa, (oc10 a_h a_k a_bo)), (a_bo, (arJ G 24 f_bo))] sz)) (va_A [(a_o, (oc11 a_h a_im a_ke a_k a_wa a_th a_ha a_wk a_r a_x e_tl e_fd e_fpl a_wd e_wn a_rf e_lr)), (a_k, (oc5 a_h a_j a_pt e_ln e_se e_lh e_br e_we e_me e_ce e_wy e_ho e_ov)), (a_h, (oc1 e_wa e_le e_st e_fo e_lc a_l a_g a_b a_s a_p a_w e_gb a_bb)), (a_g, (oc6 6 5 a_gn e_g)), (a_gn, (arI G 30 f_g)), (a_b, (oc6 5 24 a_bn e_b)), (a_bn, (arI G 120 f_b)), (a_p, (oc6 8 5 a_pn e_p)), (a_pn, (arI G 40 f_p)), (a_bb, (arJ G 24 f_bb)), (a_j, (oc2 a_as a_sk)), (a_as, (arI G 8 f_as)), (a_sk, (arJ G 50 f_sk)), (a_l, (arW G 6 f_l)), (a_pt, (arI G 200 f_pt)), (a_wa, (oc10 a_h a_k a_bo)), (a_bo, (arJ G 24 f_bo))] sz)) 0 0 (va_A [(a_o, (oc11 a_h a_im a_ke a_k a_wa a_th a_ha a_wk a_r a_x e_tl e_fd e_fpl a_wd e_wn a_rf e_lr)), (a_k, (oc5 a_h a_j a_pt e_ln e_se e_lh e_br e_we e_me e_ce e_wy e_ho e_ov)), (a_h, (oc1 e_wa e_le e_st e_fo e_lc a_l a_g a_b a_s a_p a_w e_gb a_bb)), (a_g, (oc6 6 5 a_gn e_g)), (a_gn, (arI G 30 f_g)), (a_b, (oc6 5 24 a_bn e_b)), (a_bn, (arI G 120 f_b)), (a_p, (oc6 8 5 a_pn e_p)), (a_pn, (arI G 40 f_p)), (a_bb, (arJ G 24 f_bb)), (a_j, (oc2 a_as a_sk)), (a_as, (arI G 8 f_as)), (a_sk, (arJ G 50 f_sk)), (a_l, (arW G 6 f_l)), (a_pt, (arI G 200 f_pt)), (a_wa, (oc10 a_h a_k a_bo)), (a_bo, (arJ G 24 f_bo))] sz) := by
  refine Met.ofW (cc := cX11_unseen) (maxL := 4) (ret := (some .int)) (by decide) rfl ?_
  intro p e s m args below meth c s₁ B hml hv
  obtain ⟨rfl, hsz, hP, hK, hD0, hN, hT⟩ := hv
  have hx := B.exec
  have hb := B.bytes
  have hr := B.returns
  have hts : ∀ w ∈ tblG, w.before _ s = true := fun w h => atoms_spec (ws := (wsG yX11_unseen cX11_unseen 4 (some .int))) B.pre w (List.mem_cons_of_mem _ h)
  have hown : s.vm.findClass RX11 = some m.cls := findClass_of_methodNamed B.named
  have hlocks := B.notSynchronized
  subst hsz
  have hD := hD0.self (sz := s.heap.size)
  generalize hAe : va_A [(a_o, (oc11 a_h a_im a_ke a_k a_wa a_th a_ha a_wk a_r a_x e_tl e_fd e_fpl a_wd e_wn a_rf e_lr)), (a_k, (oc5 a_h a_j a_pt e_ln e_se e_lh e_br e_we e_me e_ce e_wy e_ho e_ov)), (a_h, (oc1 e_wa e_le e_st e_fo e_lc a_l a_g a_b a_s a_p a_w e_gb a_bb)), (a_g, (oc6 6 5 a_gn e_g)), (a_gn, (arI G 30 f_g)), (a_b, (oc6 5 24 a_bn e_b)), (a_bn, (arI G 120 f_b)), (a_p, (oc6 8 5 a_pn e_p)), (a_pn, (arI G 40 f_p)), (a_bb, (arJ G 24 f_bb)), (a_j, (oc2 a_as a_sk)), (a_as, (arI G 8 f_as)), (a_sk, (arJ G 50 f_sk)), (a_l, (arW G 6 f_l)), (a_pt, (arI G 200 f_pt)), (a_wa, (oc10 a_h a_k a_bo)), (a_bo, (arJ G 24 f_bo))] s.heap.size = A at hD hT ⊢
  have hA : ∀ q : Nat, s.heap.size ≤ q → A q := fun q h => by rw [← hAe]; exact Or.inr h
  have hS : va_S A s.heap s.heap [] := va_S.rf
  have hP : va_P G.1 vwCl [(a_o, (oc11 a_h a_im a_ke a_k a_wa a_th a_ha a_wk a_r a_x e_tl e_fd e_fpl a_wd e_wn a_rf e_lr)), (a_k, (oc5 a_h a_j a_pt e_ln e_se e_lh e_br e_we e_me e_ce e_wy e_ho e_ov)), (a_h, (oc1 e_wa e_le e_st e_fo e_lc a_l a_g a_b a_s a_p a_w e_gb a_bb)), (a_g, (oc6 6 5 a_gn e_g)), (a_gn, (arI G 30 f_g)), (a_b, (oc6 5 24 a_bn e_b)), (a_bn, (arI G 120 f_b)), (a_p, (oc6 8 5 a_pn e_p)), (a_pn, (arI G 40 f_p)), (a_bb, (arJ G 24 f_bb)), (a_j, (oc2 a_as a_sk)), (a_as, (arI G 8 f_as)), (a_sk, (arJ G 50 f_sk)), (a_l, (arW G 6 f_l)), (a_pt, (arI G 200 f_pt)), (a_wa, (oc10 a_h a_k a_bo)), (a_bo, (arJ G 24 f_bo))] s.heap := hP
  have hl := lv_entry ([.ref a_o, .int p_c]) (n := 4) (Nat.le_of_ble_eq_true rfl)
  rw [lg_entry_eq]
  generalize (lg_sl ([.ref a_o, .int p_c]) ++ List.replicate (4 - (lg_sl ([.ref a_o, .int p_c])).length) Slot.unset).toArray = ls at hl ⊢
  have hl : lv_has ls 4 [(0, .ref a_o), (1, .int p_c)] := hl
  refine lv_iload_n hx hb dX11_unseen_0 rfl (lv_at hl 1 rfl) ?_
  obtain ⟨hPc, hDc, hFc⟩ := g5_sub3 (wc := []) hP hD hS hA [] (by decide) rfl
  refine va_calli (va_runS (As := [.int p_c]) (rest := []) ⟨hx, hb, hml, hown, hts⟩ (x_isCell l G s.heap.size p_c) (va_cwS 1 hts gS_X11_97 rfl rfl rfl hs_X11_isCell ⟨Nat.le_of_ble_eq_true rfl, Nat.le_of_ble_eq_true rfl⟩) (g5_preS hPc hK hDc hN hT hS hFc) rfl rfl hl.1 rfl (lv_room (Nat.le_of_ble_eq_true rfl)) dX11_unseen_1 ⟨Nat.le_of_ble_eq_true rfl, Nat.le_of_ble_eq_true rfl⟩) hS (fun q _ h => hFc q h) hFc (fun r u t H1 locs ht hvm hw hB hz1 hk1 hS => ?_)
  obtain ⟨hP1, hD1⟩ := hB
  rw [ht] at hP1
  rcases hw with ⟨i_1, rfl, rfl⟩ | ⟨rfl, rfl⟩
  ·
    have i_1 : 0 ≤ p_c.toInt ∧ p_c.toInt ≤ 63 := i_1
    have hP := g5_same hP hk1
    generalize H1 = H at hP hS ⊢
    refine lv_if_ne (tgt := 9) hx hb dX11_unseen_4 (by decide) (fun c_2 => ?_) (fun c_2 => ?_)
    ·
      refine lv_aload_n hx hb dX11_unseen_9 rfl (lv_at hl 0 rfl) ?_
      refine va_get (D := G.1) (ci := 11) (v := .ref a_wa) (C := RX11) (T := TX11) (N := 17) hx hb hts inG_X11 hown hK hP 0 rfl rfl 4 (by decide) (hts _ fl_X11_38) (fun _ h9 => h9) rfl dX11_unseen_10 ?_
      obtain ⟨hPc, hDc, hFc⟩ := g5_sub3 (wc := [(a_k, (oc5 a_h a_j a_pt e_ln e_se e_lh e_br e_we e_me e_ce e_wy e_ho e_ov)), (a_h, (oc1 e_wa e_le e_st e_fo e_lc a_l a_g a_b a_s a_p a_w e_gb a_bb)), (a_g, (oc6 6 5 a_gn e_g)), (a_gn, (arI G 30 f_g)), (a_b, (oc6 5 24 a_bn e_b)), (a_bn, (arI G 120 f_b)), (a_p, (oc6 8 5 a_pn e_p)), (a_pn, (arI G 40 f_p)), (a_bb, (arJ G 24 f_bb)), (a_j, (oc2 a_as a_sk)), (a_as, (arI G 8 f_as)), (a_sk, (arJ G 50 f_sk)), (a_l, (arW G 6 f_l)), (a_pt, (arI G 200 f_pt)), (a_wa, (oc10 a_h a_k a_bo)), (a_bo, (arJ G 24 f_bo))]) hP hD hS hA [1, 2, 3, 4, 5, 6, 7, 8, 9, 10, 11, 12, 13, 14, 15, 16] (by decide) rfl
      refine va_callv (va_runV (As := []) (rest := []) ⟨hx, hb, hml, hown, hts⟩ (w_lookAroundN l G a_k a_h a_g a_gn a_b a_bn a_p a_pn a_bb a_j a_as a_sk a_l a_pt a_wa a_bo a_s a_w H.size e_le e_st e_fo e_lc e_g e_b e_p e_ln e_se e_lh e_br e_we e_me e_ce e_wy e_ho e_ov e_wa e_gb f_g f_b f_p f_bb f_as f_sk f_l f_pt f_bo h_e_g h_e_b h_e_p h_e_ov (e_gk) (e_pk) (e_gi) (e_f)) (cwV 0 hts gV_X11_254 rfl rfl rfl hv_X10_lookAround ⟨Nat.le_of_ble_eq_true rfl, Nat.le_of_ble_eq_true rfl⟩) (g5_preV hPc hK hDc hN hT hS hFc (ci := 10) (q0 := 14) rfl rfl) rfl rfl hl.1 rfl (lv_room (Nat.le_of_ble_eq_true rfl)) dX11_unseen_13 ⟨Nat.le_of_ble_eq_true rfl, Nat.le_of_ble_eq_true rfl⟩) hS (fun q _ h => hFc q h) hFc (fun u t H1 locs ht hvm hw hB hz1 hk1 hS => ?_)
      obtain ⟨hP1, hD1⟩ := hB
      rw [ht] at hP1
      obtain ⟨z4, z5, z6, z7, z8, z9, z10, z11, z12, z13, z14, z15, z16, z17, i_3, rfl⟩ := hw
      have i_3 : 0 ≤ z13.toInt ∧ z13.toInt ≤ 1 := i_3
      obtain ⟨hP, hD⟩ := va_join (wr := [(a_o, (oc11 a_h a_im a_ke a_k a_wa a_th a_ha a_wk a_r a_x e_tl e_fd e_fpl a_wd e_wn a_rf e_lr))]) hP hD [1, 2, 3, 4, 5, 6, 7, 8, 9, 10, 11, 12, 13, 14, 15, 16] [0] rfl rfl (by decide) (by decide) hk1 hFc hP1 hD1
      generalize H1 = H at hP hS ⊢
      refine g5_rs [(a_o, (oc11 a_h a_im a_ke a_k a_wa a_th a_ha a_wk a_r a_x e_tl e_fd e_fpl a_wd e_wn a_rf e_lr)), (a_k, (oc5 a_h a_j a_pt z4 z5 z6 z7 z8 z9 z10 z11 z12 z13)), (a_h, (oc1 e_wa e_le e_st e_fo e_lc a_l a_g a_b a_s a_p a_w e_gb a_bb)), (a_g, (oc6 6 5 a_gn e_g)), (a_gn, (arI G 30 f_g)), (a_b, (oc6 5 24 a_bn e_b)), (a_bn, (arI G 120 f_b)), (a_p, (oc6 8 5 a_pn e_p)), (a_pn, (arI G 40 f_p)), (a_bb, (arJ G 24 f_bb)), (a_j, (oc2 a_as a_sk)), (a_as, (arI G 8 z15)), (a_sk, (arJ G 50 z16)), (a_l, (arW G 6 f_l)), (a_pt, (arI G 200 z14)), (a_wa, (oc10 a_h a_k a_bo)), (a_bo, (arJ G 24 z17))] hP hD (fun hP hD => ?_)
      refine lv_iconst (v := 0) hx hb dX11_unseen_16 (by decide) ?_
      refine lv_istore_n (lv' := [(2, .int 0), (0, .ref a_o), (1, .int p_c)]) hx hb dX11_unseen_17 rfl hl (by decide) rfl (fun ls hl => ?_)
      refine lv_iconst (v := 0) hx hb dX11_unseen_18 (by decide) ?_
      refine lv_istore_n (lv' := [(3, .int 0), (2, .int 0), (0, .ref a_o), (1, .int p_c)]) hx hb dX11_unseen_19 rfl hl (by decide) rfl (fun ls hl => ?_)
      refine g5_loop (α := (Int32) × (Int32)) (fun (q : (Int32) × (Int32)) (ls : Array Slot) (H : Heap) (locs : List Loc) => match q with | (k_i, k_n) => lv_has ls 4 [(2, .int k_n), (3, .int k_i), (0, .ref a_o), (1, .int p_c)] ∧ va_P G.1 vwCl [(a_o, (oc11 a_h a_im a_ke a_k a_wa a_th a_ha a_wk a_r a_x e_tl e_fd e_fpl a_wd e_wn a_rf e_lr)), (a_k, (oc5 a_h a_j a_pt z4 z5 z6 z7 z8 z9 z10 z11 z12 z13)), (a_h, (oc1 e_wa e_le e_st e_fo e_lc a_l a_g a_b a_s a_p a_w e_gb a_bb)), (a_g, (oc6 6 5 a_gn e_g)), (a_gn, (arI G 30 f_g)), (a_b, (oc6 5 24 a_bn e_b)), (a_bn, (arI G 120 f_b)), (a_p, (oc6 8 5 a_pn e_p)), (a_pn, (arI G 40 f_p)), (a_bb, (arJ G 24 f_bb)), (a_j, (oc2 a_as a_sk)), (a_as, (arI G 8 z15)), (a_sk, (arJ G 50 z16)), (a_l, (arW G 6 f_l)), (a_pt, (arI G 200 z14)), (a_wa, (oc10 a_h a_k a_bo)), (a_bo, (arJ G 24 z17))] H ∧ va_D A [(a_o, (oc11 a_h a_im a_ke a_k a_wa a_th a_ha a_wk a_r a_x e_tl e_fd e_fpl a_wd e_wn a_rf e_lr)), (a_k, (oc5 a_h a_j a_pt z4 z5 z6 z7 z8 z9 z10 z11 z12 z13)), (a_h, (oc1 e_wa e_le e_st e_fo e_lc a_l a_g a_b a_s a_p a_w e_gb a_bb)), (a_g, (oc6 6 5 a_gn e_g)), (a_gn, (arI G 30 f_g)), (a_b, (oc6 5 24 a_bn e_b)), (a_bn, (arI G 120 f_b)), (a_p, (oc6 8 5 a_pn e_p)), (a_pn, (arI G 40 f_p)), (a_bb, (arJ G 24 f_bb)), (a_j, (oc2 a_as a_sk)), (a_as, (arI G 8 z15)), (a_sk, (arJ G 50 z16)), (a_l, (arW G 6 f_l)), (a_pt, (arI G 200 z14)), (a_wa, (oc10 a_h a_k a_bo)), (a_bo, (arJ G 24 z17))] ∧ va_S A s.heap H locs ∧ (0 ≤ k_i.toInt ∧ k_i.toInt ≤ 24)) (fun (q : (Int32) × (Int32)) => match q with | (k_i, k_n) => Int.toNat (24 - k_i.toInt)) (0, 0) ⟨lv_sub hl [1, 0, 2, 3] rfl, hP, hD, hS, ⟨by decide, by decide⟩⟩ ?_
      rintro ⟨k_i, k_n⟩ ls H locs ⟨hl, hP, hD, hS, i_18⟩ ih_20_19
      have hl : lv_has ls 4 [(2, .int k_n), (3, .int k_i), (0, .ref a_o), (1, .int p_c)] := hl
      have i_18 : 0 ≤ k_i.toInt ∧ k_i.toInt ≤ 24 := i_18
      refine g5_rs [(a_o, (oc11 a_h a_im a_ke a_k a_wa a_th a_ha a_wk a_r a_x e_tl e_fd e_fpl a_wd e_wn a_rf e_lr)), (a_k, (oc5 a_h a_j a_pt z4 z5 z6 z7 z8 z9 z10 z11 z12 z13)), (a_h, (oc1 e_wa e_le e_st e_fo e_lc a_l a_g a_b a_s a_p a_w e_gb a_bb)), (a_g, (oc6 6 5 a_gn e_g)), (a_gn, (arI G 30 f_g)), (a_b, (oc6 5 24 a_bn e_b)), (a_bn, (arI G 120 f_b)), (a_p, (oc6 8 5 a_pn e_p)), (a_pn, (arI G 40 f_p)), (a_bb, (arJ G 24 f_bb)), (a_j, (oc2 a_as a_sk)), (a_as, (arI G 8 z15)), (a_sk, (arJ G 50 z16)), (a_l, (arW G 6 f_l)), (a_pt, (arI G 200 z14)), (a_wa, (oc10 a_h a_k a_bo)), (a_bo, (arJ G 24 z17))] hP hD (fun hP hD => ?_)
      refine lv_iload_n hx hb dX11_unseen_20 rfl (lv_at hl 1 rfl) ?_
      refine lv_bipush (v := 24) hx hb dX11_unseen_21 (by decide) ?_
      refine lv_icmp_ge (tgt := 51) hx hb dX11_unseen_23 (by decide) (fun c_20 => ?_) (fun c_20 => ?_)
      ·
        have i_20 : k_i.toInt ≥ 24 := by have z := g5_ge (a := k_i.toInt) (b := 24) (by rfl) (by decide) c_20; omega
        refine lv_iload_n hx hb dX11_unseen_51 rfl (lv_at hl 0 rfl) ?_
        exact W.iret (v := k_n) hx hb hr (fun t ht hW => ⟨⟨k_n, [(a_o, (oc11 a_h a_im a_ke a_k a_wa a_th a_ha a_wk a_r a_x e_tl e_fd e_fpl a_wd e_wn a_rf e_lr)), (a_k, (oc5 a_h a_j a_pt z4 z5 z6 z7 z8 z9 z10 z11 z12 z13)), (a_h, (oc1 e_wa e_le e_st e_fo e_lc a_l a_g a_b a_s a_p a_w e_gb a_bb)), (a_g, (oc6 6 5 a_gn e_g)), (a_gn, (arI G 30 f_g)), (a_b, (oc6 5 24 a_bn e_b)), (a_bn, (arI G 120 f_b)), (a_p, (oc6 8 5 a_pn e_p)), (a_pn, (arI G 40 f_p)), (a_bb, (arJ G 24 f_bb)), (a_j, (oc2 a_as a_sk)), (a_as, (arI G 8 z15)), (a_sk, (arJ G 50 z16)), (a_l, (arW G 6 f_l)), (a_pt, (arI G 200 z14)), (a_wa, (oc10 a_h a_k a_bo)), (a_bo, (arJ G 24 z17))], rfl, ⟨k_n, z4, z5, z6, z7, z8, z9, z10, z11, z12, z13, z14, z15, z16, z17, i_3, rfl, rfl⟩, by rw [ht]; exact hP.sub [0, 1, 2, 3, 4, 5, 6, 7, 8, 9, 10, 11, 12, 13, 14, 15, 16] rfl, hD.sub [0, 1, 2, 3, 4, 5, 6, 7, 8, 9, 10, 11, 12, 13, 14, 15, 16] (by decide) rfl⟩, hS.F ht⟩) hS.2.2 dX11_unseen_52
      ·
        have i_20 : k_i.toInt < 24 := by have z := g5_geN (a := k_i.toInt) (b := 24) (by rfl) (by decide) c_20; omega
        refine lv_aload_n hx hb dX11_unseen_26 rfl (lv_at hl 2 rfl) ?_
        refine va_get (D := G.1) (ci := 11) (v := .ref a_wa) (C := RX11) (T := TX11) (N := 17) hx hb hts inG_X11 hown hK hP 0 rfl rfl 4 (by decide) (hts _ fl_X11_38) (fun _ h9 => h9) rfl dX11_unseen_27 ?_
        refine va_get (D := G.1) (ci := 10) (v := .ref a_bo) (C := RX10) (T := TX10) (N := 3) hx hb hts inG_X10 hown hK hP 15 rfl rfl 2 (by decide) (hts _ fl_X11_257) (fun _ h9 => h9) rfl dX11_unseen_30 ?_
        refine lv_iload_n hx hb dX11_unseen_33 rfl (lv_at hl 1 rfl) ?_
        refine va_lald hx hb hK hP 16 1 rfl rfl (i := k_i) (vp_in_iff.mpr ⟨by omega, by omega⟩) dX11_unseen_34 ?_
        refine lv_iload_n hx hb dX11_unseen_35 rfl (lv_at hl 3 rfl) ?_
        obtain ⟨hPc, hDc, hFc⟩ := g5_sub3 (wc := []) hP hD hS hA [] (by decide) rfl
        refine va_calli (va_runS (As := [.long (z17 k_i.toNatClampNeg), .int p_c]) (rest := []) ⟨hx, hb, hml, hown, hts⟩ (k_isOn l G H.size p_c (z17 k_i.toNatClampNeg) i_1) (va_cwS 2 hts gS_X11_115 rfl rfl rfl hs_X11_isOn ⟨Nat.le_of_ble_eq_true rfl, Nat.le_of_ble_eq_true rfl⟩) (g5_preS hPc hK hDc hN hT hS hFc) rfl rfl hl.1 rfl (lv_room (Nat.le_of_ble_eq_true rfl)) dX11_unseen_36 ⟨Nat.le_of_ble_eq_true rfl, Nat.le_of_ble_eq_true rfl⟩) hS (fun q _ h => hFc q h) hFc (fun r u t H1 locs ht hvm hw hB hz1 hk1 hS => ?_)
        obtain ⟨hP1, hD1⟩ := hB
        rw [ht] at hP1
        rcases hw with ⟨i_21, rfl, rfl⟩ | ⟨i_22, rfl, rfl⟩
        ·
          have i_21 : onB (z17 k_i.toNatClampNeg) p_c.toInt = false := i_21
          have hP := g5_same hP hk1
          generalize H1 = H at hP hS ⊢
          refine lv_if_ne (tgt := 45) hx hb dX11_unseen_39 (by decide) (fun c_23 => ?_) (fun c_23 => ?_)
          ·
            exact absurd c_23 (by decide)
          ·
            refine lv_iinc (v := (k_n + 1)) (lv' := [(2, .int (k_n + 1)), (3, .int k_i), (0, .ref a_o), (1, .int p_c)]) hx hb dX11_unseen_42 hl (k := 0) rfl rfl (by decide) rfl (fun ls hl => ?_)
            refine lv_iinc (v := (k_i + 1)) (lv' := [(3, .int (k_i + 1)), (2, .int (k_n + 1)), (0, .ref a_o), (1, .int p_c)]) hx hb dX11_unseen_45 hl (k := 1) rfl rfl (by decide) rfl (fun ls hl => ?_)
            have t_24 : (k_i + 1).toInt = k_i.toInt + 1 := g5_iadd (a := k_i.toInt) (b := 1) rfl (by decide) (by omega) (by omega)
            refine lv_goto (tgt := 20) hx hb dX11_unseen_48 (by decide) ?_
            exact ih_20_19 ((k_i + 1), (k_n + 1)) ls H locs (show Int.toNat (24 - (k_i + 1).toInt) < Int.toNat (24 - k_i.toInt) from g_up (show k_i.toInt < (k_i + 1).toInt by omega) (show k_i.toInt < 24 by omega)) ⟨lv_sub hl [1, 0, 2, 3] rfl, hP, hD, hS, ⟨by omega, by omega⟩⟩
        ·
          have i_22 : onB (z17 k_i.toNatClampNeg) p_c.toInt = true := i_22
          have hP := g5_same hP hk1
          generalize H1 = H at hP hS ⊢
          refine lv_if_ne (tgt := 45) hx hb dX11_unseen_39 (by decide) (fun c_25 => ?_) (fun c_25 => ?_)
          ·
            refine lv_iinc (v := (k_i + 1)) (lv' := [(3, .int (k_i + 1)), (2, .int k_n), (0, .ref a_o), (1, .int p_c)]) hx hb dX11_unseen_45 hl (k := 1) rfl rfl (by decide) rfl (fun ls hl => ?_)
            have t_26 : (k_i + 1).toInt = k_i.toInt + 1 := g5_iadd (a := k_i.toInt) (b := 1) rfl (by decide) (by omega) (by omega)
            refine lv_goto (tgt := 20) hx hb dX11_unseen_48 (by decide) ?_
            exact ih_20_19 ((k_i + 1), k_n) ls H locs (show Int.toNat (24 - (k_i + 1).toInt) < Int.toNat (24 - k_i.toInt) from g_up (show k_i.toInt < (k_i + 1).toInt by omega) (show k_i.toInt < 24 by omega)) ⟨lv_sub hl [1, 0, 2, 3] rfl, hP, hD, hS, ⟨by omega, by omega⟩⟩
          ·
            exact absurd c_25 (by decide)
    ·
      exact absurd c_2 (by decide)
  ·
    have hP := g5_same hP hk1
    generalize H1 = H at hP hS ⊢
    refine lv_if_ne (tgt := 9) hx hb dX11_unseen_4 (by decide) (fun c_27 => ?_) (fun c_27 => ?_)
    ·
      exact absurd c_27 (by decide)
    ·
      refine lv_iconst (v := (-1)) hx hb dX11_unseen_7 (by decide) ?_
      exact W.iret (v := (-1)) hx hb hr (fun t ht hW => ⟨⟨(-1), [(a_o, (oc11 a_h a_im a_ke a_k a_wa a_th a_ha a_wk a_r a_x e_tl e_fd e_fpl a_wd e_wn a_rf e_lr)), (a_k, (oc5 a_h a_j a_pt e_ln e_se e_lh e_br e_we e_me e_ce e_wy e_ho e_ov)), (a_h, (oc1 e_wa e_le e_st e_fo e_lc a_l a_g a_b a_s a_p a_w e_gb a_bb)), (a_g, (oc6 6 5 a_gn e_g)), (a_gn, (arI G 30 f_g)), (a_b, (oc6 5 24 a_bn e_b)), (a_bn, (arI G 120 f_b)), (a_p, (oc6 8 5 a_pn e_p)), (a_pn, (arI G 40 f_p)), (a_bb, (arJ G 24 f_bb)), (a_j, (oc2 a_as a_sk)), (a_as, (arI G 8 f_as)), (a_sk, (arJ G 50 f_sk)), (a_l, (arW G 6 f_l)), (a_pt, (arI G 200 f_pt)), (a_wa, (oc10 a_h a_k a_bo)), (a_bo, (arJ G 24 f_bo))], rfl, ⟨(-1), e_ln, e_se, e_lh, e_br, e_we, e_me, e_ce, e_wy, e_ho, e_ov, f_pt, f_as, f_sk, f_bo, h_e_ov, rfl, rfl⟩, by rw [ht]; exact hP.sub [0, 1, 2, 3, 4, 5, 6, 7, 8, 9, 10, 11, 12, 13, 14, 15, 16] rfl, hD.sub [0, 1, 2, 3, 4, 5, 6, 7, 8, 9, 10, 11, 12, 13, 14, 15, 16] (by decide) rfl⟩, hS.F ht⟩) hS.2.2 dX11_unseen_8
theorem dgX11_wander_0 : ∀ r ∈ ([(0, (.iload_n 1, 1)), (1, (.ifCond .lt 16, 3)), (4, (.iload_n 1, 1)), (5, (.ldc 181, 2)), (7, (.if_icmp .gt 10, 3)), (10, (.iload_n 2, 1)), (11, (.invokestatic 97, 3)), (14, (.ifCond .ne 9, 3)), (17, (.aload_n 0, 1)), (18, (.iconst (-1), 1)), (19, (.invokevirtual 104, 3)), (22, (.ireturn, 1)), (23, (.aload_n 0, 1)), (24, (.getfield 12, 3)), (27, (.getfield 111, 3)), (30, (.iload_n 2, 1)), (31, (.invokestatic 115, 3)), (34, (.ifCond .eq 10, 3)), (37, (.aload_n 0, 1)), (38, (.bipush (-3), 2)), (40, (.invokevirtual 104, 3)), (43, (.ireturn, 1)), (44, (.aload_n 0, 1)), (45, (.getfield 38, 3)), (48, (.invokevirtual 254, 3)), (51, (.aload_n 0, 1)), (52, (.iconst 1, 1)), (53, (.putfield 87, 3)), (56, (.iload_n 1, 1)), (57, (.i2l, 1)), (58, (.lstore_n 3, 1)), (59, (.iload_n 2, 1)), (60, (.istore 5, 2)), (62, (.iconst 0, 1)), (63, (.istore 6, 2)), (65, (.iconst 0, 1)), (66, (.istore 7, 2)), (68, (.iload 7, 2)), (70, (.bipush 24, 2)), (72, (.if_icmp .ge 101, 3))] : List (Nat × (Instr × Nat))), decode cX11_wander r.1 = .ok r.2 := by decide +kernel
theorem dX11_wander_0 : decode cX11_wander 0 = .ok (.iload_n 1, 1) := dgX11_wander_0 (0, (.iload_n 1, 1)) (List.mem_of_getElem? (i := 0) rfl)
theorem dX11_wander_1 : decode cX11_wander 1 = .ok (.ifCond .lt 16, 3) := dgX11_wander_0 (1, (.ifCond .lt 16, 3)) (List.mem_of_getElem? (i := 1) rfl)
theorem dX11_wander_4 : decode cX11_wander 4 = .ok (.iload_n 1, 1) := dgX11_wander_0 (4, (.iload_n 1, 1)) (List.mem_of_getElem? (i := 2) rfl)
theorem dX11_wander_5 : decode cX11_wander 5 = .ok (.ldc 181, 2) := dgX11_wander_0 (5, (.ldc 181, 2)) (List.mem_of_getElem? (i := 3) rfl)
theorem dX11_wander_7 : decode cX11_wander 7 = .ok (.if_icmp .gt 10, 3) := dgX11_wander_0 (7, (.if_icmp .gt 10, 3)) (List.mem_of_getElem? (i := 4) rfl)
theorem dX11_wander_10 : decode cX11_wander 10 = .ok (.iload_n 2, 1) := dgX11_wander_0 (10, (.iload_n 2, 1)) (List.mem_of_getElem? (i := 5) rfl)
theorem dX11_wander_11 : decode cX11_wander 11 = .ok (.invokestatic 97, 3) := dgX11_wander_0 (11, (.invokestatic 97, 3)) (List.mem_of_getElem? (i := 6) rfl)
theorem dX11_wander_14 : decode cX11_wander 14 = .ok (.ifCond .ne 9, 3) := dgX11_wander_0 (14, (.ifCond .ne 9, 3)) (List.mem_of_getElem? (i := 7) rfl)
theorem dX11_wander_17 : decode cX11_wander 17 = .ok (.aload_n 0, 1) := dgX11_wander_0 (17, (.aload_n 0, 1)) (List.mem_of_getElem? (i := 8) rfl)
theorem dX11_wander_18 : decode cX11_wander 18 = .ok (.iconst (-1), 1) := dgX11_wander_0 (18, (.iconst (-1), 1)) (List.mem_of_getElem? (i := 9) rfl)
theorem dX11_wander_19 : decode cX11_wander 19 = .ok (.invokevirtual 104, 3) := dgX11_wander_0 (19, (.invokevirtual 104, 3)) (List.mem_of_getElem? (i := 10) rfl)
theorem dX11_wander_22 : decode cX11_wander 22 = .ok (.ireturn, 1) := dgX11_wander_0 (22, (.ireturn, 1)) (List.mem_of_getElem? (i := 11) rfl)
theorem dX11_wander_23 : decode cX11_wander 23 = .ok (.aload_n 0, 1) := dgX11_wander_0 (23, (.aload_n 0, 1)) (List.mem_of_getElem? (i := 12) rfl)
theorem dX11_wander_24 : decode cX11_wander 24 = .ok (.getfield 12, 3) := dgX11_wander_0 (24, (.getfield 12, 3)) (List.mem_of_getElem? (i := 13) rfl)
theorem dX11_wander_27 : decode cX11_wander 27 = .ok (.getfield 111, 3) := dgX11_wander_0 (27, (.getfield 111, 3)) (List.mem_of_getElem? (i := 14) rfl)
theorem dX11_wander_30 : decode cX11_wander 30 = .ok (.iload_n 2, 1) := dgX11_wander_0 (30, (.iload_n 2, 1)) (List.mem_of_getElem? (i := 15) rfl)
theorem dX11_wander_31 : decode cX11_wander 31 = .ok (.invokestatic 115, 3) := dgX11_wander_0 (31, (.invokestatic 115, 3)) (List.mem_of_getElem? (i := 16) rfl)
theorem dX11_wander_34 : decode cX11_wander 34 = .ok (.ifCond .eq 10, 3) := dgX11_wander_0 (34, (.ifCond .eq 10, 3)) (List.mem_of_getElem? (i := 17) rfl)
theorem dX11_wander_37 : decode cX11_wander 37 = .ok (.aload_n 0, 1) := dgX11_wander_0 (37, (.aload_n 0, 1)) (List.mem_of_getElem? (i := 18) rfl)
theorem dX11_wander_38 : decode cX11_wander 38 = .ok (.bipush (-3), 2) := dgX11_wander_0 (38, (.bipush (-3), 2)) (List.mem_of_getElem? (i := 19) rfl)
theorem dX11_wander_40 : decode cX11_wander 40 = .ok (.invokevirtual 104, 3) := dgX11_wander_0 (40, (.invokevirtual 104, 3)) (List.mem_of_getElem? (i := 20) rfl)
theorem dX11_wander_43 : decode cX11_wander 43 = .ok (.ireturn, 1) := dgX11_wander_0 (43, (.ireturn, 1)) (List.mem_of_getElem? (i := 21) rfl)
theorem dX11_wander_44 : decode cX11_wander 44 = .ok (.aload_n 0, 1) := dgX11_wander_0 (44, (.aload_n 0, 1)) (List.mem_of_getElem? (i := 22) rfl)
theorem dX11_wander_45 : decode cX11_wander 45 = .ok (.getfield 38, 3) := dgX11_wander_0 (45, (.getfield 38, 3)) (List.mem_of_getElem? (i := 23) rfl)
theorem dX11_wander_48 : decode cX11_wander 48 = .ok (.invokevirtual 254, 3) := dgX11_wander_0 (48, (.invokevirtual 254, 3)) (List.mem_of_getElem? (i := 24) rfl)
theorem dX11_wander_51 : decode cX11_wander 51 = .ok (.aload_n 0, 1) := dgX11_wander_0 (51, (.aload_n 0, 1)) (List.mem_of_getElem? (i := 25) rfl)
theorem dX11_wander_52 : decode cX11_wander 52 = .ok (.iconst 1, 1) := dgX11_wander_0 (52, (.iconst 1, 1)) (List.mem_of_getElem? (i := 26) rfl)
theorem dX11_wander_53 : decode cX11_wander 53 = .ok (.putfield 87, 3) := dgX11_wander_0 (53, (.putfield 87, 3)) (List.mem_of_getElem? (i := 27) rfl)
theorem dX11_wander_56 : decode cX11_wander 56 = .ok (.iload_n 1, 1) := dgX11_wander_0 (56, (.iload_n 1, 1)) (List.mem_of_getElem? (i := 28) rfl)
theorem dX11_wander_57 : decode cX11_wander 57 = .ok (.i2l, 1) := dgX11_wander_0 (57, (.i2l, 1)) (List.mem_of_getElem? (i := 29) rfl)
theorem dX11_wander_58 : decode cX11_wander 58 = .ok (.lstore_n 3, 1) := dgX11_wander_0 (58, (.lstore_n 3, 1)) (List.mem_of_getElem? (i := 30) rfl)
theorem dX11_wander_59 : decode cX11_wander 59 = .ok (.iload_n 2, 1) := dgX11_wander_0 (59, (.iload_n 2, 1)) (List.mem_of_getElem? (i := 31) rfl)
theorem dX11_wander_60 : decode cX11_wander 60 = .ok (.istore 5, 2) := dgX11_wander_0 (60, (.istore 5, 2)) (List.mem_of_getElem? (i := 32) rfl)
theorem dX11_wander_62 : decode cX11_wander 62 = .ok (.iconst 0, 1) := dgX11_wander_0 (62, (.iconst 0, 1)) (List.mem_of_getElem? (i := 33) rfl)
theorem dX11_wander_63 : decode cX11_wander 63 = .ok (.istore 6, 2) := dgX11_wander_0 (63, (.istore 6, 2)) (List.mem_of_getElem? (i := 34) rfl)
theorem dX11_wander_65 : decode cX11_wander 65 = .ok (.iconst 0, 1) := dgX11_wander_0 (65, (.iconst 0, 1)) (List.mem_of_getElem? (i := 35) rfl)
theorem dX11_wander_66 : decode cX11_wander 66 = .ok (.istore 7, 2) := dgX11_wander_0 (66, (.istore 7, 2)) (List.mem_of_getElem? (i := 36) rfl)
theorem dX11_wander_68 : decode cX11_wander 68 = .ok (.iload 7, 2) := dgX11_wander_0 (68, (.iload 7, 2)) (List.mem_of_getElem? (i := 37) rfl)
theorem dX11_wander_70 : decode cX11_wander 70 = .ok (.bipush 24, 2) := dgX11_wander_0 (70, (.bipush 24, 2)) (List.mem_of_getElem? (i := 38) rfl)
theorem dX11_wander_72 : decode cX11_wander 72 = .ok (.if_icmp .ge 101, 3) := dgX11_wander_0 (72, (.if_icmp .ge 101, 3)) (List.mem_of_getElem? (i := 39) rfl)
