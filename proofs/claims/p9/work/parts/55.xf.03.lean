set_option maxHeartbeats 4000000 in
set_option maxRecDepth 100000 in
theorem x_readStayX (l : Launch) (G : g5_G) (a_o a_h a_b a_bn a_bb a_x a_im a_ke a_k a_wa a_th a_ha a_wk a_r a_wd a_rf a_l a_g a_s a_p a_w : Nat) (sz : Nat) (e_tl : Int32) (e_fd : Int32) (e_fpl : Int32) (e_wn : Int32) (e_lr : Int32) (e_le : Int32) (e_st : Int32) (e_fo : Int32) (e_lc : Int32) (e_b : Int32) (p_a : Int32) (e_wa : Int64) (e_gb : Int64) (f_b : Nat → Int32) (f_bb : Nat → Int64) (f_x : Nat → Int32) (f_ro : Nat → Int32) (h_e_tl : 0 ≤ e_tl.toInt ∧ e_tl.toInt ≤ 400) (h_e_wn : 0 ≤ e_wn.toInt ∧ e_wn.toInt ≤ 1) (h_e_b : 0 ≤ e_b.toInt ∧ e_b.toInt ≤ 5) (h_p_a : 0 ≤ p_a.toInt ∧ p_a.toInt ≤ 400) (e_hh : QH e_wa e_le e_st f_ro) (e_hb : QB e_b f_b f_bb f_ro) (e_tp : TPI f_x) : Met l yX11_readStay (wsG yX11_readStay cX11_readStay 6 (some .boolean)) ({ frames := 3, cells := 0, slots := 0, locals := 73 }) (va_Pc [.ref a_o, .int p_a] (g5_P G [(a_o, (oc11 a_h a_im a_ke a_k a_wa a_th a_ha a_wk a_r a_x e_tl e_fd e_fpl a_wd e_wn a_rf e_lr)), (a_h, (oc1 e_wa e_le e_st e_fo e_lc a_l a_g a_b a_s a_p a_w e_gb a_bb)), (a_b, (oc6 5 24 a_bn e_b)), (a_bn, (arI G 120 f_b)), (a_bb, (arJ G 24 f_bb)), (a_x, (arI G 400 f_x))] sz)) (va_Qi (fun (r : Int32) (u : va_W) => (∃ (o_r : Int32) (o_f : Nat → Int32) (o_bb : Nat → Int64), (0 ≤ o_r.toInt ∧ o_r.toInt ≤ 1) ∧ (o_r.toInt = cif (canQ f_x e_tl.toInt f_ro p_a.toInt.toNat) 1 0) ∧ (QB e_b o_f o_bb (rw1 f_x e_tl.toInt f_ro p_a.toInt.toNat)) ∧ (r = o_r) ∧ (u = [(a_o, (oc11 a_h a_im a_ke a_k a_wa a_th a_ha a_wk a_r a_x e_tl e_fd e_fpl a_wd e_wn a_rf e_lr)), (a_h, (oc1 e_wa e_le e_st e_fo e_lc a_l a_g a_b a_s a_p a_w e_gb a_bb)), (a_b, (oc6 5 24 a_bn e_b)), (a_bn, (arI G 120 o_f)), (a_bb, (arJ G 24 o_bb)), (a_x, (arI G 400 f_x))]))) (g5_B G (va_A [(a_o, (oc11 a_h a_im a_ke a_k a_wa a_th a_ha a_wk a_r a_x e_tl e_fd e_fpl a_wd e_wn a_rf e_lr)), (a_h, (oc1 e_wa e_le e_st e_fo e_lc a_l a_g a_b a_s a_p a_w e_gb a_bb)), (a_b, (oc6 5 24 a_bn e_b)), (a_bn, (arI G 120 f_b)), (a_bb, (arJ G 24 f_bb)), (a_x, (arI G 400 f_x))] sz)) (va_A [(a_o, (oc11 a_h a_im a_ke a_k a_wa a_th a_ha a_wk a_r a_x e_tl e_fd e_fpl a_wd e_wn a_rf e_lr)), (a_h, (oc1 e_wa e_le e_st e_fo e_lc a_l a_g a_b a_s a_p a_w e_gb a_bb)), (a_b, (oc6 5 24 a_bn e_b)), (a_bn, (arI G 120 f_b)), (a_bb, (arJ G 24 f_bb)), (a_x, (arI G 400 f_x))] sz)) 0 0 (va_A [(a_o, (oc11 a_h a_im a_ke a_k a_wa a_th a_ha a_wk a_r a_x e_tl e_fd e_fpl a_wd e_wn a_rf e_lr)), (a_h, (oc1 e_wa e_le e_st e_fo e_lc a_l a_g a_b a_s a_p a_w e_gb a_bb)), (a_b, (oc6 5 24 a_bn e_b)), (a_bn, (arI G 120 f_b)), (a_bb, (arJ G 24 f_bb)), (a_x, (arI G 400 f_x))] sz) := by
  refine Met.ofW (cc := cX11_readStay) (maxL := 6) (ret := (some .boolean)) (by decide) rfl ?_
  intro p e s m args below meth c s₁ B hml hv
  obtain ⟨rfl, hsz, hP, hK, hD0, hN, hT⟩ := hv
  have hx := B.exec
  have hb := B.bytes
  have hr := B.returns
  have hts : ∀ w ∈ tblG, w.before _ s = true := fun w h => atoms_spec (ws := (wsG yX11_readStay cX11_readStay 6 (some .boolean))) B.pre w (List.mem_cons_of_mem _ h)
  have hown : s.vm.findClass RX11 = some m.cls := findClass_of_methodNamed B.named
  have hlocks := B.notSynchronized
  subst hsz
  have hD := hD0.self (sz := s.heap.size)
  generalize hAe : va_A [(a_o, (oc11 a_h a_im a_ke a_k a_wa a_th a_ha a_wk a_r a_x e_tl e_fd e_fpl a_wd e_wn a_rf e_lr)), (a_h, (oc1 e_wa e_le e_st e_fo e_lc a_l a_g a_b a_s a_p a_w e_gb a_bb)), (a_b, (oc6 5 24 a_bn e_b)), (a_bn, (arI G 120 f_b)), (a_bb, (arJ G 24 f_bb)), (a_x, (arI G 400 f_x))] s.heap.size = A at hD hT ⊢
  have hA : ∀ q : Nat, s.heap.size ≤ q → A q := fun q h => by rw [← hAe]; exact Or.inr h
  have hS : va_S A s.heap s.heap [] := va_S.rf
  have hP : va_P G.1 vwCl [(a_o, (oc11 a_h a_im a_ke a_k a_wa a_th a_ha a_wk a_r a_x e_tl e_fd e_fpl a_wd e_wn a_rf e_lr)), (a_h, (oc1 e_wa e_le e_st e_fo e_lc a_l a_g a_b a_s a_p a_w e_gb a_bb)), (a_b, (oc6 5 24 a_bn e_b)), (a_bn, (arI G 120 f_b)), (a_bb, (arJ G 24 f_bb)), (a_x, (arI G 400 f_x))] s.heap := hP
  have hl := lv_entry ([.ref a_o, .int p_a]) (n := 6) (Nat.le_of_ble_eq_true rfl)
  rw [lg_entry_eq]
  generalize (lg_sl ([.ref a_o, .int p_a]) ++ List.replicate (6 - (lg_sl ([.ref a_o, .int p_a])).length) Slot.unset).toArray = ls at hl ⊢
  have hl : lv_has ls 6 [(0, .ref a_o), (1, .int p_a)] := hl
  have hbb_ : ∀ c : Nat, c < 24 → f_bb c = bbd f_b e_b.toInt c e_b.toInt.toNat := e_hb.2.2.2.1
  refine lv_iload_n hx hb dX11_readStay_0 rfl (lv_at hl 1 rfl) ?_
  refine lv_iconst (v := 4) hx hb dX11_readStay_1 (by decide) ?_
  refine lv_iadd hx hb dX11_readStay_2 ?_
  have t_1 : (p_a + 4).toInt = p_a.toInt + 4 := g5_iadd (a := p_a.toInt) (b := 4) (by rfl) (by decide) (by omega) (by omega)
  refine lv_aload_n hx hb dX11_readStay_3 rfl (lv_at hl 0 rfl) ?_
  refine va_get (D := G.1) (ci := 11) (v := .int e_tl) (C := RX11) (T := TX11) (N := 17) hx hb hts inG_X11 hown hK hP 0 rfl rfl 10 (by decide) (hts _ fl_X11_74) (fun _ h9 => h9) rfl dX11_readStay_4 ?_
  refine lv_icmp_le (tgt := 12) hx hb dX11_readStay_7 (by decide) (fun c_2 => ?_) (fun c_2 => ?_)
  ·
    have i_2 : (p_a.toInt + 4) ≤ e_tl.toInt := by have z := g5_le (a := (p_a + 4).toInt) (b := e_tl.toInt) (by rfl) (by rfl) c_2; omega
    refine lv_aload_n hx hb dX11_readStay_12 rfl (lv_at hl 0 rfl) ?_
    refine va_get (D := G.1) (ci := 11) (v := .ref a_x) (C := RX11) (T := TX11) (N := 17) hx hb hts inG_X11 hown hK hP 0 rfl rfl 9 (by decide) (hts _ fl_X11_70) (fun _ h9 => h9) rfl dX11_readStay_13 ?_
    refine lv_iload_n hx hb dX11_readStay_16 rfl (lv_at hl 1 rfl) ?_
    refine va_iald hx hb hK hP 5 0 rfl rfl (i := p_a) (vp_in_iff.mpr ⟨by omega, by omega⟩) dX11_readStay_17 ?_
    obtain ⟨y3, hy_3⟩ : ∃ y : Int32, f_x p_a.toInt.toNat = y := ⟨_, rfl⟩
    have hr_3 : 0 ≤ y3.toInt ∧ y3.toInt ≤ 255 := by rw [← hy_3]; exact e_tp _
    have hq_4 : (f_x p_a.toNatClampNeg) = y3 := hy_3
    refine g5_ti (v := y3) hq_4 ?_
    refine lv_istore_n (lv' := [(2, .int y3), (0, .ref a_o), (1, .int p_a)]) hx hb dX11_readStay_18 rfl hl (by decide) rfl (fun ls hl => ?_)
    refine lv_aload_n hx hb dX11_readStay_19 rfl (lv_at hl 1 rfl) ?_
    refine va_get (D := G.1) (ci := 11) (v := .ref a_x) (C := RX11) (T := TX11) (N := 17) hx hb hts inG_X11 hown hK hP 0 rfl rfl 9 (by decide) (hts _ fl_X11_70) (fun _ h9 => h9) rfl dX11_readStay_20 ?_
    refine lv_iload_n hx hb dX11_readStay_23 rfl (lv_at hl 2 rfl) ?_
    refine lv_iconst (v := 1) hx hb dX11_readStay_24 (by decide) ?_
    refine lv_iadd hx hb dX11_readStay_25 ?_
    have t_5 : (p_a + 1).toInt = p_a.toInt + 1 := g5_iadd (a := p_a.toInt) (b := 1) (by rfl) (by decide) (by omega) (by omega)
    refine va_iald hx hb hK hP 5 0 rfl rfl (i := (p_a + 1)) (vp_in_iff.mpr ⟨by omega, by omega⟩) dX11_readStay_26 ?_
    obtain ⟨y6, hy_6⟩ : ∃ y : Int32, f_x (p_a.toInt.toNat + 1) = y := ⟨_, rfl⟩
    have hr_6 : 0 ≤ y6.toInt ∧ y6.toInt ≤ 255 := by rw [← hy_6]; exact e_tp _
    have hq_7 : (f_x (p_a + 1).toNatClampNeg) = y6 := by rw [← hy_6]; congr 1; have zz := g5_clamp (p_a + 1); omega
    refine g5_ti (v := y6) hq_7 ?_
    refine lv_istore_n (lv' := [(3, .int y6), (2, .int y3), (0, .ref a_o), (1, .int p_a)]) hx hb dX11_readStay_27 rfl hl (by decide) rfl (fun ls hl => ?_)
    refine lv_aload_n hx hb dX11_readStay_28 rfl (lv_at hl 2 rfl) ?_
    refine va_get (D := G.1) (ci := 11) (v := .ref a_x) (C := RX11) (T := TX11) (N := 17) hx hb hts inG_X11 hown hK hP 0 rfl rfl 9 (by decide) (hts _ fl_X11_70) (fun _ h9 => h9) rfl dX11_readStay_29 ?_
    refine lv_iload_n hx hb dX11_readStay_32 rfl (lv_at hl 3 rfl) ?_
    refine lv_iconst (v := 2) hx hb dX11_readStay_33 (by decide) ?_
    refine lv_iadd hx hb dX11_readStay_34 ?_
    have t_8 : (p_a + 2).toInt = p_a.toInt + 2 := g5_iadd (a := p_a.toInt) (b := 2) (by rfl) (by decide) (by omega) (by omega)
    refine va_iald hx hb hK hP 5 0 rfl rfl (i := (p_a + 2)) (vp_in_iff.mpr ⟨by omega, by omega⟩) dX11_readStay_35 ?_
    obtain ⟨y9, hy_9⟩ : ∃ y : Int32, f_x (p_a.toInt.toNat + 2) = y := ⟨_, rfl⟩
    have hr_9 : 0 ≤ y9.toInt ∧ y9.toInt ≤ 255 := by rw [← hy_9]; exact e_tp _
    have hq_10 : (f_x (p_a + 2).toNatClampNeg) = y9 := by rw [← hy_9]; congr 1; have zz := g5_clamp (p_a + 2); omega
    refine g5_ti (v := y9) hq_10 ?_
    refine lv_istore (lv' := [(4, .int y9), (3, .int y6), (2, .int y3), (0, .ref a_o), (1, .int p_a)]) hx hb dX11_readStay_36 hl (by decide) rfl (fun ls hl => ?_)
    refine lv_aload_n hx hb dX11_readStay_38 rfl (lv_at hl 3 rfl) ?_
    refine va_get (D := G.1) (ci := 11) (v := .ref a_x) (C := RX11) (T := TX11) (N := 17) hx hb hts inG_X11 hown hK hP 0 rfl rfl 9 (by decide) (hts _ fl_X11_70) (fun _ h9 => h9) rfl dX11_readStay_39 ?_
    refine lv_iload_n hx hb dX11_readStay_42 rfl (lv_at hl 4 rfl) ?_
    refine lv_iconst (v := 3) hx hb dX11_readStay_43 (by decide) ?_
    refine lv_iadd hx hb dX11_readStay_44 ?_
    have t_11 : (p_a + 3).toInt = p_a.toInt + 3 := g5_iadd (a := p_a.toInt) (b := 3) (by rfl) (by decide) (by omega) (by omega)
    refine va_iald hx hb hK hP 5 0 rfl rfl (i := (p_a + 3)) (vp_in_iff.mpr ⟨by omega, by omega⟩) dX11_readStay_45 ?_
    obtain ⟨y12, hy_12⟩ : ∃ y : Int32, f_x (p_a.toInt.toNat + 3) = y := ⟨_, rfl⟩
    have hr_12 : 0 ≤ y12.toInt ∧ y12.toInt ≤ 255 := by rw [← hy_12]; exact e_tp _
    have hq_13 : (f_x (p_a + 3).toNatClampNeg) = y12 := by rw [← hy_12]; congr 1; have zz := g5_clamp (p_a + 3); omega
    refine g5_ti (v := y12) hq_13 ?_
    refine lv_sipush (v := 255) hx hb dX11_readStay_46 (by decide) ?_
    refine lv_icmp_ne (tgt := 56) hx hb dX11_readStay_49 (by decide) (fun c_14 => ?_) (fun c_14 => ?_)
    ·
      have n_14 : gNe (y12.toInt) (255) := by have z := g5_ne (a := y12.toInt) (b := 255) (by rfl) (by decide) c_14; unfold gNe; omega
      have i_14 : y12.toInt ≤ 254 := by have z := g5_ne (a := y12.toInt) (b := 255) (by rfl) (by decide) c_14; omega
      refine lv_aload_n hx hb dX11_readStay_56 rfl (lv_at hl 3 rfl) ?_
      refine va_get (D := G.1) (ci := 11) (v := .ref a_x) (C := RX11) (T := TX11) (N := 17) hx hb hts inG_X11 hown hK hP 0 rfl rfl 9 (by decide) (hts _ fl_X11_70) (fun _ h9 => h9) rfl dX11_readStay_57 ?_
      refine lv_iload_n hx hb dX11_readStay_60 rfl (lv_at hl 4 rfl) ?_
      refine lv_iconst (v := 3) hx hb dX11_readStay_61 (by decide) ?_
      refine lv_iadd hx hb dX11_readStay_62 ?_
      have t_15 : (p_a + 3).toInt = p_a.toInt + 3 := g5_iadd (a := p_a.toInt) (b := 3) (by rfl) (by decide) (by omega) (by omega)
      refine va_iald hx hb hK hP 5 0 rfl rfl (i := (p_a + 3)) (vp_in_iff.mpr ⟨by omega, by omega⟩) dX11_readStay_63 ?_
      have hq_16 : (f_x (p_a + 3).toNatClampNeg) = y12 := by rw [← hy_12]; congr 1; have zz := g5_clamp (p_a + 3); omega
      refine g5_ti (v := y12) hq_16 ?_
      refine lv_istore (lv' := [(5, .int y12), (4, .int y9), (3, .int y6), (2, .int y3), (0, .ref a_o), (1, .int p_a)]) hx hb dX11_readStay_64 hl (by decide) rfl (fun ls hl => ?_)
      refine lv_aload_n hx hb dX11_readStay_66 rfl (lv_at hl 4 rfl) ?_
      refine va_get (D := G.1) (ci := 11) (v := .ref a_h) (C := RX11) (T := TX11) (N := 17) hx hb hts inG_X11 hown hK hP 0 rfl rfl 0 (by decide) (hts _ fl_X11_12) (fun _ h9 => h9) rfl dX11_readStay_67 ?_
      refine va_get (D := G.1) (ci := 1) (v := .ref a_b) (C := RX1) (T := TX1) (N := 13) hx hb hts inG_X1 hown hK hP 1 rfl rfl 7 (by decide) (hts _ fl_X11_167) (fun _ h9 => h9) rfl dX11_readStay_70 ?_
      refine lv_iload_n hx hb dX11_readStay_73 rfl (lv_at hl 3 rfl) ?_
      obtain ⟨hPc, hDc, hFc⟩ := g5_sub3 (wc := [(a_b, (oc6 5 24 a_bn e_b))]) hP hD hS hA [2] (by decide) rfl
      refine va_calli (va_runV (As := [.int y3]) (rest := []) ⟨hx, hb, hml, hown, hts⟩ (t_has_B l G a_b a_bn s.heap.size e_b y3 h_e_b) (cwV 1 hts gV_X11_160 rfl rfl rfl hv_X6_has ⟨Nat.le_of_ble_eq_true rfl, Nat.le_of_ble_eq_true rfl⟩) (g5_preV hPc hK hDc hN hT hS hFc (ci := 6) (q0 := 0) rfl rfl) rfl rfl hl.1 rfl (lv_room (Nat.le_of_ble_eq_true rfl)) dX11_readStay_74 ⟨Nat.le_of_ble_eq_true rfl, Nat.le_of_ble_eq_true rfl⟩) hS (fun q _ h => hFc q h) hFc (fun r u t H1 locs ht hvm hw hB hz1 hk1 hS => ?_)
      obtain ⟨hP1, hD1⟩ := hB
      rw [ht] at hP1
      rcases hw with ⟨i_17, rfl, rfl⟩ | ⟨i_18, rfl, rfl⟩
      ·
        have i_17 : 0 ≤ y3.toInt ∧ y3.toInt < e_b.toInt := i_17
        obtain ⟨hP, hD⟩ := va_join (wr := [(a_o, (oc11 a_h a_im a_ke a_k a_wa a_th a_ha a_wk a_r a_x e_tl e_fd e_fpl a_wd e_wn a_rf e_lr)), (a_h, (oc1 e_wa e_le e_st e_fo e_lc a_l a_g a_b a_s a_p a_w e_gb a_bb)), (a_bn, (arI G 120 f_b)), (a_bb, (arJ G 24 f_bb)), (a_x, (arI G 400 f_x))]) hP hD [2] [0, 1, 3, 4, 5] rfl rfl (by decide) (by decide) hk1 hFc hP1 hD1
        generalize H1 = H at hP hS ⊢
        refine g5_rs [(a_o, (oc11 a_h a_im a_ke a_k a_wa a_th a_ha a_wk a_r a_x e_tl e_fd e_fpl a_wd e_wn a_rf e_lr)), (a_h, (oc1 e_wa e_le e_st e_fo e_lc a_l a_g a_b a_s a_p a_w e_gb a_bb)), (a_bn, (arI G 120 f_b)), (a_bb, (arJ G 24 f_bb)), (a_x, (arI G 400 f_x)), (a_b, (oc6 5 24 a_bn e_b))] hP hD (fun hP hD => ?_)
        refine lv_if_eq (tgt := 103) hx hb dX11_readStay_77 (by decide) (fun c_19 => ?_) (fun c_19 => ?_)
        ·
          exact absurd c_19 (by decide)
        ·
          refine lv_iload_n hx hb dX11_readStay_80 rfl (lv_at hl 2 rfl) ?_
          refine lv_iload hx hb dX11_readStay_81 (lv_at hl 1 rfl) ?_
          refine lv_iload hx hb dX11_readStay_83 (lv_at hl 0 rfl) ?_
          obtain ⟨hPc, hDc, hFc⟩ := g5_sub3 (wc := []) hP hD hS hA [] (by decide) rfl
          refine va_calli (va_runS (As := [.int y6, .int y9, .int y12]) (rest := []) ⟨hx, hb, hml, hown, hts⟩ (x_isStayX l G H.size y6 y9 y12) (va_cwS 3 hts gS_X11_170 rfl rfl rfl hs_X11_isStay ⟨Nat.le_of_ble_eq_true rfl, Nat.le_of_ble_eq_true rfl⟩) (g5_preS hPc hK hDc hN hT hS hFc) rfl rfl hl.1 rfl (lv_room (Nat.le_of_ble_eq_true rfl)) dX11_readStay_85 ⟨Nat.le_of_ble_eq_true rfl, Nat.le_of_ble_eq_true rfl⟩) hS (fun q _ h => hFc q h) hFc (fun r u t H1 locs ht hvm hw hB hz1 hk1 hS => ?_)
          obtain ⟨hP1, hD1⟩ := hB
          rw [ht] at hP1
          rcases hw with ⟨i_20, i_21, i_22, i_23, i_24, rfl, rfl⟩ | ⟨i_25, rfl, rfl⟩
          ·
            have i_20 : 0 ≤ y6.toInt ∧ y6.toInt ≤ 23 := i_20
            have i_21 : 0 ≤ y9.toInt ∧ y9.toInt ≤ 23 := i_21
            have i_22 : -1 ≤ y12.toInt ∧ y12.toInt ≤ 63 := i_22
            have i_23 : y6.toInt ≤ y9.toInt := i_23
            have i_24 : okS y6 y9 y12 := i_24
            have hP := g5_same hP hk1
            generalize H1 = H at hP hS ⊢
            refine lv_if_eq (tgt := 103) hx hb dX11_readStay_88 (by decide) (fun c_26 => ?_) (fun c_26 => ?_)
            ·
              exact absurd c_26 (by decide)
            ·
              refine lv_aload_n hx hb dX11_readStay_91 rfl (lv_at hl 4 rfl) ?_
              refine va_get (D := G.1) (ci := 11) (v := .ref a_h) (C := RX11) (T := TX11) (N := 17) hx hb hts inG_X11 hown hK hP 0 rfl rfl 0 (by decide) (hts _ fl_X11_12) (fun _ h9 => h9) rfl dX11_readStay_92 ?_
              refine lv_iload hx hb dX11_readStay_95 (lv_at hl 0 rfl) ?_
              obtain ⟨hPc, hDc, hFc⟩ := g5_sub3 (wc := [(a_h, (oc1 e_wa e_le e_st e_fo e_lc a_l a_g a_b a_s a_p a_w e_gb a_bb))]) hP hD hS hA [1] (by decide) rfl
              refine va_calli (va_runV (As := [.int y12]) (rest := []) ⟨hx, hb, hml, hown, hts⟩ (h_isWalled l G a_h a_l a_g a_b a_s a_p a_w a_bb H.size e_le e_st e_fo e_lc y12 e_wa e_gb ⟨by omega, by omega⟩) (cwV 1 hts gV_X11_174 rfl rfl rfl hv_X1_isWalled ⟨Nat.le_of_ble_eq_true rfl, Nat.le_of_ble_eq_true rfl⟩) (g5_preV hPc hK hDc hN hT hS hFc (ci := 1) (q0 := 0) rfl rfl) rfl rfl hl.1 rfl (lv_room (Nat.le_of_ble_eq_true rfl)) dX11_readStay_97 ⟨Nat.le_of_ble_eq_true rfl, Nat.le_of_ble_eq_true rfl⟩) hS (fun q _ h => hFc q h) hFc (fun r u t H1 locs ht hvm hw hB hz1 hk1 hS => ?_)
              obtain ⟨hP1, hD1⟩ := hB
              rw [ht] at hP1
              rcases hw with ⟨i_27, rfl, rfl⟩ | ⟨i_28, rfl, rfl⟩
              ·
                have i_27 : 0 ≤ y12.toInt ∧ onB e_wa y12.toInt = true := i_27
                obtain ⟨hP, hD⟩ := va_join (wr := [(a_o, (oc11 a_h a_im a_ke a_k a_wa a_th a_ha a_wk a_r a_x e_tl e_fd e_fpl a_wd e_wn a_rf e_lr)), (a_bn, (arI G 120 f_b)), (a_bb, (arJ G 24 f_bb)), (a_x, (arI G 400 f_x)), (a_b, (oc6 5 24 a_bn e_b))]) hP hD [1] [0, 2, 3, 4, 5] rfl rfl (by decide) (by decide) hk1 hFc hP1 hD1
                generalize H1 = H at hP hS ⊢
                refine g5_rs [(a_o, (oc11 a_h a_im a_ke a_k a_wa a_th a_ha a_wk a_r a_x e_tl e_fd e_fpl a_wd e_wn a_rf e_lr)), (a_bn, (arI G 120 f_b)), (a_bb, (arJ G 24 f_bb)), (a_x, (arI G 400 f_x)), (a_b, (oc6 5 24 a_bn e_b)), (a_h, (oc1 e_wa e_le e_st e_fo e_lc a_l a_g a_b a_s a_p a_w e_gb a_bb))] hP hD (fun hP hD => ?_)
                refine lv_if_eq (tgt := 105) hx hb dX11_readStay_100 (by decide) (fun c_29 => ?_) (fun c_29 => ?_)
                ·
                  exact absurd c_29 (by decide)
                ·
                  refine lv_iconst (v := 0) hx hb dX11_readStay_103 (by decide) ?_
                  exact W.zret (v := 0) hx hb hr rfl (fun t ht hW => ⟨⟨0, [(a_o, (oc11 a_h a_im a_ke a_k a_wa a_th a_ha a_wk a_r a_x e_tl e_fd e_fpl a_wd e_wn a_rf e_lr)), (a_h, (oc1 e_wa e_le e_st e_fo e_lc a_l a_g a_b a_s a_p a_w e_gb a_bb)), (a_b, (oc6 5 24 a_bn e_b)), (a_bn, (arI G 120 f_b)), (a_bb, (arJ G 24 f_bb)), (a_x, (arI G 400 f_x))], rfl, ⟨0, f_b, f_bb, ⟨by have zc_o_r : (0 : Int32).toInt = 0 := (by decide); omega, by have zc_o_r : (0 : Int32).toInt = 0 := (by decide); omega⟩, by rw [cif_f (fun q => by have q := (cq_mk (td := e_tl.toInt) (f := f_ro) (t := f_x) (k := p_a.toInt.toNat) hy_3 hy_6 hy_9 hy_12 (c := y12) (cq_n (by omega))).mp q; exact q.2.2.2 (wl_y e_hh (by omega) i_27))]; decide, by rw [rw_stayN (fun q => by have q := (cq_mk (td := e_tl.toInt) (f := f_ro) (t := f_x) (k := p_a.toInt.toNat) hy_3 hy_6 hy_9 hy_12 (c := y12) (cq_n (by omega))).mp q; exact q.2.2.2 (wl_y e_hh (by omega) i_27))]; exact e_hb, rfl, rfl⟩, by rw [ht]; exact hP.sub [0, 5, 4, 1, 2, 3] rfl, hD.sub [0, 5, 4, 1, 2, 3] (by decide) rfl⟩, hS.F ht⟩) hS.2.2 dX11_readStay_104
              ·
                have i_28 : y12.toInt = -1 ∨ onB e_wa y12.toInt = false := i_28
                obtain ⟨hP, hD⟩ := va_join (wr := [(a_o, (oc11 a_h a_im a_ke a_k a_wa a_th a_ha a_wk a_r a_x e_tl e_fd e_fpl a_wd e_wn a_rf e_lr)), (a_bn, (arI G 120 f_b)), (a_bb, (arJ G 24 f_bb)), (a_x, (arI G 400 f_x)), (a_b, (oc6 5 24 a_bn e_b))]) hP hD [1] [0, 2, 3, 4, 5] rfl rfl (by decide) (by decide) hk1 hFc hP1 hD1
                generalize H1 = H at hP hS ⊢
                refine g5_rs [(a_o, (oc11 a_h a_im a_ke a_k a_wa a_th a_ha a_wk a_r a_x e_tl e_fd e_fpl a_wd e_wn a_rf e_lr)), (a_bn, (arI G 120 f_b)), (a_bb, (arJ G 24 f_bb)), (a_x, (arI G 400 f_x)), (a_b, (oc6 5 24 a_bn e_b)), (a_h, (oc1 e_wa e_le e_st e_fo e_lc a_l a_g a_b a_s a_p a_w e_gb a_bb))] hP hD (fun hP hD => ?_)
                refine lv_if_eq (tgt := 105) hx hb dX11_readStay_100 (by decide) (fun c_30 => ?_) (fun c_30 => ?_)
                ·
                  refine lv_aload_n hx hb dX11_readStay_105 rfl (lv_at hl 4 rfl) ?_
                  refine va_get (D := G.1) (ci := 11) (v := .ref a_h) (C := RX11) (T := TX11) (N := 17) hx hb hts inG_X11 hown hK hP 0 rfl rfl 0 (by decide) (hts _ fl_X11_12) (fun _ h9 => h9) rfl dX11_readStay_106 ?_
                  refine lv_iload_n hx hb dX11_readStay_109 rfl (lv_at hl 3 rfl) ?_
                  refine lv_iload_n hx hb dX11_readStay_110 rfl (lv_at hl 2 rfl) ?_
                  refine lv_iload hx hb dX11_readStay_111 (lv_at hl 1 rfl) ?_
                  refine lv_iload hx hb dX11_readStay_113 (lv_at hl 0 rfl) ?_
                  obtain ⟨hPc, hDc, hFc⟩ := g5_sub3 (wc := [(a_h, (oc1 e_wa e_le e_st e_fo e_lc a_l a_g a_b a_s a_p a_w e_gb a_bb)), (a_b, (oc6 5 24 a_bn e_b)), (a_bn, (arI G 120 f_b)), (a_bb, (arJ G 24 f_bb))]) hP hD hS hA [5, 4, 1, 2] (by decide) rfl
                  refine va_callv (va_runV (As := [.int y3, .int y6, .int y9, .int y12]) (rest := []) ⟨hx, hb, hml, hown, hts⟩ (h_put l G a_h a_b a_bn a_bb a_l a_g a_s a_p a_w H.size e_le e_st e_fo e_lc e_b y3 y6 y9 y12 e_wa e_gb f_b f_bb h_e_b i_20 i_21 (i_23) (hbb_)) (cwV 4 hts gV_X11_177 rfl rfl rfl hv_X1_put ⟨Nat.le_of_ble_eq_true rfl, Nat.le_of_ble_eq_true rfl⟩) (g5_preV hPc hK hDc hN hT hS hFc (ci := 1) (q0 := 0) rfl rfl) rfl rfl hl.1 rfl (lv_room (Nat.le_of_ble_eq_true rfl)) dX11_readStay_115 ⟨Nat.le_of_ble_eq_true rfl, Nat.le_of_ble_eq_true rfl⟩) hS (fun q _ h => hFc q h) hFc (fun u t H1 locs ht hvm hw hB hz1 hk1 hS => ?_)
                  obtain ⟨hP1, hD1⟩ := hB
                  rw [ht] at hP1
                  obtain ⟨z33, z34, i_31, i_32, rfl⟩ := hw
                  have i_31 : z33 = bput f_b e_b.toInt y3.toInt y6.toInt (y9.toInt + 1) y12 := i_31
                  have i_32 : ∀ c : Nat, c < 24 → z34 c = bbd z33 e_b.toInt c e_b.toInt.toNat := i_32
                  obtain ⟨hP, hD⟩ := va_join (wr := [(a_o, (oc11 a_h a_im a_ke a_k a_wa a_th a_ha a_wk a_r a_x e_tl e_fd e_fpl a_wd e_wn a_rf e_lr)), (a_x, (arI G 400 f_x))]) hP hD [5, 4, 1, 2] [0, 3] rfl rfl (by decide) (by decide) hk1 hFc hP1 hD1
                  generalize H1 = H at hP hS ⊢
                  refine g5_rs [(a_o, (oc11 a_h a_im a_ke a_k a_wa a_th a_ha a_wk a_r a_x e_tl e_fd e_fpl a_wd e_wn a_rf e_lr)), (a_x, (arI G 400 f_x)), (a_h, (oc1 e_wa e_le e_st e_fo e_lc a_l a_g a_b a_s a_p a_w e_gb a_bb)), (a_b, (oc6 5 24 a_bn e_b)), (a_bn, (arI G 120 z33)), (a_bb, (arJ G 24 z34))] hP hD (fun hP hD => ?_)
                  refine lv_iconst (v := 1) hx hb dX11_readStay_118 (by decide) ?_
                  exact W.zret (v := 1) hx hb hr rfl (fun t ht hW => ⟨⟨1, [(a_o, (oc11 a_h a_im a_ke a_k a_wa a_th a_ha a_wk a_r a_x e_tl e_fd e_fpl a_wd e_wn a_rf e_lr)), (a_h, (oc1 e_wa e_le e_st e_fo e_lc a_l a_g a_b a_s a_p a_w e_gb a_bb)), (a_b, (oc6 5 24 a_bn e_b)), (a_bn, (arI G 120 z33)), (a_bb, (arJ G 24 z34)), (a_x, (arI G 400 f_x))], rfl, ⟨1, z33, z34, ⟨by have zc_o_r : (1 : Int32).toInt = 1 := (by decide); omega, by have zc_o_r : (1 : Int32).toInt = 1 := (by decide); omega⟩, by rw [cif_t ((cq_mk (td := e_tl.toInt) (f := f_ro) (t := f_x) (k := p_a.toInt.toNat) hy_3 hy_6 hy_9 hy_12 (c := y12) (cq_n (by omega))).mpr ⟨by omega, isb_y e_hb ⟨by omega, by omega⟩, i_24, wl_n e_hh (by omega) i_28⟩)]; decide, by rw [rw_stayY ((cq_mk (td := e_tl.toInt) (f := f_ro) (t := f_x) (k := p_a.toInt.toNat) hy_3 hy_6 hy_9 hy_12 (c := y12) (cq_n (by omega))).mpr ⟨by omega, isb_y e_hb ⟨by omega, by omega⟩, i_24, wl_n e_hh (by omega) i_28⟩), hy_3, hy_6, hy_9, hy_12, cq_n (by omega)]; exact hb_put e_hb ⟨by omega, by omega⟩ (by omega) (by omega) ⟨by omega, by omega⟩ i_31 i_32, rfl, rfl⟩, by rw [ht]; exact hP.sub [0, 2, 3, 4, 5, 1] rfl, hD.sub [0, 2, 3, 4, 5, 1] (by decide) rfl⟩, hS.F ht⟩) hS.2.2 dX11_readStay_119
                ·
                  exact absurd c_30 (by decide)
          ·
            have i_25 : ¬ okS y6 y9 y12 := i_25
            have hP := g5_same hP hk1
            generalize H1 = H at hP hS ⊢
            refine lv_if_eq (tgt := 103) hx hb dX11_readStay_88 (by decide) (fun c_35 => ?_) (fun c_35 => ?_)
            ·
              refine lv_iconst (v := 0) hx hb dX11_readStay_103 (by decide) ?_
              exact W.zret (v := 0) hx hb hr rfl (fun t ht hW => ⟨⟨0, [(a_o, (oc11 a_h a_im a_ke a_k a_wa a_th a_ha a_wk a_r a_x e_tl e_fd e_fpl a_wd e_wn a_rf e_lr)), (a_h, (oc1 e_wa e_le e_st e_fo e_lc a_l a_g a_b a_s a_p a_w e_gb a_bb)), (a_b, (oc6 5 24 a_bn e_b)), (a_bn, (arI G 120 f_b)), (a_bb, (arJ G 24 f_bb)), (a_x, (arI G 400 f_x))], rfl, ⟨0, f_b, f_bb, ⟨by have zc_o_r : (0 : Int32).toInt = 0 := (by decide); omega, by have zc_o_r : (0 : Int32).toInt = 0 := (by decide); omega⟩, by rw [cif_f (fun q => by have q := (cq_mk (td := e_tl.toInt) (f := f_ro) (t := f_x) (k := p_a.toInt.toNat) hy_3 hy_6 hy_9 hy_12 (c := y12) (cq_n (by omega))).mp q; exact i_25 q.2.2.1)]; decide, by rw [rw_stayN (fun q => by have q := (cq_mk (td := e_tl.toInt) (f := f_ro) (t := f_x) (k := p_a.toInt.toNat) hy_3 hy_6 hy_9 hy_12 (c := y12) (cq_n (by omega))).mp q; exact i_25 q.2.2.1)]; exact e_hb, rfl, rfl⟩, by rw [ht]; exact hP.sub [0, 1, 5, 2, 3, 4] rfl, hD.sub [0, 1, 5, 2, 3, 4] (by decide) rfl⟩, hS.F ht⟩) hS.2.2 dX11_readStay_104
            ·
              exact absurd c_35 (by decide)
      ·
        have i_18 : y3.toInt < 0 ∨ e_b.toInt ≤ y3.toInt := i_18
        obtain ⟨hP, hD⟩ := va_join (wr := [(a_o, (oc11 a_h a_im a_ke a_k a_wa a_th a_ha a_wk a_r a_x e_tl e_fd e_fpl a_wd e_wn a_rf e_lr)), (a_h, (oc1 e_wa e_le e_st e_fo e_lc a_l a_g a_b a_s a_p a_w e_gb a_bb)), (a_bn, (arI G 120 f_b)), (a_bb, (arJ G 24 f_bb)), (a_x, (arI G 400 f_x))]) hP hD [2] [0, 1, 3, 4, 5] rfl rfl (by decide) (by decide) hk1 hFc hP1 hD1
        generalize H1 = H at hP hS ⊢
        refine g5_rs [(a_o, (oc11 a_h a_im a_ke a_k a_wa a_th a_ha a_wk a_r a_x e_tl e_fd e_fpl a_wd e_wn a_rf e_lr)), (a_h, (oc1 e_wa e_le e_st e_fo e_lc a_l a_g a_b a_s a_p a_w e_gb a_bb)), (a_bn, (arI G 120 f_b)), (a_bb, (arJ G 24 f_bb)), (a_x, (arI G 400 f_x)), (a_b, (oc6 5 24 a_bn e_b))] hP hD (fun hP hD => ?_)
        refine lv_if_eq (tgt := 103) hx hb dX11_readStay_77 (by decide) (fun c_36 => ?_) (fun c_36 => ?_)
        ·
          refine lv_iconst (v := 0) hx hb dX11_readStay_103 (by decide) ?_
          exact W.zret (v := 0) hx hb hr rfl (fun t ht hW => ⟨⟨0, [(a_o, (oc11 a_h a_im a_ke a_k a_wa a_th a_ha a_wk a_r a_x e_tl e_fd e_fpl a_wd e_wn a_rf e_lr)), (a_h, (oc1 e_wa e_le e_st e_fo e_lc a_l a_g a_b a_s a_p a_w e_gb a_bb)), (a_b, (oc6 5 24 a_bn e_b)), (a_bn, (arI G 120 f_b)), (a_bb, (arJ G 24 f_bb)), (a_x, (arI G 400 f_x))], rfl, ⟨0, f_b, f_bb, ⟨by have zc_o_r : (0 : Int32).toInt = 0 := (by decide); omega, by have zc_o_r : (0 : Int32).toInt = 0 := (by decide); omega⟩, by rw [cif_f (fun q => by have q := (cq_mk (td := e_tl.toInt) (f := f_ro) (t := f_x) (k := p_a.toInt.toNat) hy_3 hy_6 hy_9 hy_12 (c := y12) (cq_n (by omega))).mp q; exact isb_n e_hb (by omega) q.2.1)]; decide, by rw [rw_stayN (fun q => by have q := (cq_mk (td := e_tl.toInt) (f := f_ro) (t := f_x) (k := p_a.toInt.toNat) hy_3 hy_6 hy_9 hy_12 (c := y12) (cq_n (by omega))).mp q; exact isb_n e_hb (by omega) q.2.1)]; exact e_hb, rfl, rfl⟩, by rw [ht]; exact hP.sub [0, 1, 5, 2, 3, 4] rfl, hD.sub [0, 1, 5, 2, 3, 4] (by decide) rfl⟩, hS.F ht⟩) hS.2.2 dX11_readStay_104
        ·
          exact absurd c_36 (by decide)
    ·
      have i_14 : y12.toInt = 255 := by have z := g5_neN (a := y12.toInt) (b := 255) (by rfl) (by decide) c_14; omega
      refine lv_iconst (v := (-1)) hx hb dX11_readStay_52 (by decide) ?_
      refine lv_goto (tgt := 64) hx hb dX11_readStay_53 (by decide) ?_
      refine lv_istore (lv' := [(5, .int (-1)), (4, .int y9), (3, .int y6), (2, .int y3), (0, .ref a_o), (1, .int p_a)]) hx hb dX11_readStay_64 hl (by decide) rfl (fun ls hl => ?_)
      refine lv_aload_n hx hb dX11_readStay_66 rfl (lv_at hl 4 rfl) ?_
      refine va_get (D := G.1) (ci := 11) (v := .ref a_h) (C := RX11) (T := TX11) (N := 17) hx hb hts inG_X11 hown hK hP 0 rfl rfl 0 (by decide) (hts _ fl_X11_12) (fun _ h9 => h9) rfl dX11_readStay_67 ?_
      refine va_get (D := G.1) (ci := 1) (v := .ref a_b) (C := RX1) (T := TX1) (N := 13) hx hb hts inG_X1 hown hK hP 1 rfl rfl 7 (by decide) (hts _ fl_X11_167) (fun _ h9 => h9) rfl dX11_readStay_70 ?_
      refine lv_iload_n hx hb dX11_readStay_73 rfl (lv_at hl 3 rfl) ?_
      obtain ⟨hPc, hDc, hFc⟩ := g5_sub3 (wc := [(a_b, (oc6 5 24 a_bn e_b))]) hP hD hS hA [2] (by decide) rfl
      refine va_calli (va_runV (As := [.int y3]) (rest := []) ⟨hx, hb, hml, hown, hts⟩ (t_has_B l G a_b a_bn s.heap.size e_b y3 h_e_b) (cwV 1 hts gV_X11_160 rfl rfl rfl hv_X6_has ⟨Nat.le_of_ble_eq_true rfl, Nat.le_of_ble_eq_true rfl⟩) (g5_preV hPc hK hDc hN hT hS hFc (ci := 6) (q0 := 0) rfl rfl) rfl rfl hl.1 rfl (lv_room (Nat.le_of_ble_eq_true rfl)) dX11_readStay_74 ⟨Nat.le_of_ble_eq_true rfl, Nat.le_of_ble_eq_true rfl⟩) hS (fun q _ h => hFc q h) hFc (fun r u t H1 locs ht hvm hw hB hz1 hk1 hS => ?_)
      obtain ⟨hP1, hD1⟩ := hB
      rw [ht] at hP1
      rcases hw with ⟨i_37, rfl, rfl⟩ | ⟨i_38, rfl, rfl⟩
      ·
        have i_37 : 0 ≤ y3.toInt ∧ y3.toInt < e_b.toInt := i_37
        obtain ⟨hP, hD⟩ := va_join (wr := [(a_o, (oc11 a_h a_im a_ke a_k a_wa a_th a_ha a_wk a_r a_x e_tl e_fd e_fpl a_wd e_wn a_rf e_lr)), (a_h, (oc1 e_wa e_le e_st e_fo e_lc a_l a_g a_b a_s a_p a_w e_gb a_bb)), (a_bn, (arI G 120 f_b)), (a_bb, (arJ G 24 f_bb)), (a_x, (arI G 400 f_x))]) hP hD [2] [0, 1, 3, 4, 5] rfl rfl (by decide) (by decide) hk1 hFc hP1 hD1
        generalize H1 = H at hP hS ⊢
        refine g5_rs [(a_o, (oc11 a_h a_im a_ke a_k a_wa a_th a_ha a_wk a_r a_x e_tl e_fd e_fpl a_wd e_wn a_rf e_lr)), (a_h, (oc1 e_wa e_le e_st e_fo e_lc a_l a_g a_b a_s a_p a_w e_gb a_bb)), (a_bn, (arI G 120 f_b)), (a_bb, (arJ G 24 f_bb)), (a_x, (arI G 400 f_x)), (a_b, (oc6 5 24 a_bn e_b))] hP hD (fun hP hD => ?_)
        refine lv_if_eq (tgt := 103) hx hb dX11_readStay_77 (by decide) (fun c_39 => ?_) (fun c_39 => ?_)
        ·
          exact absurd c_39 (by decide)
        ·
          refine lv_iload_n hx hb dX11_readStay_80 rfl (lv_at hl 2 rfl) ?_
          refine lv_iload hx hb dX11_readStay_81 (lv_at hl 1 rfl) ?_
          refine lv_iload hx hb dX11_readStay_83 (lv_at hl 0 rfl) ?_
          obtain ⟨hPc, hDc, hFc⟩ := g5_sub3 (wc := []) hP hD hS hA [] (by decide) rfl
          refine va_calli (va_runS (As := [.int y6, .int y9, .int (-1)]) (rest := []) ⟨hx, hb, hml, hown, hts⟩ (x_isStayX l G H.size y6 y9 (-1)) (va_cwS 3 hts gS_X11_170 rfl rfl rfl hs_X11_isStay ⟨Nat.le_of_ble_eq_true rfl, Nat.le_of_ble_eq_true rfl⟩) (g5_preS hPc hK hDc hN hT hS hFc) rfl rfl hl.1 rfl (lv_room (Nat.le_of_ble_eq_true rfl)) dX11_readStay_85 ⟨Nat.le_of_ble_eq_true rfl, Nat.le_of_ble_eq_true rfl⟩) hS (fun q _ h => hFc q h) hFc (fun r u t H1 locs ht hvm hw hB hz1 hk1 hS => ?_)
          obtain ⟨hP1, hD1⟩ := hB
          rw [ht] at hP1
          rcases hw with ⟨i_40, i_41, i_42, i_43, i_44, rfl, rfl⟩ | ⟨i_45, rfl, rfl⟩
          ·
            have i_40 : 0 ≤ y6.toInt ∧ y6.toInt ≤ 23 := i_40
            have i_41 : 0 ≤ y9.toInt ∧ y9.toInt ≤ 23 := i_41
            have i_42 : -1 ≤ ((-1) : Int32).toInt ∧ ((-1) : Int32).toInt ≤ 63 := i_42
            have i_43 : y6.toInt ≤ y9.toInt := i_43
            have i_44 : okS y6 y9 ((-1) : Int32) := i_44
            have hP := g5_same hP hk1
            generalize H1 = H at hP hS ⊢
            refine lv_if_eq (tgt := 103) hx hb dX11_readStay_88 (by decide) (fun c_46 => ?_) (fun c_46 => ?_)
            ·
              exact absurd c_46 (by decide)
            ·
              refine lv_aload_n hx hb dX11_readStay_91 rfl (lv_at hl 4 rfl) ?_
              refine va_get (D := G.1) (ci := 11) (v := .ref a_h) (C := RX11) (T := TX11) (N := 17) hx hb hts inG_X11 hown hK hP 0 rfl rfl 0 (by decide) (hts _ fl_X11_12) (fun _ h9 => h9) rfl dX11_readStay_92 ?_
              refine lv_iload hx hb dX11_readStay_95 (lv_at hl 0 rfl) ?_
              obtain ⟨hPc, hDc, hFc⟩ := g5_sub3 (wc := [(a_h, (oc1 e_wa e_le e_st e_fo e_lc a_l a_g a_b a_s a_p a_w e_gb a_bb))]) hP hD hS hA [1] (by decide) rfl
              refine va_calli (va_runV (As := [.int (-1)]) (rest := []) ⟨hx, hb, hml, hown, hts⟩ (h_isWalled l G a_h a_l a_g a_b a_s a_p a_w a_bb H.size e_le e_st e_fo e_lc (-1) e_wa e_gb ⟨by decide, by decide⟩) (cwV 1 hts gV_X11_174 rfl rfl rfl hv_X1_isWalled ⟨Nat.le_of_ble_eq_true rfl, Nat.le_of_ble_eq_true rfl⟩) (g5_preV hPc hK hDc hN hT hS hFc (ci := 1) (q0 := 0) rfl rfl) rfl rfl hl.1 rfl (lv_room (Nat.le_of_ble_eq_true rfl)) dX11_readStay_97 ⟨Nat.le_of_ble_eq_true rfl, Nat.le_of_ble_eq_true rfl⟩) hS (fun q _ h => hFc q h) hFc (fun r u t H1 locs ht hvm hw hB hz1 hk1 hS => ?_)
              obtain ⟨hP1, hD1⟩ := hB
              rw [ht] at hP1
              rcases hw with ⟨i_47, rfl, rfl⟩ | ⟨i_48, rfl, rfl⟩
              ·
                have i_47 : 0 ≤ ((-1) : Int32).toInt ∧ onB e_wa ((-1) : Int32).toInt = true := i_47
                obtain ⟨hP, hD⟩ := va_join (wr := [(a_o, (oc11 a_h a_im a_ke a_k a_wa a_th a_ha a_wk a_r a_x e_tl e_fd e_fpl a_wd e_wn a_rf e_lr)), (a_bn, (arI G 120 f_b)), (a_bb, (arJ G 24 f_bb)), (a_x, (arI G 400 f_x)), (a_b, (oc6 5 24 a_bn e_b))]) hP hD [1] [0, 2, 3, 4, 5] rfl rfl (by decide) (by decide) hk1 hFc hP1 hD1
                generalize H1 = H at hP hS ⊢
                refine g5_rs [(a_o, (oc11 a_h a_im a_ke a_k a_wa a_th a_ha a_wk a_r a_x e_tl e_fd e_fpl a_wd e_wn a_rf e_lr)), (a_bn, (arI G 120 f_b)), (a_bb, (arJ G 24 f_bb)), (a_x, (arI G 400 f_x)), (a_b, (oc6 5 24 a_bn e_b)), (a_h, (oc1 e_wa e_le e_st e_fo e_lc a_l a_g a_b a_s a_p a_w e_gb a_bb))] hP hD (fun hP hD => ?_)
                refine lv_if_eq (tgt := 105) hx hb dX11_readStay_100 (by decide) (fun c_49 => ?_) (fun c_49 => ?_)
                ·
                  exact absurd c_49 (by decide)
                ·
                  refine lv_iconst (v := 0) hx hb dX11_readStay_103 (by decide) ?_
                  exact W.zret (v := 0) hx hb hr rfl (fun t ht hW => ⟨⟨0, [(a_o, (oc11 a_h a_im a_ke a_k a_wa a_th a_ha a_wk a_r a_x e_tl e_fd e_fpl a_wd e_wn a_rf e_lr)), (a_h, (oc1 e_wa e_le e_st e_fo e_lc a_l a_g a_b a_s a_p a_w e_gb a_bb)), (a_b, (oc6 5 24 a_bn e_b)), (a_bn, (arI G 120 f_b)), (a_bb, (arJ G 24 f_bb)), (a_x, (arI G 400 f_x))], rfl, ⟨0, f_b, f_bb, ⟨by have zc_o_r : (0 : Int32).toInt = 0 := (by decide); omega, by have zc_o_r : (0 : Int32).toInt = 0 := (by decide); omega⟩, by rw [cif_f (fun q => by have q := (cq_mk (td := e_tl.toInt) (f := f_ro) (t := f_x) (k := p_a.toInt.toNat) hy_3 hy_6 hy_9 hy_12 (c := (-1)) (cq_255 (by omega))).mp q; exact q.2.2.2 (wl_y e_hh (by omega) i_47))]; decide, by rw [rw_stayN (fun q => by have q := (cq_mk (td := e_tl.toInt) (f := f_ro) (t := f_x) (k := p_a.toInt.toNat) hy_3 hy_6 hy_9 hy_12 (c := (-1)) (cq_255 (by omega))).mp q; exact q.2.2.2 (wl_y e_hh (by omega) i_47))]; exact e_hb, rfl, rfl⟩, by rw [ht]; exact hP.sub [0, 5, 4, 1, 2, 3] rfl, hD.sub [0, 5, 4, 1, 2, 3] (by decide) rfl⟩, hS.F ht⟩) hS.2.2 dX11_readStay_104
              ·
                have i_48 : ((-1) : Int32).toInt = -1 ∨ onB e_wa ((-1) : Int32).toInt = false := i_48
                obtain ⟨hP, hD⟩ := va_join (wr := [(a_o, (oc11 a_h a_im a_ke a_k a_wa a_th a_ha a_wk a_r a_x e_tl e_fd e_fpl a_wd e_wn a_rf e_lr)), (a_bn, (arI G 120 f_b)), (a_bb, (arJ G 24 f_bb)), (a_x, (arI G 400 f_x)), (a_b, (oc6 5 24 a_bn e_b))]) hP hD [1] [0, 2, 3, 4, 5] rfl rfl (by decide) (by decide) hk1 hFc hP1 hD1
                generalize H1 = H at hP hS ⊢
                refine g5_rs [(a_o, (oc11 a_h a_im a_ke a_k a_wa a_th a_ha a_wk a_r a_x e_tl e_fd e_fpl a_wd e_wn a_rf e_lr)), (a_bn, (arI G 120 f_b)), (a_bb, (arJ G 24 f_bb)), (a_x, (arI G 400 f_x)), (a_b, (oc6 5 24 a_bn e_b)), (a_h, (oc1 e_wa e_le e_st e_fo e_lc a_l a_g a_b a_s a_p a_w e_gb a_bb))] hP hD (fun hP hD => ?_)
                refine lv_if_eq (tgt := 105) hx hb dX11_readStay_100 (by decide) (fun c_50 => ?_) (fun c_50 => ?_)
                ·
                  refine lv_aload_n hx hb dX11_readStay_105 rfl (lv_at hl 4 rfl) ?_
                  refine va_get (D := G.1) (ci := 11) (v := .ref a_h) (C := RX11) (T := TX11) (N := 17) hx hb hts inG_X11 hown hK hP 0 rfl rfl 0 (by decide) (hts _ fl_X11_12) (fun _ h9 => h9) rfl dX11_readStay_106 ?_
                  refine lv_iload_n hx hb dX11_readStay_109 rfl (lv_at hl 3 rfl) ?_
                  refine lv_iload_n hx hb dX11_readStay_110 rfl (lv_at hl 2 rfl) ?_
                  refine lv_iload hx hb dX11_readStay_111 (lv_at hl 1 rfl) ?_
                  refine lv_iload hx hb dX11_readStay_113 (lv_at hl 0 rfl) ?_
                  obtain ⟨hPc, hDc, hFc⟩ := g5_sub3 (wc := [(a_h, (oc1 e_wa e_le e_st e_fo e_lc a_l a_g a_b a_s a_p a_w e_gb a_bb)), (a_b, (oc6 5 24 a_bn e_b)), (a_bn, (arI G 120 f_b)), (a_bb, (arJ G 24 f_bb))]) hP hD hS hA [5, 4, 1, 2] (by decide) rfl
                  refine va_callv (va_runV (As := [.int y3, .int y6, .int y9, .int (-1)]) (rest := []) ⟨hx, hb, hml, hown, hts⟩ (h_put l G a_h a_b a_bn a_bb a_l a_g a_s a_p a_w H.size e_le e_st e_fo e_lc e_b y3 y6 y9 (-1) e_wa e_gb f_b f_bb h_e_b i_40 i_41 (i_43) (hbb_)) (cwV 4 hts gV_X11_177 rfl rfl rfl hv_X1_put ⟨Nat.le_of_ble_eq_true rfl, Nat.le_of_ble_eq_true rfl⟩) (g5_preV hPc hK hDc hN hT hS hFc (ci := 1) (q0 := 0) rfl rfl) rfl rfl hl.1 rfl (lv_room (Nat.le_of_ble_eq_true rfl)) dX11_readStay_115 ⟨Nat.le_of_ble_eq_true rfl, Nat.le_of_ble_eq_true rfl⟩) hS (fun q _ h => hFc q h) hFc (fun u t H1 locs ht hvm hw hB hz1 hk1 hS => ?_)
                  obtain ⟨hP1, hD1⟩ := hB
                  rw [ht] at hP1
                  obtain ⟨z53, z54, i_51, i_52, rfl⟩ := hw
                  have i_51 : z53 = bput f_b e_b.toInt y3.toInt y6.toInt (y9.toInt + 1) ((-1) : Int32) := i_51
                  have i_52 : ∀ c : Nat, c < 24 → z54 c = bbd z53 e_b.toInt c e_b.toInt.toNat := i_52
                  obtain ⟨hP, hD⟩ := va_join (wr := [(a_o, (oc11 a_h a_im a_ke a_k a_wa a_th a_ha a_wk a_r a_x e_tl e_fd e_fpl a_wd e_wn a_rf e_lr)), (a_x, (arI G 400 f_x))]) hP hD [5, 4, 1, 2] [0, 3] rfl rfl (by decide) (by decide) hk1 hFc hP1 hD1
                  generalize H1 = H at hP hS ⊢
                  refine g5_rs [(a_o, (oc11 a_h a_im a_ke a_k a_wa a_th a_ha a_wk a_r a_x e_tl e_fd e_fpl a_wd e_wn a_rf e_lr)), (a_x, (arI G 400 f_x)), (a_h, (oc1 e_wa e_le e_st e_fo e_lc a_l a_g a_b a_s a_p a_w e_gb a_bb)), (a_b, (oc6 5 24 a_bn e_b)), (a_bn, (arI G 120 z53)), (a_bb, (arJ G 24 z54))] hP hD (fun hP hD => ?_)
                  refine lv_iconst (v := 1) hx hb dX11_readStay_118 (by decide) ?_
                  exact W.zret (v := 1) hx hb hr rfl (fun t ht hW => ⟨⟨1, [(a_o, (oc11 a_h a_im a_ke a_k a_wa a_th a_ha a_wk a_r a_x e_tl e_fd e_fpl a_wd e_wn a_rf e_lr)), (a_h, (oc1 e_wa e_le e_st e_fo e_lc a_l a_g a_b a_s a_p a_w e_gb a_bb)), (a_b, (oc6 5 24 a_bn e_b)), (a_bn, (arI G 120 z53)), (a_bb, (arJ G 24 z54)), (a_x, (arI G 400 f_x))], rfl, ⟨1, z53, z54, ⟨by have zc_o_r : (1 : Int32).toInt = 1 := (by decide); omega, by have zc_o_r : (1 : Int32).toInt = 1 := (by decide); omega⟩, by rw [cif_t ((cq_mk (td := e_tl.toInt) (f := f_ro) (t := f_x) (k := p_a.toInt.toNat) hy_3 hy_6 hy_9 hy_12 (c := (-1)) (cq_255 (by omega))).mpr ⟨by omega, isb_y e_hb ⟨by omega, by omega⟩, i_44, wl_n e_hh (by omega) i_48⟩)]; decide, by rw [rw_stayY ((cq_mk (td := e_tl.toInt) (f := f_ro) (t := f_x) (k := p_a.toInt.toNat) hy_3 hy_6 hy_9 hy_12 (c := (-1)) (cq_255 (by omega))).mpr ⟨by omega, isb_y e_hb ⟨by omega, by omega⟩, i_44, wl_n e_hh (by omega) i_48⟩), hy_3, hy_6, hy_9, hy_12, cq_255 (by omega)]; exact hb_put e_hb ⟨by omega, by omega⟩ (by omega) (by omega) ⟨by have zm : (-1 : Int32).toInt = -1 := (by decide); omega, by have zm : (-1 : Int32).toInt = -1 := (by decide); omega⟩ i_51 i_52, rfl, rfl⟩, by rw [ht]; exact hP.sub [0, 2, 3, 4, 5, 1] rfl, hD.sub [0, 2, 3, 4, 5, 1] (by decide) rfl⟩, hS.F ht⟩) hS.2.2 dX11_readStay_119
                ·
                  exact absurd c_50 (by decide)
          ·
            have i_45 : ¬ okS y6 y9 ((-1) : Int32) := i_45
            have hP := g5_same hP hk1
            generalize H1 = H at hP hS ⊢
            refine lv_if_eq (tgt := 103) hx hb dX11_readStay_88 (by decide) (fun c_55 => ?_) (fun c_55 => ?_)
            ·
              refine lv_iconst (v := 0) hx hb dX11_readStay_103 (by decide) ?_
              exact W.zret (v := 0) hx hb hr rfl (fun t ht hW => ⟨⟨0, [(a_o, (oc11 a_h a_im a_ke a_k a_wa a_th a_ha a_wk a_r a_x e_tl e_fd e_fpl a_wd e_wn a_rf e_lr)), (a_h, (oc1 e_wa e_le e_st e_fo e_lc a_l a_g a_b a_s a_p a_w e_gb a_bb)), (a_b, (oc6 5 24 a_bn e_b)), (a_bn, (arI G 120 f_b)), (a_bb, (arJ G 24 f_bb)), (a_x, (arI G 400 f_x))], rfl, ⟨0, f_b, f_bb, ⟨by have zc_o_r : (0 : Int32).toInt = 0 := (by decide); omega, by have zc_o_r : (0 : Int32).toInt = 0 := (by decide); omega⟩, by rw [cif_f (fun q => by have q := (cq_mk (td := e_tl.toInt) (f := f_ro) (t := f_x) (k := p_a.toInt.toNat) hy_3 hy_6 hy_9 hy_12 (c := (-1)) (cq_255 (by omega))).mp q; exact i_45 q.2.2.1)]; decide, by rw [rw_stayN (fun q => by have q := (cq_mk (td := e_tl.toInt) (f := f_ro) (t := f_x) (k := p_a.toInt.toNat) hy_3 hy_6 hy_9 hy_12 (c := (-1)) (cq_255 (by omega))).mp q; exact i_45 q.2.2.1)]; exact e_hb, rfl, rfl⟩, by rw [ht]; exact hP.sub [0, 1, 5, 2, 3, 4] rfl, hD.sub [0, 1, 5, 2, 3, 4] (by decide) rfl⟩, hS.F ht⟩) hS.2.2 dX11_readStay_104
            ·
              exact absurd c_55 (by decide)
      ·
        have i_38 : y3.toInt < 0 ∨ e_b.toInt ≤ y3.toInt := i_38
        obtain ⟨hP, hD⟩ := va_join (wr := [(a_o, (oc11 a_h a_im a_ke a_k a_wa a_th a_ha a_wk a_r a_x e_tl e_fd e_fpl a_wd e_wn a_rf e_lr)), (a_h, (oc1 e_wa e_le e_st e_fo e_lc a_l a_g a_b a_s a_p a_w e_gb a_bb)), (a_bn, (arI G 120 f_b)), (a_bb, (arJ G 24 f_bb)), (a_x, (arI G 400 f_x))]) hP hD [2] [0, 1, 3, 4, 5] rfl rfl (by decide) (by decide) hk1 hFc hP1 hD1
        generalize H1 = H at hP hS ⊢
        refine g5_rs [(a_o, (oc11 a_h a_im a_ke a_k a_wa a_th a_ha a_wk a_r a_x e_tl e_fd e_fpl a_wd e_wn a_rf e_lr)), (a_h, (oc1 e_wa e_le e_st e_fo e_lc a_l a_g a_b a_s a_p a_w e_gb a_bb)), (a_bn, (arI G 120 f_b)), (a_bb, (arJ G 24 f_bb)), (a_x, (arI G 400 f_x)), (a_b, (oc6 5 24 a_bn e_b))] hP hD (fun hP hD => ?_)
        refine lv_if_eq (tgt := 103) hx hb dX11_readStay_77 (by decide) (fun c_56 => ?_) (fun c_56 => ?_)
        ·
          refine lv_iconst (v := 0) hx hb dX11_readStay_103 (by decide) ?_
          exact W.zret (v := 0) hx hb hr rfl (fun t ht hW => ⟨⟨0, [(a_o, (oc11 a_h a_im a_ke a_k a_wa a_th a_ha a_wk a_r a_x e_tl e_fd e_fpl a_wd e_wn a_rf e_lr)), (a_h, (oc1 e_wa e_le e_st e_fo e_lc a_l a_g a_b a_s a_p a_w e_gb a_bb)), (a_b, (oc6 5 24 a_bn e_b)), (a_bn, (arI G 120 f_b)), (a_bb, (arJ G 24 f_bb)), (a_x, (arI G 400 f_x))], rfl, ⟨0, f_b, f_bb, ⟨by have zc_o_r : (0 : Int32).toInt = 0 := (by decide); omega, by have zc_o_r : (0 : Int32).toInt = 0 := (by decide); omega⟩, by rw [cif_f (fun q => by have q := (cq_mk (td := e_tl.toInt) (f := f_ro) (t := f_x) (k := p_a.toInt.toNat) hy_3 hy_6 hy_9 hy_12 (c := (-1)) (cq_255 (by omega))).mp q; exact isb_n e_hb (by omega) q.2.1)]; decide, by rw [rw_stayN (fun q => by have q := (cq_mk (td := e_tl.toInt) (f := f_ro) (t := f_x) (k := p_a.toInt.toNat) hy_3 hy_6 hy_9 hy_12 (c := (-1)) (cq_255 (by omega))).mp q; exact isb_n e_hb (by omega) q.2.1)]; exact e_hb, rfl, rfl⟩, by rw [ht]; exact hP.sub [0, 1, 5, 2, 3, 4] rfl, hD.sub [0, 1, 5, 2, 3, 4] (by decide) rfl⟩, hS.F ht⟩) hS.2.2 dX11_readStay_104
        ·
          exact absurd c_56 (by decide)
  ·
    have i_2 : (p_a.toInt + 4) > e_tl.toInt := by have z := g5_leN (a := (p_a + 4).toInt) (b := e_tl.toInt) (by rfl) (by rfl) c_2; omega
    refine lv_iconst (v := 0) hx hb dX11_readStay_10 (by decide) ?_
    exact W.zret (v := 0) hx hb hr rfl (fun t ht hW => ⟨⟨0, [(a_o, (oc11 a_h a_im a_ke a_k a_wa a_th a_ha a_wk a_r a_x e_tl e_fd e_fpl a_wd e_wn a_rf e_lr)), (a_h, (oc1 e_wa e_le e_st e_fo e_lc a_l a_g a_b a_s a_p a_w e_gb a_bb)), (a_b, (oc6 5 24 a_bn e_b)), (a_bn, (arI G 120 f_b)), (a_bb, (arJ G 24 f_bb)), (a_x, (arI G 400 f_x))], rfl, ⟨0, f_b, f_bb, ⟨by have zc_o_r : (0 : Int32).toInt = 0 := (by decide); omega, by have zc_o_r : (0 : Int32).toInt = 0 := (by decide); omega⟩, by rw [cif_f (fun q => by have q1 := q.1; omega)]; decide, by rw [rw_stayN (fun q => by have q1 := q.1; omega)]; exact e_hb, rfl, rfl⟩, by rw [ht]; exact hP.sub [0, 1, 2, 3, 4, 5] rfl, hD.sub [0, 1, 2, 3, 4, 5] (by decide) rfl⟩, hS.F ht⟩) hS.2.2 dX11_readStay_11
set_option maxHeartbeats 4000000 in
set_option maxRecDepth 100000 in
theorem x_rowX (l : Launch) (G : g5_G) (a_o a_rf a_h a_b a_bn a_bb a_x a_im a_ke a_k a_wa a_th a_ha a_wk a_r a_wd a_l a_g a_s a_p a_w : Nat) (sz : Nat) (e_tl : Int32) (e_fd : Int32) (e_fpl : Int32) (e_wn : Int32) (e_lr : Int32) (e_le : Int32) (e_st : Int32) (e_fo : Int32) (e_lc : Int32) (e_b : Int32) (e_wa : Int64) (e_gb : Int64) (f_rf : Nat → Int32) (f_b : Nat → Int32) (f_bb : Nat → Int64) (f_x : Nat → Int32) (f_ro : Nat → Int32) (h_e_tl : 0 ≤ e_tl.toInt ∧ e_tl.toInt ≤ 400) (h_e_wn : 0 ≤ e_wn.toInt ∧ e_wn.toInt ≤ 1) (h_e_b : 0 ≤ e_b.toInt ∧ e_b.toInt ≤ 5) (e_hh : QH e_wa e_le e_st f_ro) (e_hb : QB e_b f_b f_bb f_ro) (e_tp : TPI f_x) : Met l yX11_row (wsG yX11_row cX11_row 4 (some .int)) ({ frames := 4, cells := 0, slots := 0, locals := 98 }) (va_Pc [.ref a_o] (g5_P G [(a_o, (oc11 a_h a_im a_ke a_k a_wa a_th a_ha a_wk a_r a_x e_tl e_fd e_fpl a_wd e_wn a_rf e_lr)), (a_rf, (arI G 5 f_rf)), (a_h, (oc1 e_wa e_le e_st e_fo e_lc a_l a_g a_b a_s a_p a_w e_gb a_bb)), (a_b, (oc6 5 24 a_bn e_b)), (a_bn, (arI G 120 f_b)), (a_bb, (arJ G 24 f_bb)), (a_x, (arI G 400 f_x))] sz)) (va_Qi (fun (r : Int32) (u : va_W) => (∃ (o_r : Int32) (o_lr : Int32) (o_rf : Nat → Int32) (o_t : Int32) (o_fd : Int32) (o_f : Nat → Int32) (o_bb : Nat → Int64), (0 ≤ o_t.toInt ∧ o_t.toInt ≤ 400) ∧ (o_t = 0) ∧ (o_r = arow f_x e_tl f_ro) ∧ (QB e_b o_f o_bb (srow f_x e_tl f_ro)) ∧ (o_fd = srowF f_x e_tl e_fd f_ro) ∧ (r = o_r) ∧ (u = [(a_o, (oc11 a_h a_im a_ke a_k a_wa a_th a_ha a_wk a_r a_x o_t o_fd e_fpl a_wd e_wn a_rf o_lr)), (a_rf, (arI G 5 o_rf)), (a_h, (oc1 e_wa e_le e_st e_fo e_lc a_l a_g a_b a_s a_p a_w e_gb a_bb)), (a_b, (oc6 5 24 a_bn e_b)), (a_bn, (arI G 120 o_f)), (a_bb, (arJ G 24 o_bb)), (a_x, (arI G 400 f_x))]))) (g5_B G (va_A [(a_o, (oc11 a_h a_im a_ke a_k a_wa a_th a_ha a_wk a_r a_x e_tl e_fd e_fpl a_wd e_wn a_rf e_lr)), (a_rf, (arI G 5 f_rf)), (a_h, (oc1 e_wa e_le e_st e_fo e_lc a_l a_g a_b a_s a_p a_w e_gb a_bb)), (a_b, (oc6 5 24 a_bn e_b)), (a_bn, (arI G 120 f_b)), (a_bb, (arJ G 24 f_bb)), (a_x, (arI G 400 f_x))] sz)) (va_A [(a_o, (oc11 a_h a_im a_ke a_k a_wa a_th a_ha a_wk a_r a_x e_tl e_fd e_fpl a_wd e_wn a_rf e_lr)), (a_rf, (arI G 5 f_rf)), (a_h, (oc1 e_wa e_le e_st e_fo e_lc a_l a_g a_b a_s a_p a_w e_gb a_bb)), (a_b, (oc6 5 24 a_bn e_b)), (a_bn, (arI G 120 f_b)), (a_bb, (arJ G 24 f_bb)), (a_x, (arI G 400 f_x))] sz)) 0 0 (va_A [(a_o, (oc11 a_h a_im a_ke a_k a_wa a_th a_ha a_wk a_r a_x e_tl e_fd e_fpl a_wd e_wn a_rf e_lr)), (a_rf, (arI G 5 f_rf)), (a_h, (oc1 e_wa e_le e_st e_fo e_lc a_l a_g a_b a_s a_p a_w e_gb a_bb)), (a_b, (oc6 5 24 a_bn e_b)), (a_bn, (arI G 120 f_b)), (a_bb, (arJ G 24 f_bb)), (a_x, (arI G 400 f_x))] sz) := by
  refine Met.ofW (cc := cX11_row) (maxL := 4) (ret := (some .int)) (by decide) rfl ?_
  intro p e s m args below meth c s₁ B hml hv
  obtain ⟨rfl, hsz, hP, hK, hD0, hN, hT⟩ := hv
  have hx := B.exec
  have hb := B.bytes
  have hr := B.returns
  have hts : ∀ w ∈ tblG, w.before _ s = true := fun w h => atoms_spec (ws := (wsG yX11_row cX11_row 4 (some .int))) B.pre w (List.mem_cons_of_mem _ h)
  have hown : s.vm.findClass RX11 = some m.cls := findClass_of_methodNamed B.named
  have hlocks := B.notSynchronized
  subst hsz
  have hD := hD0.self (sz := s.heap.size)
  generalize hAe : va_A [(a_o, (oc11 a_h a_im a_ke a_k a_wa a_th a_ha a_wk a_r a_x e_tl e_fd e_fpl a_wd e_wn a_rf e_lr)), (a_rf, (arI G 5 f_rf)), (a_h, (oc1 e_wa e_le e_st e_fo e_lc a_l a_g a_b a_s a_p a_w e_gb a_bb)), (a_b, (oc6 5 24 a_bn e_b)), (a_bn, (arI G 120 f_b)), (a_bb, (arJ G 24 f_bb)), (a_x, (arI G 400 f_x))] s.heap.size = A at hD hT ⊢
  have hA : ∀ q : Nat, s.heap.size ≤ q → A q := fun q h => by rw [← hAe]; exact Or.inr h
  have hS : va_S A s.heap s.heap [] := va_S.rf
  have hP : va_P G.1 vwCl [(a_o, (oc11 a_h a_im a_ke a_k a_wa a_th a_ha a_wk a_r a_x e_tl e_fd e_fpl a_wd e_wn a_rf e_lr)), (a_rf, (arI G 5 f_rf)), (a_h, (oc1 e_wa e_le e_st e_fo e_lc a_l a_g a_b a_s a_p a_w e_gb a_bb)), (a_b, (oc6 5 24 a_bn e_b)), (a_bn, (arI G 120 f_b)), (a_bb, (arJ G 24 f_bb)), (a_x, (arI G 400 f_x))] s.heap := hP
  have hl := lv_entry ([.ref a_o]) (n := 4) (Nat.le_of_ble_eq_true rfl)
  rw [lg_entry_eq]
  generalize (lg_sl ([.ref a_o]) ++ List.replicate (4 - (lg_sl ([.ref a_o])).length) Slot.unset).toArray = ls at hl ⊢
  have hl : lv_has ls 4 [(0, .ref a_o)] := hl
  refine lv_aload_n hx hb dX11_row_0 rfl (lv_at hl 0 rfl) ?_
  refine va_get (D := G.1) (ci := 11) (v := .int e_tl) (C := RX11) (T := TX11) (N := 17) hx hb hts inG_X11 hown hK hP 0 rfl rfl 10 (by decide) (hts _ fl_X11_74) (fun _ h9 => h9) rfl dX11_row_1 ?_
  refine lv_if_ne (tgt := 14) hx hb dX11_row_4 (by decide) (fun c_1 => ?_) (fun c_1 => ?_)
  ·
    have n_1 : gNe (e_tl.toInt) (0) := by have z := g5_ne (a := e_tl.toInt) (b := 0) (by rfl) (by decide) c_1; unfold gNe; omega
    have i_1 : e_tl.toInt ≥ 1 := by have z := g5_ne (a := e_tl.toInt) (b := 0) (by rfl) (by decide) c_1; omega
    refine lv_iconst (v := 0) hx hb dX11_row_14 (by decide) ?_
    refine lv_istore_n (lv' := [(1, .int 0), (0, .ref a_o)]) hx hb dX11_row_15 rfl hl (by decide) rfl (fun ls hl => ?_)
    refine lv_iconst (v := 0) hx hb dX11_row_16 (by decide) ?_
    refine lv_istore_n (lv' := [(2, .int 0), (1, .int 0), (0, .ref a_o)]) hx hb dX11_row_17 rfl hl (by decide) rfl (fun ls hl => ?_)
    refine lv_iconst (v := 0) hx hb dX11_row_18 (by decide) ?_
    refine lv_istore_n (lv' := [(3, .int 0), (2, .int 0), (1, .int 0), (0, .ref a_o)]) hx hb dX11_row_19 rfl hl (by decide) rfl (fun ls hl => ?_)
    refine g5_loop (α := (Int32) × (Int32) × (Int32) × (Nat → Int32) × (Nat → Int64)) (fun (q : (Int32) × (Int32) × (Int32) × (Nat → Int32) × (Nat → Int64)) (ls : Array Slot) (H : Heap) (locs : List Loc) => match q with | (k_a, k_b, k_c, k_f, k_bb) => lv_has ls 4 [(1, .int k_b), (2, .int k_c), (3, .int k_a), (0, .ref a_o)] ∧ va_P G.1 vwCl [(a_o, (oc11 a_h a_im a_ke a_k a_wa a_th a_ha a_wk a_r a_x e_tl e_fd e_fpl a_wd e_wn a_rf e_lr)), (a_rf, (arI G 5 f_rf)), (a_h, (oc1 e_wa e_le e_st e_fo e_lc a_l a_g a_b a_s a_p a_w e_gb a_bb)), (a_b, (oc6 5 24 a_bn e_b)), (a_bn, (arI G 120 k_f)), (a_bb, (arJ G 24 k_bb)), (a_x, (arI G 400 f_x))] H ∧ va_D A [(a_o, (oc11 a_h a_im a_ke a_k a_wa a_th a_ha a_wk a_r a_x e_tl e_fd e_fpl a_wd e_wn a_rf e_lr)), (a_rf, (arI G 5 f_rf)), (a_h, (oc1 e_wa e_le e_st e_fo e_lc a_l a_g a_b a_s a_p a_w e_gb a_bb)), (a_b, (oc6 5 24 a_bn e_b)), (a_bn, (arI G 120 k_f)), (a_bb, (arJ G 24 k_bb)), (a_x, (arI G 400 f_x))] ∧ va_S A s.heap H locs ∧ (0 ≤ k_a.toInt ∧ k_a.toInt ≤ 403) ∧ (0 ≤ k_b.toInt ∧ k_b.toInt ≤ 101) ∧ (0 ≤ k_c.toInt ∧ k_c.toInt ≤ 101) ∧ (k_a.toInt % 4 = 0) ∧ (k_a.toInt ≤ e_tl.toInt + 3) ∧ (k_b.toInt + k_c.toInt = k_a.toInt / 4) ∧ (k_b.toInt = rwC f_x e_tl.toInt f_ro (k_a.toInt / 4).toNat) ∧ (QB e_b k_f k_bb (rwS f_x e_tl.toInt f_ro (k_a.toInt / 4).toNat))) (fun (q : (Int32) × (Int32) × (Int32) × (Nat → Int32) × (Nat → Int64)) => match q with | (k_a, k_b, k_c, k_f, k_bb) => Int.toNat (404 - k_a.toInt)) (0, 0, 0, f_b, f_bb) ⟨lv_sub hl [2, 1, 0, 3] rfl, hP, hD, hS, ⟨by decide, by decide⟩, ⟨by decide, by decide⟩, ⟨by decide, by decide⟩, by decide, by have z0 : (0 : Int32).toInt = 0 := (by decide); omega, by decide, by rw [show ((0 : Int32).toInt / 4).toNat = 0 from by decide]; exact (show (0 : Int32).toInt = 0 by decide), e_hb⟩ ?_
    rintro ⟨k_a, k_b, k_c, k_f, k_bb⟩ ls H locs ⟨hl, hP, hD, hS, i_2, i_3, i_4, i_5, i_6, i_7, i_8, i_9⟩ ih_20_10
    have hl : lv_has ls 4 [(1, .int k_b), (2, .int k_c), (3, .int k_a), (0, .ref a_o)] := hl
    have i_2 : 0 ≤ k_a.toInt ∧ k_a.toInt ≤ 403 := i_2
    have i_3 : 0 ≤ k_b.toInt ∧ k_b.toInt ≤ 101 := i_3
    have i_4 : 0 ≤ k_c.toInt ∧ k_c.toInt ≤ 101 := i_4
    have i_5 : k_a.toInt % 4 = 0 := i_5
    have i_6 : k_a.toInt ≤ e_tl.toInt + 3 := i_6
    have i_7 : k_b.toInt + k_c.toInt = k_a.toInt / 4 := i_7
    have i_8 : k_b.toInt = rwC f_x e_tl.toInt f_ro (k_a.toInt / 4).toNat := i_8
    have i_9 : QB e_b k_f k_bb (rwS f_x e_tl.toInt f_ro (k_a.toInt / 4).toNat) := i_9
    refine g5_rs [(a_o, (oc11 a_h a_im a_ke a_k a_wa a_th a_ha a_wk a_r a_x e_tl e_fd e_fpl a_wd e_wn a_rf e_lr)), (a_rf, (arI G 5 f_rf)), (a_h, (oc1 e_wa e_le e_st e_fo e_lc a_l a_g a_b a_s a_p a_w e_gb a_bb)), (a_b, (oc6 5 24 a_bn e_b)), (a_bn, (arI G 120 k_f)), (a_bb, (arJ G 24 k_bb)), (a_x, (arI G 400 f_x))] hP hD (fun hP hD => ?_)
    refine lv_iload_n hx hb dX11_row_20 rfl (lv_at hl 2 rfl) ?_
    refine lv_aload_n hx hb dX11_row_21 rfl (lv_at hl 3 rfl) ?_
    refine va_get (D := G.1) (ci := 11) (v := .int e_tl) (C := RX11) (T := TX11) (N := 17) hx hb hts inG_X11 hown hK hP 0 rfl rfl 10 (by decide) (hts _ fl_X11_74) (fun _ h9 => h9) rfl dX11_row_22 ?_
    refine lv_icmp_ge (tgt := 51) hx hb dX11_row_25 (by decide) (fun c_11 => ?_) (fun c_11 => ?_)
    ·
      have i_11 : k_a.toInt ≥ e_tl.toInt := by have z := g5_ge (a := k_a.toInt) (b := e_tl.toInt) (by rfl) (by rfl) c_11; omega
      refine lv_aload_n hx hb dX11_row_51 rfl (lv_at hl 3 rfl) ?_
      refine lv_iload_n hx hb dX11_row_52 rfl (lv_at hl 1 rfl) ?_
      refine va_put (D := G.1) (ci := 11) (v := .int k_c) (ty := .int) (C := RX11) (T := TX11) (N := 17) hx hb hts inG_X11 tyX11 tyX11_ok nmX11 hown hK hP hD hS 0 rfl rfl 11 (by decide) (hts _ fl_X11_78) (fun _ h9 => h9) rfl (by decide +kernel) rfl rfl (Nat.le_of_ble_eq_true rfl) dX11_row_53 (fun H locs hP hD hS => ?_)
      refine g5_rs [(a_o, (oc11 a_h a_im a_ke a_k a_wa a_th a_ha a_wk a_r a_x e_tl k_c e_fpl a_wd e_wn a_rf e_lr)), (a_rf, (arI G 5 f_rf)), (a_h, (oc1 e_wa e_le e_st e_fo e_lc a_l a_g a_b a_s a_p a_w e_gb a_bb)), (a_b, (oc6 5 24 a_bn e_b)), (a_bn, (arI G 120 k_f)), (a_bb, (arJ G 24 k_bb)), (a_x, (arI G 400 f_x))] hP hD (fun hP hD => ?_)
      refine lv_aload_n hx hb dX11_row_56 rfl (lv_at hl 3 rfl) ?_
      refine lv_iconst (v := 0) hx hb dX11_row_57 (by decide) ?_
      refine va_put (D := G.1) (ci := 11) (v := .int 0) (ty := .int) (C := RX11) (T := TX11) (N := 17) hx hb hts inG_X11 tyX11 tyX11_ok nmX11 hown hK hP hD hS 0 rfl rfl 10 (by decide) (hts _ fl_X11_74) (fun _ h9 => h9) rfl (by decide +kernel) rfl rfl (Nat.le_of_ble_eq_true rfl) dX11_row_58 (fun H locs hP hD hS => ?_)
      refine g5_rs [(a_o, (oc11 a_h a_im a_ke a_k a_wa a_th a_ha a_wk a_r a_x 0 k_c e_fpl a_wd e_wn a_rf e_lr)), (a_rf, (arI G 5 f_rf)), (a_h, (oc1 e_wa e_le e_st e_fo e_lc a_l a_g a_b a_s a_p a_w e_gb a_bb)), (a_b, (oc6 5 24 a_bn e_b)), (a_bn, (arI G 120 k_f)), (a_bb, (arJ G 24 k_bb)), (a_x, (arI G 400 f_x))] hP hD (fun hP hD => ?_)
      refine lv_aload_n hx hb dX11_row_61 rfl (lv_at hl 3 rfl) ?_
      refine lv_iload_n hx hb dX11_row_62 rfl (lv_at hl 0 rfl) ?_
      obtain ⟨hPc, hDc, hFc⟩ := g5_sub3 (wc := [(a_o, (oc11 a_h a_im a_ke a_k a_wa a_th a_ha a_wk a_r a_x 0 k_c e_fpl a_wd e_wn a_rf e_lr))]) hP hD hS hA [0] (by decide) rfl
      refine va_calli (va_runV (As := [.int k_b]) (rest := []) ⟨hx, hb, hml, hown, hts⟩ (x_done l G a_o a_h a_im a_ke a_k a_wa a_th a_ha a_wk a_r a_x a_wd a_rf H.size 0 k_c e_fpl e_wn e_lr k_b ⟨by decide, by decide⟩ h_e_wn) (cwV 1 hts gV_X11_121 rfl rfl rfl hv_X11_done ⟨Nat.le_of_ble_eq_true rfl, Nat.le_of_ble_eq_true rfl⟩) (g5_preV hPc hK hDc hN hT hS hFc (ci := 11) (q0 := 0) rfl rfl) rfl rfl hl.1 rfl (lv_room (Nat.le_of_ble_eq_true rfl)) dX11_row_63 ⟨Nat.le_of_ble_eq_true rfl, Nat.le_of_ble_eq_true rfl⟩) hS (fun q _ h => hFc q h) hFc (fun r u t H1 locs ht hvm hw hB hz1 hk1 hS => ?_)
      obtain ⟨hP1, hD1⟩ := hB
      rw [ht] at hP1
      obtain ⟨y12, rfl⟩ := hw
      obtain ⟨hP, hD⟩ := va_join (wr := [(a_rf, (arI G 5 f_rf)), (a_h, (oc1 e_wa e_le e_st e_fo e_lc a_l a_g a_b a_s a_p a_w e_gb a_bb)), (a_b, (oc6 5 24 a_bn e_b)), (a_bn, (arI G 120 k_f)), (a_bb, (arJ G 24 k_bb)), (a_x, (arI G 400 f_x))]) hP hD [0] [1, 2, 3, 4, 5, 6] rfl rfl (by decide) (by decide) hk1 hFc hP1 hD1
      generalize H1 = H at hP hS ⊢
      refine g5_rs [(a_rf, (arI G 5 f_rf)), (a_h, (oc1 e_wa e_le e_st e_fo e_lc a_l a_g a_b a_s a_p a_w e_gb a_bb)), (a_b, (oc6 5 24 a_bn e_b)), (a_bn, (arI G 120 k_f)), (a_bb, (arJ G 24 k_bb)), (a_x, (arI G 400 f_x)), (a_o, (oc11 a_h a_im a_ke a_k a_wa a_th a_ha a_wk a_r a_x 0 k_c e_fpl a_wd e_wn a_rf 0))] hP hD (fun hP hD => ?_)
      refine g5_ti (v := k_b) y12 ?_
      exact W.iret (v := k_b) hx hb hr (fun t ht hW => ⟨⟨k_b, [(a_o, (oc11 a_h a_im a_ke a_k a_wa a_th a_ha a_wk a_r a_x 0 k_c e_fpl a_wd e_wn a_rf 0)), (a_rf, (arI G 5 f_rf)), (a_h, (oc1 e_wa e_le e_st e_fo e_lc a_l a_g a_b a_s a_p a_w e_gb a_bb)), (a_b, (oc6 5 24 a_bn e_b)), (a_bn, (arI G 120 k_f)), (a_bb, (arJ G 24 k_bb)), (a_x, (arI G 400 f_x))], rfl, ⟨k_b, 0, f_rf, 0, k_c, k_f, k_bb, ⟨by have zc_o_t : (0 : Int32).toInt = 0 := (by decide); omega, by have zc_o_t : (0 : Int32).toInt = 0 := (by decide); omega⟩, rfl, (row_0 (t := f_x) (td := e_tl) (fd := e_fd) (f := f_ro) (a := k_a) (c := k_b) (g := k_c) (by omega) (by omega) (by omega) (by omega) (by omega) i_8 (by omega)).1, by rw [← (row_0 (t := f_x) (td := e_tl) (fd := e_fd) (f := f_ro) (a := k_a) (c := k_b) (g := k_c) (by omega) (by omega) (by omega) (by omega) (by omega) i_8 (by omega)).2.1]; exact i_9, (row_0 (t := f_x) (td := e_tl) (fd := e_fd) (f := f_ro) (a := k_a) (c := k_b) (g := k_c) (by omega) (by omega) (by omega) (by omega) (by omega) i_8 (by omega)).2.2, rfl, rfl⟩, by rw [ht]; exact hP.sub [6, 0, 1, 2, 3, 4, 5] rfl, hD.sub [6, 0, 1, 2, 3, 4, 5] (by decide) rfl⟩, hS.F ht⟩) hS.2.2 dX11_row_66
    ·
      have i_11 : k_a.toInt < e_tl.toInt := by have z := g5_geN (a := k_a.toInt) (b := e_tl.toInt) (by rfl) (by rfl) c_11; omega
      refine lv_aload_n hx hb dX11_row_28 rfl (lv_at hl 3 rfl) ?_
      refine lv_iload_n hx hb dX11_row_29 rfl (lv_at hl 2 rfl) ?_
      obtain ⟨hPc, hDc, hFc⟩ := g5_sub3 (wc := [(a_o, (oc11 a_h a_im a_ke a_k a_wa a_th a_ha a_wk a_r a_x e_tl e_fd e_fpl a_wd e_wn a_rf e_lr)), (a_h, (oc1 e_wa e_le e_st e_fo e_lc a_l a_g a_b a_s a_p a_w e_gb a_bb)), (a_b, (oc6 5 24 a_bn e_b)), (a_bn, (arI G 120 k_f)), (a_bb, (arJ G 24 k_bb)), (a_x, (arI G 400 f_x))]) hP hD hS hA [0, 2, 3, 4, 5, 6] (by decide) rfl
      refine va_calli (va_runV (As := [.int k_a]) (rest := []) ⟨hx, hb, hml, hown, hts⟩ (x_readStayX l G a_o a_h a_b a_bn a_bb a_x a_im a_ke a_k a_wa a_th a_ha a_wk a_r a_wd a_rf a_l a_g a_s a_p a_w H.size e_tl e_fd e_fpl e_wn e_lr e_le e_st e_fo e_lc e_b k_a e_wa e_gb k_f k_bb f_x (rwS f_x e_tl.toInt f_ro (k_a.toInt / 4).toNat) h_e_tl h_e_wn h_e_b ⟨by omega, by omega⟩ (hh_c e_hh (fun j hj => kp_rwS (by rw [e_hb.2.1]; exact e_hb.1.2) _ j (by omega))) (i_9) (e_tp)) (cwV 1 hts gV_X11_189 rfl rfl rfl hv_X11_readStay ⟨Nat.le_of_ble_eq_true rfl, Nat.le_of_ble_eq_true rfl⟩) (g5_preV hPc hK hDc hN hT hS hFc (ci := 11) (q0 := 0) rfl rfl) rfl rfl hl.1 rfl (lv_room (Nat.le_of_ble_eq_true rfl)) dX11_row_30 ⟨Nat.le_of_ble_eq_true rfl, Nat.le_of_ble_eq_true rfl⟩) hS (fun q _ h => hFc q h) hFc (fun r u t H1 locs ht hvm hw hB hz1 hk1 hS => ?_)
      obtain ⟨hP1, hD1⟩ := hB
      rw [ht] at hP1
      obtain ⟨z16, z17, z18, i_13, i_14, i_15, y19, rfl⟩ := hw
      have i_13 : 0 ≤ z16.toInt ∧ z16.toInt ≤ 1 := i_13
      have i_14 : z16.toInt = cif (canQ f_x e_tl.toInt (rwS f_x e_tl.toInt f_ro (k_a.toInt / 4).toNat) k_a.toInt.toNat) 1 0 := i_14
      have i_15 : QB e_b z17 z18 (rw1 f_x e_tl.toInt (rwS f_x e_tl.toInt f_ro (k_a.toInt / 4).toNat) k_a.toInt.toNat) := i_15
      obtain ⟨hP, hD⟩ := va_join (wr := [(a_rf, (arI G 5 f_rf))]) hP hD [0, 2, 3, 4, 5, 6] [1] rfl rfl (by decide) (by decide) hk1 hFc hP1 hD1
      generalize H1 = H at hP hS ⊢
      refine g5_rs [(a_rf, (arI G 5 f_rf)), (a_o, (oc11 a_h a_im a_ke a_k a_wa a_th a_ha a_wk a_r a_x e_tl e_fd e_fpl a_wd e_wn a_rf e_lr)), (a_h, (oc1 e_wa e_le e_st e_fo e_lc a_l a_g a_b a_s a_p a_w e_gb a_bb)), (a_b, (oc6 5 24 a_bn e_b)), (a_bn, (arI G 120 z17)), (a_bb, (arJ G 24 z18)), (a_x, (arI G 400 f_x))] hP hD (fun hP hD => ?_)
      refine g5_ti (v := z16) y19 ?_
      refine lv_if_eq (tgt := 42) hx hb dX11_row_33 (by decide) (fun c_20 => ?_) (fun c_20 => ?_)
      ·
        have i_20 : z16.toInt = 0 := by have z := g5_eq (a := z16.toInt) (b := 0) (by rfl) (by decide) c_20; omega
        refine lv_iinc (v := (k_c + 1)) (lv' := [(2, .int (k_c + 1)), (1, .int k_b), (3, .int k_a), (0, .ref a_o)]) hx hb dX11_row_42 hl (k := 1) rfl rfl (by decide) rfl (fun ls hl => ?_)
        have t_21 : (k_c + 1).toInt = k_c.toInt + 1 := g5_iadd (a := k_c.toInt) (b := 1) rfl (by decide) (by omega) (by omega)
        refine lv_iinc (v := (k_a + 4)) (lv' := [(3, .int (k_a + 4)), (2, .int (k_c + 1)), (1, .int k_b), (0, .ref a_o)]) hx hb dX11_row_45 hl (k := 2) rfl rfl (by decide) rfl (fun ls hl => ?_)
        have t_22 : (k_a + 4).toInt = k_a.toInt + 4 := g5_iadd (a := k_a.toInt) (b := 4) rfl (by decide) (by omega) (by omega)
        refine lv_goto (tgt := 20) hx hb dX11_row_48 (by decide) ?_
        exact ih_20_10 ((k_a + 4), k_b, (k_c + 1), z17, z18) ls H locs (show Int.toNat (404 - (k_a + 4).toInt) < Int.toNat (404 - k_a.toInt) from g_up (show k_a.toInt < (k_a + 4).toInt by omega) (show k_a.toInt < 404 by omega)) ⟨lv_sub hl [2, 1, 0, 3] rfl, hP.sub [1, 0, 2, 3, 4, 5, 6] rfl, hD.sub [1, 0, 2, 3, 4, 5, 6] (by decide) rfl, hS, ⟨by omega, by omega⟩, i_3, ⟨by omega, by omega⟩, by omega, by omega, by omega, by rw [show ((k_a + 4).toInt / 4).toNat = (k_a.toInt / 4).toNat + 1 by omega, rwC_S (k := k_a.toInt.toNat) (by omega), ← i_8, ← i_14]; omega, by rw [show ((k_a + 4).toInt / 4).toNat = (k_a.toInt / 4).toNat + 1 by omega, rwS_S (k := k_a.toInt.toNat) (by omega)]; exact i_15⟩
      ·
        have n_20 : gNe (z16.toInt) (0) := by have z := g5_eqN (a := z16.toInt) (b := 0) (by rfl) (by decide) c_20; unfold gNe; omega
        have i_20 : z16.toInt ≥ 1 := by have z := g5_eqN (a := z16.toInt) (b := 0) (by rfl) (by decide) c_20; omega
        refine lv_iinc (v := (k_b + 1)) (lv' := [(1, .int (k_b + 1)), (2, .int k_c), (3, .int k_a), (0, .ref a_o)]) hx hb dX11_row_36 hl (k := 0) rfl rfl (by decide) rfl (fun ls hl => ?_)
        have t_23 : (k_b + 1).toInt = k_b.toInt + 1 := g5_iadd (a := k_b.toInt) (b := 1) rfl (by decide) (by omega) (by omega)
        refine lv_goto (tgt := 45) hx hb dX11_row_39 (by decide) ?_
        refine lv_iinc (v := (k_a + 4)) (lv' := [(3, .int (k_a + 4)), (1, .int (k_b + 1)), (2, .int k_c), (0, .ref a_o)]) hx hb dX11_row_45 hl (k := 2) rfl rfl (by decide) rfl (fun ls hl => ?_)
        have t_24 : (k_a + 4).toInt = k_a.toInt + 4 := g5_iadd (a := k_a.toInt) (b := 4) rfl (by decide) (by omega) (by omega)
        refine lv_goto (tgt := 20) hx hb dX11_row_48 (by decide) ?_
        exact ih_20_10 ((k_a + 4), (k_b + 1), k_c, z17, z18) ls H locs (show Int.toNat (404 - (k_a + 4).toInt) < Int.toNat (404 - k_a.toInt) from g_up (show k_a.toInt < (k_a + 4).toInt by omega) (show k_a.toInt < 404 by omega)) ⟨lv_sub hl [1, 2, 0, 3] rfl, hP.sub [1, 0, 2, 3, 4, 5, 6] rfl, hD.sub [1, 0, 2, 3, 4, 5, 6] (by decide) rfl, hS, ⟨by omega, by omega⟩, ⟨by omega, by omega⟩, i_4, by omega, by omega, by omega, by rw [show ((k_a + 4).toInt / 4).toNat = (k_a.toInt / 4).toNat + 1 by omega, rwC_S (k := k_a.toInt.toNat) (by omega), ← i_8, ← i_14]; omega, by rw [show ((k_a + 4).toInt / 4).toNat = (k_a.toInt / 4).toNat + 1 by omega, rwS_S (k := k_a.toInt.toNat) (by omega)]; exact i_15⟩
  ·
    have i_1 : e_tl.toInt = 0 := by have z := g5_neN (a := e_tl.toInt) (b := 0) (by rfl) (by decide) c_1; omega
    refine lv_aload_n hx hb dX11_row_7 rfl (lv_at hl 0 rfl) ?_
    refine lv_bipush (v := (-6)) hx hb dX11_row_8 (by decide) ?_
    obtain ⟨hPc, hDc, hFc⟩ := g5_sub3 (wc := [(a_o, (oc11 a_h a_im a_ke a_k a_wa a_th a_ha a_wk a_r a_x e_tl e_fd e_fpl a_wd e_wn a_rf e_lr)), (a_rf, (arI G 5 f_rf))]) hP hD hS hA [0, 1] (by decide) rfl
    refine va_calli (va_runV (As := [.int (-6)]) (rest := []) ⟨hx, hb, hml, hown, hts⟩ (x_refuse6 l G a_o a_rf a_h a_im a_ke a_k a_wa a_th a_ha a_wk a_r a_x a_wd s.heap.size e_tl e_fd e_fpl e_wn e_lr f_rf h_e_tl h_e_wn) (cwV 1 hts gV_X11_104 rfl rfl rfl hv_X11_refuse ⟨Nat.le_of_ble_eq_true rfl, Nat.le_of_ble_eq_true rfl⟩) (g5_preV hPc hK hDc hN hT hS hFc (ci := 11) (q0 := 0) rfl rfl) rfl rfl hl.1 rfl (lv_room (Nat.le_of_ble_eq_true rfl)) dX11_row_10 ⟨Nat.le_of_ble_eq_true rfl, Nat.le_of_ble_eq_true rfl⟩) hS (fun q _ h => hFc q h) hFc (fun r u t H1 locs ht hvm hw hB hz1 hk1 hS => ?_)
    obtain ⟨hP1, hD1⟩ := hB
    rw [ht] at hP1
    obtain ⟨z25, rfl, rfl⟩ := hw
    obtain ⟨hP, hD⟩ := va_join (wr := [(a_h, (oc1 e_wa e_le e_st e_fo e_lc a_l a_g a_b a_s a_p a_w e_gb a_bb)), (a_b, (oc6 5 24 a_bn e_b)), (a_bn, (arI G 120 f_b)), (a_bb, (arJ G 24 f_bb)), (a_x, (arI G 400 f_x))]) hP hD [0, 1] [2, 3, 4, 5, 6] rfl rfl (by decide) (by decide) hk1 hFc hP1 hD1
    generalize H1 = H at hP hS ⊢
    refine g5_rs [(a_h, (oc1 e_wa e_le e_st e_fo e_lc a_l a_g a_b a_s a_p a_w e_gb a_bb)), (a_b, (oc6 5 24 a_bn e_b)), (a_bn, (arI G 120 f_b)), (a_bb, (arJ G 24 f_bb)), (a_x, (arI G 400 f_x)), (a_o, (oc11 a_h a_im a_ke a_k a_wa a_th a_ha a_wk a_r a_x e_tl e_fd e_fpl a_wd e_wn a_rf (-6))), (a_rf, (arI G 5 z25))] hP hD (fun hP hD => ?_)
    exact W.iret (v := (-6)) hx hb hr (fun t ht hW => ⟨⟨(-6), [(a_o, (oc11 a_h a_im a_ke a_k a_wa a_th a_ha a_wk a_r a_x e_tl e_fd e_fpl a_wd e_wn a_rf (-6))), (a_rf, (arI G 5 z25)), (a_h, (oc1 e_wa e_le e_st e_fo e_lc a_l a_g a_b a_s a_p a_w e_gb a_bb)), (a_b, (oc6 5 24 a_bn e_b)), (a_bn, (arI G 120 f_b)), (a_bb, (arJ G 24 f_bb)), (a_x, (arI G 400 f_x))], rfl, ⟨(-6), (-6), z25, e_tl, e_fd, f_b, f_bb, h_e_tl, g5_toc (n := 0) (by decide) (by omega), (row_6 (t := f_x) (td := e_tl) (fd := e_fd) (f := f_ro) (by omega)).1.symm, by rw [(row_6 (t := f_x) (td := e_tl) (fd := e_fd) (f := f_ro) (by omega)).2.1]; exact e_hb, (row_6 (t := f_x) (td := e_tl) (fd := e_fd) (f := f_ro) (by omega)).2.2.symm, rfl, rfl⟩, by rw [ht]; exact hP.sub [5, 6, 0, 1, 2, 3, 4] rfl, hD.sub [5, 6, 0, 1, 2, 3, 4] (by decide) rfl⟩, hS.F ht⟩) hS.2.2 dX11_row_13
