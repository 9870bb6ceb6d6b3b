set_option maxHeartbeats 4000000 in
set_option maxRecDepth 100000 in
theorem x_glassX (l : Launch) (G : g5_G) (a_o a_rf a_h a_g a_gn a_p a_pn a_im a_ke a_k a_wa a_th a_ha a_wk a_r a_x a_wd a_l a_b a_s a_w a_bb : Nat) (sz : Nat) (e_tl : Int32) (e_fd : Int32) (e_fpl : Int32) (e_wn : Int32) (e_lr : Int32) (e_le : Int32) (e_st : Int32) (e_fo : Int32) (e_lc : Int32) (e_g : Int32) (e_p : Int32) (p_c : Int32) (p_s : Int32) (p_l : Int32) (p_d : Int32) (e_wa : Int64) (e_gb : Int64) (f_rf : Nat → Int32) (f_g : Nat → Int32) (f_p : Nat → Int32) (f_ro : Nat → Int32) (h_e_tl : 0 ≤ e_tl.toInt ∧ e_tl.toInt ≤ 400) (h_e_wn : 0 ≤ e_wn.toInt ∧ e_wn.toInt ≤ 1) (h_e_g : 0 ≤ e_g.toInt ∧ e_g.toInt ≤ 6) (h_e_p : 0 ≤ e_p.toInt ∧ e_p.toInt ≤ 8) (e_gk : gOK f_g e_g.toInt) (e_gi : inT e_gb f_g e_g.toInt) (e_hh : QH e_wa e_le e_st f_ro) (e_hg : QG e_g f_g e_gb f_ro) (e_hp : QP e_p f_p f_ro) : Met l yX11_glass (wsG yX11_glass cX11_glass 6 (some .int)) ({ frames := 3, cells := 0, slots := 0, locals := 67 }) (va_Pc [.ref a_o, .int p_c, .int p_s, .int p_l, .int p_d] (g5_P G [(a_o, (oc11 a_h a_im a_ke a_k a_wa a_th a_ha a_wk a_r a_x e_tl e_fd e_fpl a_wd e_wn a_rf e_lr)), (a_rf, (arI G 5 f_rf)), (a_h, (oc1 e_wa e_le e_st e_fo e_lc a_l a_g a_b a_s a_p a_w e_gb a_bb)), (a_g, (oc6 6 5 a_gn e_g)), (a_gn, (arI G 30 f_g)), (a_p, (oc6 8 5 a_pn e_p)), (a_pn, (arI G 40 f_p))] sz)) (va_Qi (fun (r : Int32) (u : va_W) => (∃ (o_r : Int32) (o_lr : Int32) (o_rf : Nat → Int32) (o_gb : Int64) (o_n : Int32) (o_f : Nat → Int32), (0 ≤ o_n.toInt ∧ o_n.toInt ≤ 6) ∧ (gOK o_f o_n.toInt) ∧ (inT o_gb o_f o_n.toInt) ∧ (o_r = aglass f_ro p_c p_s p_l p_d) ∧ (QG o_n o_f o_gb (sglass f_ro p_c p_s p_l p_d)) ∧ (r = o_r) ∧ (u = [(a_o, (oc11 a_h a_im a_ke a_k a_wa a_th a_ha a_wk a_r a_x e_tl e_fd e_fpl a_wd e_wn a_rf o_lr)), (a_rf, (arI G 5 o_rf)), (a_h, (oc1 e_wa e_le e_st e_fo e_lc a_l a_g a_b a_s a_p a_w o_gb a_bb)), (a_g, (oc6 6 5 a_gn o_n)), (a_gn, (arI G 30 o_f)), (a_p, (oc6 8 5 a_pn e_p)), (a_pn, (arI G 40 f_p))]))) (g5_B G (va_A [(a_o, (oc11 a_h a_im a_ke a_k a_wa a_th a_ha a_wk a_r a_x e_tl e_fd e_fpl a_wd e_wn a_rf e_lr)), (a_rf, (arI G 5 f_rf)), (a_h, (oc1 e_wa e_le e_st e_fo e_lc a_l a_g a_b a_s a_p a_w e_gb a_bb)), (a_g, (oc6 6 5 a_gn e_g)), (a_gn, (arI G 30 f_g)), (a_p, (oc6 8 5 a_pn e_p)), (a_pn, (arI G 40 f_p))] sz)) (va_A [(a_o, (oc11 a_h a_im a_ke a_k a_wa a_th a_ha a_wk a_r a_x e_tl e_fd e_fpl a_wd e_wn a_rf e_lr)), (a_rf, (arI G 5 f_rf)), (a_h, (oc1 e_wa e_le e_st e_fo e_lc a_l a_g a_b a_s a_p a_w e_gb a_bb)), (a_g, (oc6 6 5 a_gn e_g)), (a_gn, (arI G 30 f_g)), (a_p, (oc6 8 5 a_pn e_p)), (a_pn, (arI G 40 f_p))] sz)) 0 0 (va_A [(a_o, (oc11 a_h a_im a_ke a_k a_wa a_th a_ha a_wk a_r a_x e_tl e_fd e_fpl a_wd e_wn a_rf e_lr)), (a_rf, (arI G 5 f_rf)), (a_h, (oc1 e_wa e_le e_st e_fo e_lc a_l a_g a_b a_s a_p a_w e_gb a_bb)), (a_g, (oc6 6 5 a_gn e_g)), (a_gn, (arI G 30 f_g)), (a_p, (oc6 8 5 a_pn e_p)), (a_pn, (arI G 40 f_p))] sz) := by
  refine Met.ofW (cc := cX11_glass) (maxL := 6) (ret := (some .int)) (by decide +kernel) rfl ?_
  intro p e s m args below meth c s₁ B hml hv
  obtain ⟨rfl, hsz, hP, hK, hD0, hN, hT⟩ := hv
  have hx := B.exec
  have hb := B.bytes
  have hr := B.returns
  have hts : ∀ w ∈ tblG, w.before _ s = true := fun w h => atoms_spec (ws := (wsG yX11_glass cX11_glass 6 (some .int))) B.pre w (List.mem_cons_of_mem _ h)
  have hown : s.vm.findClass RX11 = some m.cls := findClass_of_methodNamed B.named
  have hlocks := B.notSynchronized
  subst hsz
  have hD := hD0.self (sz := s.heap.size)
  generalize hAe : va_A [(a_o, (oc11 a_h a_im a_ke a_k a_wa a_th a_ha a_wk a_r a_x e_tl e_fd e_fpl a_wd e_wn a_rf e_lr)), (a_rf, (arI G 5 f_rf)), (a_h, (oc1 e_wa e_le e_st e_fo e_lc a_l a_g a_b a_s a_p a_w e_gb a_bb)), (a_g, (oc6 6 5 a_gn e_g)), (a_gn, (arI G 30 f_g)), (a_p, (oc6 8 5 a_pn e_p)), (a_pn, (arI G 40 f_p))] s.heap.size = A at hD hT ⊢
  have hA : ∀ q : Nat, s.heap.size ≤ q → A q := fun q h => by rw [← hAe]; exact Or.inr h
  have hS : va_S A s.heap s.heap [] := va_S.rf
  replace hP : va_P G.1 vwCl [(a_o, (oc11 a_h a_im a_ke a_k a_wa a_th a_ha a_wk a_r a_x e_tl e_fd e_fpl a_wd e_wn a_rf e_lr)), (a_rf, (arI G 5 f_rf)), (a_h, (oc1 e_wa e_le e_st e_fo e_lc a_l a_g a_b a_s a_p a_w e_gb a_bb)), (a_g, (oc6 6 5 a_gn e_g)), (a_gn, (arI G 30 f_g)), (a_p, (oc6 8 5 a_pn e_p)), (a_pn, (arI G 40 f_p))] s.heap := hP
  have hl := lv_entry ([.ref a_o, .int p_c, .int p_s, .int p_l, .int p_d]) (n := 6) (Nat.le_of_ble_eq_true rfl)
  rw [lg_entry_eq]
  generalize (lg_sl ([.ref a_o, .int p_c, .int p_s, .int p_l, .int p_d]) ++ List.replicate (6 - (lg_sl ([.ref a_o, .int p_c, .int p_s, .int p_l, .int p_d])).length) Slot.unset).toArray = ls at hl ⊢
  replace hl : lv_has ls 6 [(0, .ref a_o), (1, .int p_c), (2, .int p_s), (3, .int p_l), (4, .int p_d)] := hl
  refine lv_iload_n hx hb dX11_glass_0 rfl (lv_at hl 1 rfl) ?_
  obtain ⟨hPc, hDc, hFc⟩ := g5_sub3 (wc := []) hP hD hS hA [] (by decide +kernel) rfl
  refine va_calli (va_runS (As := [.int p_c]) (rest := []) ⟨hx, hb, hml, hown, hts⟩ (x_isCellX l G s.heap.size p_c) (va_cwS 1 hts gS_X11_97 rfl rfl rfl hs_X11_isCell ⟨Nat.le_of_ble_eq_true rfl, Nat.le_of_ble_eq_true rfl⟩) (g5_preS hPc hK hDc hN hT hS hFc) rfl rfl hl.1 rfl (lv_room (Nat.le_of_ble_eq_true rfl)) dX11_glass_1 ⟨Nat.le_of_ble_eq_true rfl, Nat.le_of_ble_eq_true rfl⟩) hS (fun q _ h => hFc q h) hFc (fun r u t H locs ht hvm hw hB hz1 hk1 hS => ?_)
  obtain ⟨hP1, hD1⟩ := hB
  have hP1 := g5_ht ht hP1
  rcases hw with ⟨(i_1 : 0 ≤ p_c.toInt ∧ p_c.toInt ≤ 63), rfl, rfl⟩ | ⟨(i_2 : p_c.toInt < 0 ∨ 63 < p_c.toInt), rfl, rfl⟩
  ·
    have hJ9 := g5_same hP hk1
    clear hP hPc hDc hFc ht hvm hz1 hk1 hP1 hD1
    have hP := hJ9
    clear hJ9
    refine lv_if_eq (tgt := 29) hx hb dX11_glass_4 (by decide +kernel) (fun c_3 => ?_) (fun c_3 => ?_)
    ·
      exact absurd c_3 (by decide +kernel)
    ·
      refine lv_iload_n hx hb dX11_glass_7 rfl (lv_at hl 2 rfl) ?_
      obtain ⟨hPc, hDc, hFc⟩ := g5_sub3 (wc := []) hP hD hS hA [] (by decide +kernel) rfl
      refine va_calli (va_runS (As := [.int p_s]) (rest := []) ⟨hx, hb, hml, hown, hts⟩ (x_isSortX l G H.size p_s) (va_cwS 1 hts gS_X11_124 rfl rfl rfl hs_X11_isSort ⟨Nat.le_of_ble_eq_true rfl, Nat.le_of_ble_eq_true rfl⟩) (g5_preS hPc hK hDc hN hT hS hFc) rfl rfl hl.1 rfl (lv_room (Nat.le_of_ble_eq_true rfl)) dX11_glass_8 ⟨Nat.le_of_ble_eq_true rfl, Nat.le_of_ble_eq_true rfl⟩) hS (fun q _ h => hFc q h) hFc (fun r u t H locs ht hvm hw hB hz1 hk1 hS => ?_)
      obtain ⟨hP1, hD1⟩ := hB
      have hP1 := g5_ht ht hP1
      rcases hw with ⟨(i_4 : 0 ≤ p_s.toInt ∧ p_s.toInt ≤ 5), rfl, rfl⟩ | ⟨(i_5 : p_s.toInt < 0 ∨ 5 < p_s.toInt), rfl, rfl⟩
      ·
        have hJ9 := g5_same hP hk1
        clear hP hPc hDc hFc ht hvm hz1 hk1 hP1 hD1
        have hP := hJ9
        clear hJ9
        refine lv_if_eq (tgt := 29) hx hb dX11_glass_11 (by decide +kernel) (fun c_6 => ?_) (fun c_6 => ?_)
        ·
          exact absurd c_6 (by decide +kernel)
        ·
          refine lv_iload_n hx hb dX11_glass_14 rfl (lv_at hl 3 rfl) ?_
          obtain ⟨hPc, hDc, hFc⟩ := g5_sub3 (wc := []) hP hD hS hA [] (by decide +kernel) rfl
          refine va_calli (va_runS (As := [.int p_l]) (rest := []) ⟨hx, hb, hml, hown, hts⟩ (x_isHourX l G H.size p_l) (va_cwS 1 hts gS_X11_127 rfl rfl rfl hs_X11_isHour ⟨Nat.le_of_ble_eq_true rfl, Nat.le_of_ble_eq_true rfl⟩) (g5_preS hPc hK hDc hN hT hS hFc) rfl rfl hl.1 rfl (lv_room (Nat.le_of_ble_eq_true rfl)) dX11_glass_15 ⟨Nat.le_of_ble_eq_true rfl, Nat.le_of_ble_eq_true rfl⟩) hS (fun q _ h => hFc q h) hFc (fun r u t H locs ht hvm hw hB hz1 hk1 hS => ?_)
          obtain ⟨hP1, hD1⟩ := hB
          have hP1 := g5_ht ht hP1
          rcases hw with ⟨(i_7 : 0 ≤ p_l.toInt ∧ p_l.toInt ≤ 23), rfl, rfl⟩ | ⟨(i_8 : p_l.toInt < 0 ∨ 23 < p_l.toInt), rfl, rfl⟩
          ·
            have hJ9 := g5_same hP hk1
            clear hP hPc hDc hFc ht hvm hz1 hk1 hP1 hD1
            have hP := hJ9
            clear hJ9
            refine lv_if_eq (tgt := 29) hx hb dX11_glass_18 (by decide +kernel) (fun c_9 => ?_) (fun c_9 => ?_)
            ·
              exact absurd c_9 (by decide +kernel)
            ·
              refine lv_iload hx hb dX11_glass_21 (lv_at hl 4 rfl) ?_
              obtain ⟨hPc, hDc, hFc⟩ := g5_sub3 (wc := []) hP hD hS hA [] (by decide +kernel) rfl
              refine va_calli (va_runS (As := [.int p_d]) (rest := []) ⟨hx, hb, hml, hown, hts⟩ (x_isDustX l G H.size p_d) (va_cwS 1 hts gS_X11_130 rfl rfl rfl hs_X11_isDust ⟨Nat.le_of_ble_eq_true rfl, Nat.le_of_ble_eq_true rfl⟩) (g5_preS hPc hK hDc hN hT hS hFc) rfl rfl hl.1 rfl (lv_room (Nat.le_of_ble_eq_true rfl)) dX11_glass_23 ⟨Nat.le_of_ble_eq_true rfl, Nat.le_of_ble_eq_true rfl⟩) hS (fun q _ h => hFc q h) hFc (fun r u t H locs ht hvm hw hB hz1 hk1 hS => ?_)
              obtain ⟨hP1, hD1⟩ := hB
              have hP1 := g5_ht ht hP1
              rcases hw with ⟨(i_10 : 0 ≤ p_d.toInt ∧ p_d.toInt ≤ 10), rfl, rfl⟩ | ⟨(i_11 : p_d.toInt < 0 ∨ 10 < p_d.toInt), rfl, rfl⟩
              ·
                have hJ9 := g5_same hP hk1
                clear hP hPc hDc hFc ht hvm hz1 hk1 hP1 hD1
                have hP := hJ9
                clear hJ9
                refine lv_if_ne (tgt := 35) hx hb dX11_glass_26 (by decide +kernel) (fun c_12 => ?_) (fun c_12 => ?_)
                ·
                  refine lv_aload_n hx hb dX11_glass_35 rfl (lv_at hl 0 rfl) ?_
                  refine va_get (D := G.1) (ci := 11) (v := .ref a_h) (C := RX11) (T := TX11) (N := 17) hx hb hts inG_X11 hown hK hP 0 rfl rfl 0 (by decide +kernel) (hts _ fl_X11_12) (fun _ h9 => h9) rfl dX11_glass_36 ?_
                  refine lv_iload_n hx hb dX11_glass_39 rfl (lv_at hl 1 rfl) ?_
                  obtain ⟨hPc, hDc, hFc⟩ := g5_sub3 (wc := [(a_h, (oc1 e_wa e_le e_st e_fo e_lc a_l a_g a_b a_s a_p a_w e_gb a_bb)), (a_p, (oc6 8 5 a_pn e_p)), (a_pn, (arI G 40 f_p))]) hP hD hS hA [2, 5, 6] (by decide +kernel) rfl
                  refine va_calli (va_runV (As := [.int p_c]) (rest := []) ⟨hx, hb, hml, hown, hts⟩ (h_canHang l G a_h a_p a_pn a_l a_g a_b a_s a_w a_bb H.size e_le e_st e_fo e_lc e_p p_c e_wa e_gb f_p h_e_p i_1) (cwV 1 hts gV_X11_133 rfl rfl rfl hv_X1_canHang ⟨Nat.le_of_ble_eq_true rfl, Nat.le_of_ble_eq_true rfl⟩) (g5_preV hPc hK hDc hN hT hS hFc (ci := 1) (q0 := 0) rfl rfl) rfl rfl hl.1 rfl (lv_room (Nat.le_of_ble_eq_true rfl)) dX11_glass_40 ⟨Nat.le_of_ble_eq_true rfl, Nat.le_of_ble_eq_true rfl⟩) hS (fun q _ h => hFc q h) hFc (fun r u t H locs ht hvm hw hB hz1 hk1 hS => ?_)
                  obtain ⟨hP1, hD1⟩ := hB
                  have hP1 := g5_ht ht hP1
                  rcases hw with ⟨(i_13 : onB (e_wa ||| e_gb) p_c.toInt = false), (i_14 : ∀ r : Int, 0 ≤ r → r < e_p.toInt → tget f_p e_p.toInt 5 r (0 : Int32).toInt ≠ p_c), rfl, rfl⟩ | ⟨(i_15 : onB (e_wa ||| e_gb) p_c.toInt = true ∨ ∃ r : Int, 0 ≤ r ∧ r < e_p.toInt ∧ tget f_p e_p.toInt 5 r (0 : Int32).toInt = p_c), rfl, rfl⟩
                  ·
                    have hJ9 := va_join (wr := [(a_o, (oc11 a_h a_im a_ke a_k a_wa a_th a_ha a_wk a_r a_x e_tl e_fd e_fpl a_wd e_wn a_rf e_lr)), (a_rf, (arI G 5 f_rf)), (a_g, (oc6 6 5 a_gn e_g)), (a_gn, (arI G 30 f_g))]) hP hD [2, 5, 6] [0, 1, 3, 4] rfl rfl (by decide +kernel) (by decide +kernel) hk1 hFc hP1 hD1
                    clear hP hD hPc hDc hFc ht hvm hz1 hk1 hP1 hD1
                    obtain ⟨hP, hD⟩ := hJ9
                    refine g5_rs [(a_o, (oc11 a_h a_im a_ke a_k a_wa a_th a_ha a_wk a_r a_x e_tl e_fd e_fpl a_wd e_wn a_rf e_lr)), (a_rf, (arI G 5 f_rf)), (a_g, (oc6 6 5 a_gn e_g)), (a_gn, (arI G 30 f_g)), (a_h, (oc1 e_wa e_le e_st e_fo e_lc a_l a_g a_b a_s a_p a_w e_gb a_bb)), (a_p, (oc6 8 5 a_pn e_p)), (a_pn, (arI G 40 f_p))] hP hD ?_
                    clear hP hD
                    intro hP hD
                    refine lv_if_ne (tgt := 53) hx hb dX11_glass_43 (by decide +kernel) (fun c_16 => ?_) (fun c_16 => ?_)
                    ·
                      refine lv_aload_n hx hb dX11_glass_53 rfl (lv_at hl 0 rfl) ?_
                      refine va_get (D := G.1) (ci := 11) (v := .ref a_h) (C := RX11) (T := TX11) (N := 17) hx hb hts inG_X11 hown hK hP 0 rfl rfl 0 (by decide +kernel) (hts _ fl_X11_12) (fun _ h9 => h9) rfl dX11_glass_54 ?_
                      refine va_get (D := G.1) (ci := 1) (v := .ref a_g) (C := RX1) (T := TX1) (N := 13) hx hb hts inG_X1 hown hK hP 4 rfl rfl 6 (by decide +kernel) (hts _ fl_X11_136) (fun _ h9 => h9) rfl dX11_glass_57 ?_
                      obtain ⟨hPc, hDc, hFc⟩ := g5_sub3 (wc := [(a_g, (oc6 6 5 a_gn e_g))]) hP hD hS hA [2] (by decide +kernel) rfl
                      refine va_calli (va_runV (As := []) (rest := []) ⟨hx, hb, hml, hown, hts⟩ (t_isFull_G l G a_g a_gn H.size e_g h_e_g) (cwV 0 hts gV_X11_140 rfl rfl rfl hv_X6_isFull ⟨Nat.le_of_ble_eq_true rfl, Nat.le_of_ble_eq_true rfl⟩) (g5_preV hPc hK hDc hN hT hS hFc (ci := 6) (q0 := 0) rfl rfl) rfl rfl hl.1 rfl (lv_room (Nat.le_of_ble_eq_true rfl)) dX11_glass_60 ⟨Nat.le_of_ble_eq_true rfl, Nat.le_of_ble_eq_true rfl⟩) hS (fun q _ h => hFc q h) hFc (fun r u t H locs ht hvm hw hB hz1 hk1 hS => ?_)
                      obtain ⟨hP1, hD1⟩ := hB
                      have hP1 := g5_ht ht hP1
                      rcases hw with ⟨(i_17 : e_g.toInt = 6), rfl, rfl⟩ | ⟨(i_18 : e_g.toInt < 6), rfl, rfl⟩
                      ·
                        have hJ9 := va_join (wr := [(a_o, (oc11 a_h a_im a_ke a_k a_wa a_th a_ha a_wk a_r a_x e_tl e_fd e_fpl a_wd e_wn a_rf e_lr)), (a_rf, (arI G 5 f_rf)), (a_gn, (arI G 30 f_g)), (a_h, (oc1 e_wa e_le e_st e_fo e_lc a_l a_g a_b a_s a_p a_w e_gb a_bb)), (a_p, (oc6 8 5 a_pn e_p)), (a_pn, (arI G 40 f_p))]) hP hD [2] [0, 1, 3, 4, 5, 6] rfl rfl (by decide +kernel) (by decide +kernel) hk1 hFc hP1 hD1
                        clear hP hD hPc hDc hFc ht hvm hz1 hk1 hP1 hD1
                        obtain ⟨hP, hD⟩ := hJ9
                        refine g5_rs [(a_o, (oc11 a_h a_im a_ke a_k a_wa a_th a_ha a_wk a_r a_x e_tl e_fd e_fpl a_wd e_wn a_rf e_lr)), (a_rf, (arI G 5 f_rf)), (a_gn, (arI G 30 f_g)), (a_h, (oc1 e_wa e_le e_st e_fo e_lc a_l a_g a_b a_s a_p a_w e_gb a_bb)), (a_p, (oc6 8 5 a_pn e_p)), (a_pn, (arI G 40 f_p)), (a_g, (oc6 6 5 a_gn e_g))] hP hD ?_
                        clear hP hD
                        intro hP hD
                        refine lv_if_eq (tgt := 73) hx hb dX11_glass_63 (by decide +kernel) (fun c_19 => ?_) (fun c_19 => ?_)
                        ·
                          exact absurd c_19 (by decide +kernel)
                        ·
                          refine lv_aload_n hx hb dX11_glass_66 rfl (lv_at hl 0 rfl) ?_
                          refine lv_bipush (v := (-5)) hx hb dX11_glass_67 (by decide +kernel) ?_
                          obtain ⟨hPc, hDc, hFc⟩ := g5_sub3 (wc := [(a_o, (oc11 a_h a_im a_ke a_k a_wa a_th a_ha a_wk a_r a_x e_tl e_fd e_fpl a_wd e_wn a_rf e_lr)), (a_rf, (arI G 5 f_rf))]) hP hD hS hA [0, 1] (by decide +kernel) rfl
                          refine va_calli (va_runV (As := [.int (-5)]) (rest := []) ⟨hx, hb, hml, hown, hts⟩ (x_refuse5 l G a_o a_rf a_h a_im a_ke a_k a_wa a_th a_ha a_wk a_r a_x a_wd H.size e_tl e_fd e_fpl e_wn e_lr f_rf h_e_tl h_e_wn) (cwV 1 hts gV_X11_104 rfl rfl rfl hv_X11_refuse ⟨Nat.le_of_ble_eq_true rfl, Nat.le_of_ble_eq_true rfl⟩) (g5_preV hPc hK hDc hN hT hS hFc (ci := 11) (q0 := 0) rfl rfl) rfl rfl hl.1 rfl (lv_room (Nat.le_of_ble_eq_true rfl)) dX11_glass_69 ⟨Nat.le_of_ble_eq_true rfl, Nat.le_of_ble_eq_true rfl⟩) hS (fun q _ h => hFc q h) hFc (fun r u t H locs ht hvm hw hB hz1 hk1 hS => ?_)
                          obtain ⟨hP1, hD1⟩ := hB
                          have hP1 := g5_ht ht hP1
                          obtain ⟨z20, rfl, rfl⟩ := hw
                          have hJ9 := va_join (wr := [(a_gn, (arI G 30 f_g)), (a_h, (oc1 e_wa e_le e_st e_fo e_lc a_l a_g a_b a_s a_p a_w e_gb a_bb)), (a_p, (oc6 8 5 a_pn e_p)), (a_pn, (arI G 40 f_p)), (a_g, (oc6 6 5 a_gn e_g))]) hP hD [0, 1] [2, 3, 4, 5, 6] rfl rfl (by decide +kernel) (by decide +kernel) hk1 hFc hP1 hD1
                          clear hP hD hPc hDc hFc ht hvm hz1 hk1 hP1 hD1
                          obtain ⟨hP, hD⟩ := hJ9
                          refine g5_rs [(a_gn, (arI G 30 f_g)), (a_h, (oc1 e_wa e_le e_st e_fo e_lc a_l a_g a_b a_s a_p a_w e_gb a_bb)), (a_p, (oc6 8 5 a_pn e_p)), (a_pn, (arI G 40 f_p)), (a_g, (oc6 6 5 a_gn e_g)), (a_o, (oc11 a_h a_im a_ke a_k a_wa a_th a_ha a_wk a_r a_x e_tl e_fd e_fpl a_wd e_wn a_rf (-5))), (a_rf, (arI G 5 z20))] hP hD ?_
                          clear hP hD
                          intro hP hD
                          exact W.iret (v := (-5)) hx hb hr (fun t ht hW => ⟨⟨(-5), [(a_o, (oc11 a_h a_im a_ke a_k a_wa a_th a_ha a_wk a_r a_x e_tl e_fd e_fpl a_wd e_wn a_rf (-5))), (a_rf, (arI G 5 z20)), (a_h, (oc1 e_wa e_le e_st e_fo e_lc a_l a_g a_b a_s a_p a_w e_gb a_bb)), (a_g, (oc6 6 5 a_gn e_g)), (a_gn, (arI G 30 f_g)), (a_p, (oc6 8 5 a_pn e_p)), (a_pn, (arI G 40 f_p))], rfl, ⟨(-5), (-5), z20, e_gb, e_g, f_g, h_e_g, e_gk, e_gi, (glass_5 (f := f_ro) (c := p_c) (s := p_s) (l := p_l) (d := p_d) (by unfold okG; omega) (cn_y e_hh e_hg e_hp ⟨by omega, by omega⟩ i_13 i_14) (by rw [e_hg.2.1]; omega)).1.symm, by rw [(glass_5 (f := f_ro) (c := p_c) (s := p_s) (l := p_l) (d := p_d) (by unfold okG; omega) (cn_y e_hh e_hg e_hp ⟨by omega, by omega⟩ i_13 i_14) (by rw [e_hg.2.1]; omega)).2]; exact e_hg, rfl, rfl⟩, by rw [ht]; exact hP.sub [5, 6, 1, 4, 0, 2, 3] rfl, hD.sub [5, 6, 1, 4, 0, 2, 3] (by decide +kernel) rfl⟩, hS.F ht⟩) hS.2.2 dX11_glass_72
                      ·
                        have hJ9 := va_join (wr := [(a_o, (oc11 a_h a_im a_ke a_k a_wa a_th a_ha a_wk a_r a_x e_tl e_fd e_fpl a_wd e_wn a_rf e_lr)), (a_rf, (arI G 5 f_rf)), (a_gn, (arI G 30 f_g)), (a_h, (oc1 e_wa e_le e_st e_fo e_lc a_l a_g a_b a_s a_p a_w e_gb a_bb)), (a_p, (oc6 8 5 a_pn e_p)), (a_pn, (arI G 40 f_p))]) hP hD [2] [0, 1, 3, 4, 5, 6] rfl rfl (by decide +kernel) (by decide +kernel) hk1 hFc hP1 hD1
                        clear hP hD hPc hDc hFc ht hvm hz1 hk1 hP1 hD1
                        obtain ⟨hP, hD⟩ := hJ9
                        refine g5_rs [(a_o, (oc11 a_h a_im a_ke a_k a_wa a_th a_ha a_wk a_r a_x e_tl e_fd e_fpl a_wd e_wn a_rf e_lr)), (a_rf, (arI G 5 f_rf)), (a_gn, (arI G 30 f_g)), (a_h, (oc1 e_wa e_le e_st e_fo e_lc a_l a_g a_b a_s a_p a_w e_gb a_bb)), (a_p, (oc6 8 5 a_pn e_p)), (a_pn, (arI G 40 f_p)), (a_g, (oc6 6 5 a_gn e_g))] hP hD ?_
                        clear hP hD
                        intro hP hD
                        refine lv_if_eq (tgt := 73) hx hb dX11_glass_63 (by decide +kernel) (fun c_21 => ?_) (fun c_21 => ?_)
                        ·
                          refine lv_aload_n hx hb dX11_glass_73 rfl (lv_at hl 0 rfl) ?_
                          refine va_get (D := G.1) (ci := 11) (v := .ref a_h) (C := RX11) (T := TX11) (N := 17) hx hb hts inG_X11 hown hK hP 0 rfl rfl 0 (by decide +kernel) (hts _ fl_X11_12) (fun _ h9 => h9) rfl dX11_glass_74 ?_
                          refine va_get (D := G.1) (ci := 1) (v := .ref a_g) (C := RX1) (T := TX1) (N := 13) hx hb hts inG_X1 hown hK hP 3 rfl rfl 6 (by decide +kernel) (hts _ fl_X11_136) (fun _ h9 => h9) rfl dX11_glass_77 ?_
                          refine lv_iconst (v := 0) hx hb dX11_glass_80 (by decide +kernel) ?_
                          refine W.eq (g2 := F0 m 81 ls [.int 0, .ref a_g]) rfl ?_
                          obtain ⟨hPc, hDc, hFc⟩ := g5_sub3 (wc := [(a_g, (oc6 6 5 a_gn e_g)), (a_gn, (arI G 30 f_g))]) hP hD hS hA [6, 2] (by decide +kernel) rfl
                          refine va_calli (va_runV (As := [.int 0]) (rest := []) ⟨hx, hb, hml, hown, hts⟩ (t_open_G l G a_g a_gn H.size e_g 0 f_g h_e_g) (cwV 1 hts gV_X11_146 rfl rfl rfl hv_X6_open ⟨Nat.le_of_ble_eq_true rfl, Nat.le_of_ble_eq_true rfl⟩) (g5_preV hPc hK hDc hN hT hS hFc (ci := 6) (q0 := 0) rfl rfl) rfl rfl hl.1 rfl (lv_room (Nat.le_of_ble_eq_true rfl)) dX11_glass_81 ⟨Nat.le_of_ble_eq_true rfl, Nat.le_of_ble_eq_true rfl⟩) hS (fun q _ h => hFc q h) hFc (fun r u t H locs ht hvm hw hB hz1 hk1 hS => ?_)
                          obtain ⟨hP1, hD1⟩ := hB
                          have hP1 := g5_ht ht hP1
                          rcases hw with ⟨(i_22 : e_g.toInt = 6), rfl, rfl⟩ | ⟨z26, (i_23 : e_g.toInt < 6), (i_24 : (e_g + 1).toInt = e_g.toInt + 1), (i_25 : z26 = tfil f_g e_g.toInt 5 (0 : Int32) 5), y27, rfl⟩
                          ·
                            omega
                          ·
                            have hJ9 := va_join (wr := [(a_o, (oc11 a_h a_im a_ke a_k a_wa a_th a_ha a_wk a_r a_x e_tl e_fd e_fpl a_wd e_wn a_rf e_lr)), (a_rf, (arI G 5 f_rf)), (a_h, (oc1 e_wa e_le e_st e_fo e_lc a_l a_g a_b a_s a_p a_w e_gb a_bb)), (a_p, (oc6 8 5 a_pn e_p)), (a_pn, (arI G 40 f_p))]) hP hD [6, 2] [0, 1, 3, 4, 5] rfl rfl (by decide +kernel) (by decide +kernel) hk1 hFc hP1 hD1
                            clear hP hD hPc hDc hFc ht hvm hz1 hk1 hP1 hD1
                            obtain ⟨hP, hD⟩ := hJ9
                            refine g5_rs [(a_o, (oc11 a_h a_im a_ke a_k a_wa a_th a_ha a_wk a_r a_x e_tl e_fd e_fpl a_wd e_wn a_rf e_lr)), (a_rf, (arI G 5 f_rf)), (a_h, (oc1 e_wa e_le e_st e_fo e_lc a_l a_g a_b a_s a_p a_w e_gb a_bb)), (a_p, (oc6 8 5 a_pn e_p)), (a_pn, (arI G 40 f_p)), (a_g, (oc6 6 5 a_gn (e_g + 1))), (a_gn, (arI G 30 z26))] hP hD ?_
                            clear hP hD
                            intro hP hD
                            refine g5_ti (v := e_g) y27 ?_
                            refine lv_istore (lv' := [(5, .int e_g), (0, .ref a_o), (1, .int p_c), (2, .int p_s), (3, .int p_l), (4, .int p_d)]) hx hb dX11_glass_84 hl (by decide +kernel) rfl ?_
                            clear hl
                            intro ls hl
                            refine lv_aload_n hx hb dX11_glass_86 rfl (lv_at hl 1 rfl) ?_
                            refine va_get (D := G.1) (ci := 11) (v := .ref a_h) (C := RX11) (T := TX11) (N := 17) hx hb hts inG_X11 hown hK hP 0 rfl rfl 0 (by decide +kernel) (hts _ fl_X11_12) (fun _ h9 => h9) rfl dX11_glass_87 ?_
                            refine va_get (D := G.1) (ci := 1) (v := .ref a_g) (C := RX1) (T := TX1) (N := 13) hx hb hts inG_X1 hown hK hP 2 rfl rfl 6 (by decide +kernel) (hts _ fl_X11_136) (fun _ h9 => h9) rfl dX11_glass_90 ?_
                            refine W.eq (g2 := F0 m 93 ls [.ref a_g]) rfl ?_
                            refine lv_iload hx hb dX11_glass_93 (lv_at hl 0 rfl) ?_
                            refine lv_iconst (v := 0) hx hb dX11_glass_95 (by decide +kernel) ?_
                            refine lv_iload_n hx hb dX11_glass_96 rfl (lv_at hl 2 rfl) ?_
                            obtain ⟨hPc, hDc, hFc⟩ := g5_sub3 (wc := [(a_g, (oc6 6 5 a_gn (e_g + 1))), (a_gn, (arI G 30 z26))]) hP hD hS hA [5, 6] (by decide +kernel) rfl
                            refine va_callv (va_runV (As := [.int e_g, .int 0, .int p_c]) (rest := []) ⟨hx, hb, hml, hown, hts⟩ (t_set_G l G a_g a_gn H.size (e_g + 1) e_g 0 p_c z26 ⟨by omega, by omega⟩) (cwV 3 hts gV_X11_149 rfl rfl rfl hv_X6_set ⟨Nat.le_of_ble_eq_true rfl, Nat.le_of_ble_eq_true rfl⟩) (g5_preV hPc hK hDc hN hT hS hFc (ci := 6) (q0 := 0) rfl rfl) rfl rfl hl.1 rfl (lv_room (Nat.le_of_ble_eq_true rfl)) dX11_glass_97 ⟨Nat.le_of_ble_eq_true rfl, Nat.le_of_ble_eq_true rfl⟩) hS (fun q _ h => hFc q h) hFc (fun u t H locs ht hvm hw hB hz1 hk1 hS => ?_)
                            obtain ⟨hP1, hD1⟩ := hB
                            have hP1 := g5_ht ht hP1
                            obtain ⟨z29, (i_28 : z29 = tset z26 (e_g + 1).toInt 5 e_g.toInt (0 : Int32).toInt p_c), rfl⟩ := hw
                            have hJ9 := va_join (wr := [(a_o, (oc11 a_h a_im a_ke a_k a_wa a_th a_ha a_wk a_r a_x e_tl e_fd e_fpl a_wd e_wn a_rf e_lr)), (a_rf, (arI G 5 f_rf)), (a_h, (oc1 e_wa e_le e_st e_fo e_lc a_l a_g a_b a_s a_p a_w e_gb a_bb)), (a_p, (oc6 8 5 a_pn e_p)), (a_pn, (arI G 40 f_p))]) hP hD [5, 6] [0, 1, 2, 3, 4] rfl rfl (by decide +kernel) (by decide +kernel) hk1 hFc hP1 hD1
                            clear hP hD hPc hDc hFc ht hvm hz1 hk1 hP1 hD1
                            obtain ⟨hP, hD⟩ := hJ9
                            refine g5_rs [(a_o, (oc11 a_h a_im a_ke a_k a_wa a_th a_ha a_wk a_r a_x e_tl e_fd e_fpl a_wd e_wn a_rf e_lr)), (a_rf, (arI G 5 f_rf)), (a_h, (oc1 e_wa e_le e_st e_fo e_lc a_l a_g a_b a_s a_p a_w e_gb a_bb)), (a_p, (oc6 8 5 a_pn e_p)), (a_pn, (arI G 40 f_p)), (a_g, (oc6 6 5 a_gn (e_g + 1))), (a_gn, (arI G 30 z29))] hP hD ?_
                            clear hP hD
                            intro hP hD
                            refine lv_aload_n hx hb dX11_glass_100 rfl (lv_at hl 1 rfl) ?_
                            refine W.eq (g2 := F0 m 101 ls [.ref a_o]) rfl ?_
                            refine va_get (D := G.1) (ci := 11) (v := .ref a_h) (C := RX11) (T := TX11) (N := 17) hx hb hts inG_X11 hown hK hP 0 rfl rfl 0 (by decide +kernel) (hts _ fl_X11_12) (fun _ h9 => h9) rfl dX11_glass_101 ?_
                            refine va_get (D := G.1) (ci := 1) (v := .ref a_g) (C := RX1) (T := TX1) (N := 13) hx hb hts inG_X1 hown hK hP 2 rfl rfl 6 (by decide +kernel) (hts _ fl_X11_136) (fun _ h9 => h9) rfl dX11_glass_104 ?_
                            refine lv_iload hx hb dX11_glass_107 (lv_at hl 0 rfl) ?_
                            refine lv_iconst (v := 1) hx hb dX11_glass_109 (by decide +kernel) ?_
                            refine lv_iload_n hx hb dX11_glass_110 rfl (lv_at hl 3 rfl) ?_
                            refine W.eq (g2 := F0 m 111 ls [.int p_s, .int 1, .int e_g, .ref a_g]) rfl ?_
                            obtain ⟨hPc, hDc, hFc⟩ := g5_sub3 (wc := [(a_g, (oc6 6 5 a_gn (e_g + 1))), (a_gn, (arI G 30 z29))]) hP hD hS hA [5, 6] (by decide +kernel) rfl
                            refine va_callv (va_runV (As := [.int e_g, .int 1, .int p_s]) (rest := []) ⟨hx, hb, hml, hown, hts⟩ (t_set_G l G a_g a_gn H.size (e_g + 1) e_g 1 p_s z29 ⟨by omega, by omega⟩) (cwV 3 hts gV_X11_149 rfl rfl rfl hv_X6_set ⟨Nat.le_of_ble_eq_true rfl, Nat.le_of_ble_eq_true rfl⟩) (g5_preV hPc hK hDc hN hT hS hFc (ci := 6) (q0 := 0) rfl rfl) rfl rfl hl.1 rfl (lv_room (Nat.le_of_ble_eq_true rfl)) dX11_glass_111 ⟨Nat.le_of_ble_eq_true rfl, Nat.le_of_ble_eq_true rfl⟩) hS (fun q _ h => hFc q h) hFc (fun u t H locs ht hvm hw hB hz1 hk1 hS => ?_)
                            obtain ⟨hP1, hD1⟩ := hB
                            have hP1 := g5_ht ht hP1
                            obtain ⟨z31, (i_30 : z31 = tset z29 (e_g + 1).toInt 5 e_g.toInt (1 : Int32).toInt p_s), rfl⟩ := hw
                            have hJ9 := va_join (wr := [(a_o, (oc11 a_h a_im a_ke a_k a_wa a_th a_ha a_wk a_r a_x e_tl e_fd e_fpl a_wd e_wn a_rf e_lr)), (a_rf, (arI G 5 f_rf)), (a_h, (oc1 e_wa e_le e_st e_fo e_lc a_l a_g a_b a_s a_p a_w e_gb a_bb)), (a_p, (oc6 8 5 a_pn e_p)), (a_pn, (arI G 40 f_p))]) hP hD [5, 6] [0, 1, 2, 3, 4] rfl rfl (by decide +kernel) (by decide +kernel) hk1 hFc hP1 hD1
                            clear hP hD hPc hDc hFc ht hvm hz1 hk1 hP1 hD1
                            obtain ⟨hP, hD⟩ := hJ9
                            refine g5_rs [(a_o, (oc11 a_h a_im a_ke a_k a_wa a_th a_ha a_wk a_r a_x e_tl e_fd e_fpl a_wd e_wn a_rf e_lr)), (a_rf, (arI G 5 f_rf)), (a_h, (oc1 e_wa e_le e_st e_fo e_lc a_l a_g a_b a_s a_p a_w e_gb a_bb)), (a_p, (oc6 8 5 a_pn e_p)), (a_pn, (arI G 40 f_p)), (a_g, (oc6 6 5 a_gn (e_g + 1))), (a_gn, (arI G 30 z31))] hP hD ?_
                            clear hP hD
                            intro hP hD
                            refine lv_aload_n hx hb dX11_glass_114 rfl (lv_at hl 1 rfl) ?_
                            refine va_get (D := G.1) (ci := 11) (v := .ref a_h) (C := RX11) (T := TX11) (N := 17) hx hb hts inG_X11 hown hK hP 0 rfl rfl 0 (by decide +kernel) (hts _ fl_X11_12) (fun _ h9 => h9) rfl dX11_glass_115 ?_
                            refine va_get (D := G.1) (ci := 1) (v := .ref a_g) (C := RX1) (T := TX1) (N := 13) hx hb hts inG_X1 hown hK hP 2 rfl rfl 6 (by decide +kernel) (hts _ fl_X11_136) (fun _ h9 => h9) rfl dX11_glass_118 ?_
                            refine lv_iload hx hb dX11_glass_121 (lv_at hl 0 rfl) ?_
                            refine W.eq (g2 := F0 m 123 ls [.int e_g, .ref a_g]) rfl ?_
                            refine lv_iconst (v := 2) hx hb dX11_glass_123 (by decide +kernel) ?_
                            refine lv_iload_n hx hb dX11_glass_124 rfl (lv_at hl 4 rfl) ?_
                            obtain ⟨hPc, hDc, hFc⟩ := g5_sub3 (wc := [(a_g, (oc6 6 5 a_gn (e_g + 1))), (a_gn, (arI G 30 z31))]) hP hD hS hA [5, 6] (by decide +kernel) rfl
                            refine va_callv (va_runV (As := [.int e_g, .int 2, .int p_l]) (rest := []) ⟨hx, hb, hml, hown, hts⟩ (t_set_G l G a_g a_gn H.size (e_g + 1) e_g 2 p_l z31 ⟨by omega, by omega⟩) (cwV 3 hts gV_X11_149 rfl rfl rfl hv_X6_set ⟨Nat.le_of_ble_eq_true rfl, Nat.le_of_ble_eq_true rfl⟩) (g5_preV hPc hK hDc hN hT hS hFc (ci := 6) (q0 := 0) rfl rfl) rfl rfl hl.1 rfl (lv_room (Nat.le_of_ble_eq_true rfl)) dX11_glass_125 ⟨Nat.le_of_ble_eq_true rfl, Nat.le_of_ble_eq_true rfl⟩) hS (fun q _ h => hFc q h) hFc (fun u t H locs ht hvm hw hB hz1 hk1 hS => ?_)
                            obtain ⟨hP1, hD1⟩ := hB
                            have hP1 := g5_ht ht hP1
                            obtain ⟨z33, (i_32 : z33 = tset z31 (e_g + 1).toInt 5 e_g.toInt (2 : Int32).toInt p_l), rfl⟩ := hw
                            have hJ9 := va_join (wr := [(a_o, (oc11 a_h a_im a_ke a_k a_wa a_th a_ha a_wk a_r a_x e_tl e_fd e_fpl a_wd e_wn a_rf e_lr)), (a_rf, (arI G 5 f_rf)), (a_h, (oc1 e_wa e_le e_st e_fo e_lc a_l a_g a_b a_s a_p a_w e_gb a_bb)), (a_p, (oc6 8 5 a_pn e_p)), (a_pn, (arI G 40 f_p))]) hP hD [5, 6] [0, 1, 2, 3, 4] rfl rfl (by decide +kernel) (by decide +kernel) hk1 hFc hP1 hD1
                            clear hP hD hPc hDc hFc ht hvm hz1 hk1 hP1 hD1
                            obtain ⟨hP, hD⟩ := hJ9
                            refine g5_rs [(a_o, (oc11 a_h a_im a_ke a_k a_wa a_th a_ha a_wk a_r a_x e_tl e_fd e_fpl a_wd e_wn a_rf e_lr)), (a_rf, (arI G 5 f_rf)), (a_h, (oc1 e_wa e_le e_st e_fo e_lc a_l a_g a_b a_s a_p a_w e_gb a_bb)), (a_p, (oc6 8 5 a_pn e_p)), (a_pn, (arI G 40 f_p)), (a_g, (oc6 6 5 a_gn (e_g + 1))), (a_gn, (arI G 30 z33))] hP hD ?_
                            clear hP hD
                            intro hP hD
                            refine lv_aload_n hx hb dX11_glass_128 rfl (lv_at hl 1 rfl) ?_
                            refine va_get (D := G.1) (ci := 11) (v := .ref a_h) (C := RX11) (T := TX11) (N := 17) hx hb hts inG_X11 hown hK hP 0 rfl rfl 0 (by decide +kernel) (hts _ fl_X11_12) (fun _ h9 => h9) rfl dX11_glass_129 ?_
                            refine W.eq (g2 := F0 m 132 ls [.ref a_h]) rfl ?_
                            refine va_get (D := G.1) (ci := 1) (v := .ref a_g) (C := RX1) (T := TX1) (N := 13) hx hb hts inG_X1 hown hK hP 2 rfl rfl 6 (by decide +kernel) (hts _ fl_X11_136) (fun _ h9 => h9) rfl dX11_glass_132 ?_
                            refine lv_iload hx hb dX11_glass_135 (lv_at hl 0 rfl) ?_
                            refine lv_iconst (v := 3) hx hb dX11_glass_137 (by decide +kernel) ?_
                            refine lv_iload hx hb dX11_glass_138 (lv_at hl 5 rfl) ?_
                            obtain ⟨hPc, hDc, hFc⟩ := g5_sub3 (wc := [(a_g, (oc6 6 5 a_gn (e_g + 1))), (a_gn, (arI G 30 z33))]) hP hD hS hA [5, 6] (by decide +kernel) rfl
                            refine va_callv (va_runV (As := [.int e_g, .int 3, .int p_d]) (rest := []) ⟨hx, hb, hml, hown, hts⟩ (t_set_G l G a_g a_gn H.size (e_g + 1) e_g 3 p_d z33 ⟨by omega, by omega⟩) (cwV 3 hts gV_X11_149 rfl rfl rfl hv_X6_set ⟨Nat.le_of_ble_eq_true rfl, Nat.le_of_ble_eq_true rfl⟩) (g5_preV hPc hK hDc hN hT hS hFc (ci := 6) (q0 := 0) rfl rfl) rfl rfl hl.1 rfl (lv_room (Nat.le_of_ble_eq_true rfl)) dX11_glass_140 ⟨Nat.le_of_ble_eq_true rfl, Nat.le_of_ble_eq_true rfl⟩) hS (fun q _ h => hFc q h) hFc (fun u t H locs ht hvm hw hB hz1 hk1 hS => ?_)
                            obtain ⟨hP1, hD1⟩ := hB
                            have hP1 := g5_ht ht hP1
                            obtain ⟨z35, (i_34 : z35 = tset z33 (e_g + 1).toInt 5 e_g.toInt (3 : Int32).toInt p_d), rfl⟩ := hw
                            have hJ9 := va_join (wr := [(a_o, (oc11 a_h a_im a_ke a_k a_wa a_th a_ha a_wk a_r a_x e_tl e_fd e_fpl a_wd e_wn a_rf e_lr)), (a_rf, (arI G 5 f_rf)), (a_h, (oc1 e_wa e_le e_st e_fo e_lc a_l a_g a_b a_s a_p a_w e_gb a_bb)), (a_p, (oc6 8 5 a_pn e_p)), (a_pn, (arI G 40 f_p))]) hP hD [5, 6] [0, 1, 2, 3, 4] rfl rfl (by decide +kernel) (by decide +kernel) hk1 hFc hP1 hD1
                            clear hP hD hPc hDc hFc ht hvm hz1 hk1 hP1 hD1
                            obtain ⟨hP, hD⟩ := hJ9
                            refine g5_rs [(a_o, (oc11 a_h a_im a_ke a_k a_wa a_th a_ha a_wk a_r a_x e_tl e_fd e_fpl a_wd e_wn a_rf e_lr)), (a_rf, (arI G 5 f_rf)), (a_h, (oc1 e_wa e_le e_st e_fo e_lc a_l a_g a_b a_s a_p a_w e_gb a_bb)), (a_p, (oc6 8 5 a_pn e_p)), (a_pn, (arI G 40 f_p)), (a_g, (oc6 6 5 a_gn (e_g + 1))), (a_gn, (arI G 30 z35))] hP hD ?_
                            clear hP hD
                            intro hP hD
                            refine W.eq (g2 := F0 m 143 ls []) rfl ?_
                            refine lv_aload_n hx hb dX11_glass_143 rfl (lv_at hl 1 rfl) ?_
                            refine va_get (D := G.1) (ci := 11) (v := .ref a_h) (C := RX11) (T := TX11) (N := 17) hx hb hts inG_X11 hown hK hP 0 rfl rfl 0 (by decide +kernel) (hts _ fl_X11_12) (fun _ h9 => h9) rfl dX11_glass_144 ?_
                            refine lv_dup hx hb dX11_glass_147 rfl ?_
                            refine va_get (D := G.1) (ci := 1) (v := .long e_gb) (C := RX1) (T := TX1) (N := 13) hx hb hts inG_X1 hown hK hP 2 rfl rfl 11 (by decide +kernel) (hts _ fl_X11_153) (fun _ h9 => h9) rfl dX11_glass_148 ?_
                            refine lv_lconst (v := 1) hx hb dX11_glass_151 (by decide +kernel) ?_
                            refine W.eq (g2 := F0 m 152 ls [.long 1, .long e_gb, .ref a_h]) rfl ?_
                            refine lv_iload_n hx hb dX11_glass_152 rfl (lv_at hl 2 rfl) ?_
                            refine lv_lshl (v := ((1 : Int64) <<< (p_c.toInt64 &&& 63))) hx hb dX11_glass_153 rfl ?_
                            refine lv_lor hx hb dX11_glass_154 ?_
                            refine va_put (D := G.1) (ci := 1) (v := .long (e_gb ||| ((1 : Int64) <<< (p_c.toInt64 &&& 63)))) (ty := .long) (C := RX1) (T := TX1) (N := 13) hx hb hts inG_X1 tyX1 tyX1_ok nmX1 hown hK hP hD hS 2 rfl rfl 11 (by decide +kernel) (hts _ fl_X11_153) (fun _ h9 => h9) rfl (by decide +kernel) rfl rfl (Nat.le_of_ble_eq_true rfl) dX11_glass_155 ?_
                            clear hP hD hS
                            intro H locs hP hD hS
                            refine g5_rs [(a_o, (oc11 a_h a_im a_ke a_k a_wa a_th a_ha a_wk a_r a_x e_tl e_fd e_fpl a_wd e_wn a_rf e_lr)), (a_rf, (arI G 5 f_rf)), (a_h, (oc1 e_wa e_le e_st e_fo e_lc a_l a_g a_b a_s a_p a_w (e_gb ||| ((1 : Int64) <<< (p_c.toInt64 &&& 63))) a_bb)), (a_p, (oc6 8 5 a_pn e_p)), (a_pn, (arI G 40 f_p)), (a_g, (oc6 6 5 a_gn (e_g + 1))), (a_gn, (arI G 30 z35))] hP hD ?_
                            clear hP hD
                            intro hP hD
                            refine lv_aload_n hx hb dX11_glass_158 rfl (lv_at hl 1 rfl) ?_
                            refine W.eq (g2 := F0 m 159 ls [.ref a_o]) rfl ?_
                            refine lv_iload hx hb dX11_glass_159 (lv_at hl 0 rfl) ?_
                            obtain ⟨hPc, hDc, hFc⟩ := g5_sub3 (wc := [(a_o, (oc11 a_h a_im a_ke a_k a_wa a_th a_ha a_wk a_r a_x e_tl e_fd e_fpl a_wd e_wn a_rf e_lr))]) hP hD hS hA [0] (by decide +kernel) rfl
                            refine va_calli (va_runV (As := [.int e_g]) (rest := []) ⟨hx, hb, hml, hown, hts⟩ (x_done l G a_o a_h a_im a_ke a_k a_wa a_th a_ha a_wk a_r a_x a_wd a_rf H.size e_tl e_fd e_fpl e_wn e_lr e_g h_e_tl h_e_wn) (cwV 1 hts gV_X11_121 rfl rfl rfl hv_X11_done ⟨Nat.le_of_ble_eq_true rfl, Nat.le_of_ble_eq_true rfl⟩) (g5_preV hPc hK hDc hN hT hS hFc (ci := 11) (q0 := 0) rfl rfl) rfl rfl hl.1 rfl (lv_room (Nat.le_of_ble_eq_true rfl)) dX11_glass_161 ⟨Nat.le_of_ble_eq_true rfl, Nat.le_of_ble_eq_true rfl⟩) hS (fun q _ h => hFc q h) hFc (fun r u t H locs ht hvm hw hB hz1 hk1 hS => ?_)
                            obtain ⟨hP1, hD1⟩ := hB
                            have hP1 := g5_ht ht hP1
                            obtain ⟨y36, rfl⟩ := hw
                            have hJ9 := va_join (wr := [(a_rf, (arI G 5 f_rf)), (a_h, (oc1 e_wa e_le e_st e_fo e_lc a_l a_g a_b a_s a_p a_w (e_gb ||| ((1 : Int64) <<< (p_c.toInt64 &&& 63))) a_bb)), (a_p, (oc6 8 5 a_pn e_p)), (a_pn, (arI G 40 f_p)), (a_g, (oc6 6 5 a_gn (e_g + 1))), (a_gn, (arI G 30 z35))]) hP hD [0] [1, 2, 3, 4, 5, 6] rfl rfl (by decide +kernel) (by decide +kernel) hk1 hFc hP1 hD1
                            clear hP hD hPc hDc hFc ht hvm hz1 hk1 hP1 hD1
                            obtain ⟨hP, hD⟩ := hJ9
                            refine g5_rs [(a_rf, (arI G 5 f_rf)), (a_h, (oc1 e_wa e_le e_st e_fo e_lc a_l a_g a_b a_s a_p a_w (e_gb ||| ((1 : Int64) <<< (p_c.toInt64 &&& 63))) a_bb)), (a_p, (oc6 8 5 a_pn e_p)), (a_pn, (arI G 40 f_p)), (a_g, (oc6 6 5 a_gn (e_g + 1))), (a_gn, (arI G 30 z35)), (a_o, (oc11 a_h a_im a_ke a_k a_wa a_th a_ha a_wk a_r a_x e_tl e_fd e_fpl a_wd e_wn a_rf 0))] hP hD ?_
                            clear hP hD
                            intro hP hD
                            refine g5_ti (v := e_g) y36 ?_
                            exact W.iret (v := e_g) hx hb hr (fun t ht hW => ⟨⟨e_g, [(a_o, (oc11 a_h a_im a_ke a_k a_wa a_th a_ha a_wk a_r a_x e_tl e_fd e_fpl a_wd e_wn a_rf 0)), (a_rf, (arI G 5 f_rf)), (a_h, (oc1 e_wa e_le e_st e_fo e_lc a_l a_g a_b a_s a_p a_w (e_gb ||| ((1 : Int64) <<< (p_c.toInt64 &&& 63))) a_bb)), (a_g, (oc6 6 5 a_gn (e_g + 1))), (a_gn, (arI G 30 z35)), (a_p, (oc6 8 5 a_pn e_p)), (a_pn, (arI G 40 f_p))], rfl, ⟨e_g, 0, f_rf, (e_gb ||| ((1 : Int64) <<< (p_c.toInt64 &&& 63))), (e_g + 1), z35, ⟨by omega, by omega⟩, by rw [i_34, i_32, i_30, i_28, i_25]; exact g_glass e_gk (by omega) (by omega) (by omega) (by omega) (by omega) (by omega), by rw [i_34, i_32, i_30, i_28, i_25]; exact g_inTglass e_gi (by omega) (by omega) (by omega), by rw [(glass_0 (f := f_ro) (c := p_c) (s := p_s) (l := p_l) (d := p_d) (by unfold okG; omega) (cn_y e_hh e_hg e_hp ⟨by omega, by omega⟩ i_13 i_14) (by rw [e_hg.2.1]; omega)).1]; exact e_hg.2.1.symm, by rw [i_34, i_32, i_30, i_28, i_25]; exact hg_glass e_hg e_gk (by omega) (by omega) (by unfold okG; omega) (cn_y e_hh e_hg e_hp ⟨by omega, by omega⟩ i_13 i_14), rfl, rfl⟩, by rw [ht]; exact hP.sub [6, 0, 1, 4, 5, 2, 3] rfl, hD.sub [6, 0, 1, 4, 5, 2, 3] (by decide +kernel) rfl⟩, hS.F ht⟩) hS.2.2 dX11_glass_164
                        ·
                          exact absurd c_21 (by decide +kernel)
                    ·
                      exact absurd c_16 (by decide +kernel)
                  ·
                    have hJ9 := va_join (wr := [(a_o, (oc11 a_h a_im a_ke a_k a_wa a_th a_ha a_wk a_r a_x e_tl e_fd e_fpl a_wd e_wn a_rf e_lr)), (a_rf, (arI G 5 f_rf)), (a_g, (oc6 6 5 a_gn e_g)), (a_gn, (arI G 30 f_g))]) hP hD [2, 5, 6] [0, 1, 3, 4] rfl rfl (by decide +kernel) (by decide +kernel) hk1 hFc hP1 hD1
                    clear hP hD hPc hDc hFc ht hvm hz1 hk1 hP1 hD1
                    obtain ⟨hP, hD⟩ := hJ9
                    refine g5_rs [(a_o, (oc11 a_h a_im a_ke a_k a_wa a_th a_ha a_wk a_r a_x e_tl e_fd e_fpl a_wd e_wn a_rf e_lr)), (a_rf, (arI G 5 f_rf)), (a_g, (oc6 6 5 a_gn e_g)), (a_gn, (arI G 30 f_g)), (a_h, (oc1 e_wa e_le e_st e_fo e_lc a_l a_g a_b a_s a_p a_w e_gb a_bb)), (a_p, (oc6 8 5 a_pn e_p)), (a_pn, (arI G 40 f_p))] hP hD ?_
                    clear hP hD
                    intro hP hD
                    refine lv_if_ne (tgt := 53) hx hb dX11_glass_43 (by decide +kernel) (fun c_37 => ?_) (fun c_37 => ?_)
                    ·
                      exact absurd c_37 (by decide +kernel)
                    ·
                      refine lv_aload_n hx hb dX11_glass_46 rfl (lv_at hl 0 rfl) ?_
                      refine lv_bipush (v := (-3)) hx hb dX11_glass_47 (by decide +kernel) ?_
                      obtain ⟨hPc, hDc, hFc⟩ := g5_sub3 (wc := [(a_o, (oc11 a_h a_im a_ke a_k a_wa a_th a_ha a_wk a_r a_x e_tl e_fd e_fpl a_wd e_wn a_rf e_lr)), (a_rf, (arI G 5 f_rf))]) hP hD hS hA [0, 1] (by decide +kernel) rfl
                      refine va_calli (va_runV (As := [.int (-3)]) (rest := []) ⟨hx, hb, hml, hown, hts⟩ (x_refuse3 l G a_o a_rf a_h a_im a_ke a_k a_wa a_th a_ha a_wk a_r a_x a_wd H.size e_tl e_fd e_fpl e_wn e_lr f_rf h_e_tl h_e_wn) (cwV 1 hts gV_X11_104 rfl rfl rfl hv_X11_refuse ⟨Nat.le_of_ble_eq_true rfl, Nat.le_of_ble_eq_true rfl⟩) (g5_preV hPc hK hDc hN hT hS hFc (ci := 11) (q0 := 0) rfl rfl) rfl rfl hl.1 rfl (lv_room (Nat.le_of_ble_eq_true rfl)) dX11_glass_49 ⟨Nat.le_of_ble_eq_true rfl, Nat.le_of_ble_eq_true rfl⟩) hS (fun q _ h => hFc q h) hFc (fun r u t H locs ht hvm hw hB hz1 hk1 hS => ?_)
                      obtain ⟨hP1, hD1⟩ := hB
                      have hP1 := g5_ht ht hP1
                      obtain ⟨z38, rfl, rfl⟩ := hw
                      have hJ9 := va_join (wr := [(a_g, (oc6 6 5 a_gn e_g)), (a_gn, (arI G 30 f_g)), (a_h, (oc1 e_wa e_le e_st e_fo e_lc a_l a_g a_b a_s a_p a_w e_gb a_bb)), (a_p, (oc6 8 5 a_pn e_p)), (a_pn, (arI G 40 f_p))]) hP hD [0, 1] [2, 3, 4, 5, 6] rfl rfl (by decide +kernel) (by decide +kernel) hk1 hFc hP1 hD1
                      clear hP hD hPc hDc hFc ht hvm hz1 hk1 hP1 hD1
                      obtain ⟨hP, hD⟩ := hJ9
                      refine g5_rs [(a_g, (oc6 6 5 a_gn e_g)), (a_gn, (arI G 30 f_g)), (a_h, (oc1 e_wa e_le e_st e_fo e_lc a_l a_g a_b a_s a_p a_w e_gb a_bb)), (a_p, (oc6 8 5 a_pn e_p)), (a_pn, (arI G 40 f_p)), (a_o, (oc11 a_h a_im a_ke a_k a_wa a_th a_ha a_wk a_r a_x e_tl e_fd e_fpl a_wd e_wn a_rf (-3))), (a_rf, (arI G 5 z38))] hP hD ?_
                      clear hP hD
                      intro hP hD
                      exact W.iret (v := (-3)) hx hb hr (fun t ht hW => ⟨⟨(-3), [(a_o, (oc11 a_h a_im a_ke a_k a_wa a_th a_ha a_wk a_r a_x e_tl e_fd e_fpl a_wd e_wn a_rf (-3))), (a_rf, (arI G 5 z38)), (a_h, (oc1 e_wa e_le e_st e_fo e_lc a_l a_g a_b a_s a_p a_w e_gb a_bb)), (a_g, (oc6 6 5 a_gn e_g)), (a_gn, (arI G 30 f_g)), (a_p, (oc6 8 5 a_pn e_p)), (a_pn, (arI G 40 f_p))], rfl, ⟨(-3), (-3), z38, e_gb, e_g, f_g, h_e_g, e_gk, e_gi, (glass_3 (f := f_ro) (c := p_c) (s := p_s) (l := p_l) (d := p_d) (by unfold okG; omega) (cn_n e_hh e_hg e_hp ⟨by omega, by omega⟩ i_15)).1.symm, by rw [(glass_3 (f := f_ro) (c := p_c) (s := p_s) (l := p_l) (d := p_d) (by unfold okG; omega) (cn_n e_hh e_hg e_hp ⟨by omega, by omega⟩ i_15)).2]; exact e_hg, rfl, rfl⟩, by rw [ht]; exact hP.sub [5, 6, 2, 0, 1, 3, 4] rfl, hD.sub [5, 6, 2, 0, 1, 3, 4] (by decide +kernel) rfl⟩, hS.F ht⟩) hS.2.2 dX11_glass_52
                ·
                  exact absurd c_12 (by decide +kernel)
              ·
                have hJ9 := g5_same hP hk1
                clear hP hPc hDc hFc ht hvm hz1 hk1 hP1 hD1
                have hP := hJ9
                clear hJ9
                refine lv_if_ne (tgt := 35) hx hb dX11_glass_26 (by decide +kernel) (fun c_39 => ?_) (fun c_39 => ?_)
                ·
                  exact absurd c_39 (by decide +kernel)
                ·
                  refine lv_aload_n hx hb dX11_glass_29 rfl (lv_at hl 0 rfl) ?_
                  refine lv_iconst (v := (-1)) hx hb dX11_glass_30 (by decide +kernel) ?_
                  obtain ⟨hPc, hDc, hFc⟩ := g5_sub3 (wc := [(a_o, (oc11 a_h a_im a_ke a_k a_wa a_th a_ha a_wk a_r a_x e_tl e_fd e_fpl a_wd e_wn a_rf e_lr)), (a_rf, (arI G 5 f_rf))]) hP hD hS hA [0, 1] (by decide +kernel) rfl
                  refine va_calli (va_runV (As := [.int (-1)]) (rest := []) ⟨hx, hb, hml, hown, hts⟩ (x_refuse1 l G a_o a_rf a_h a_im a_ke a_k a_wa a_th a_ha a_wk a_r a_x a_wd H.size e_tl e_fd e_fpl e_wn e_lr f_rf h_e_tl h_e_wn) (cwV 1 hts gV_X11_104 rfl rfl rfl hv_X11_refuse ⟨Nat.le_of_ble_eq_true rfl, Nat.le_of_ble_eq_true rfl⟩) (g5_preV hPc hK hDc hN hT hS hFc (ci := 11) (q0 := 0) rfl rfl) rfl rfl hl.1 rfl (lv_room (Nat.le_of_ble_eq_true rfl)) dX11_glass_31 ⟨Nat.le_of_ble_eq_true rfl, Nat.le_of_ble_eq_true rfl⟩) hS (fun q _ h => hFc q h) hFc (fun r u t H locs ht hvm hw hB hz1 hk1 hS => ?_)
                  obtain ⟨hP1, hD1⟩ := hB
                  have hP1 := g5_ht ht hP1
                  obtain ⟨z40, rfl, rfl⟩ := hw
                  have hJ9 := va_join (wr := [(a_h, (oc1 e_wa e_le e_st e_fo e_lc a_l a_g a_b a_s a_p a_w e_gb a_bb)), (a_g, (oc6 6 5 a_gn e_g)), (a_gn, (arI G 30 f_g)), (a_p, (oc6 8 5 a_pn e_p)), (a_pn, (arI G 40 f_p))]) hP hD [0, 1] [2, 3, 4, 5, 6] rfl rfl (by decide +kernel) (by decide +kernel) hk1 hFc hP1 hD1
                  clear hP hD hPc hDc hFc ht hvm hz1 hk1 hP1 hD1
                  obtain ⟨hP, hD⟩ := hJ9
                  refine g5_rs [(a_h, (oc1 e_wa e_le e_st e_fo e_lc a_l a_g a_b a_s a_p a_w e_gb a_bb)), (a_g, (oc6 6 5 a_gn e_g)), (a_gn, (arI G 30 f_g)), (a_p, (oc6 8 5 a_pn e_p)), (a_pn, (arI G 40 f_p)), (a_o, (oc11 a_h a_im a_ke a_k a_wa a_th a_ha a_wk a_r a_x e_tl e_fd e_fpl a_wd e_wn a_rf (-1))), (a_rf, (arI G 5 z40))] hP hD ?_
                  clear hP hD
                  intro hP hD
                  exact W.iret (v := (-1)) hx hb hr (fun t ht hW => ⟨⟨(-1), [(a_o, (oc11 a_h a_im a_ke a_k a_wa a_th a_ha a_wk a_r a_x e_tl e_fd e_fpl a_wd e_wn a_rf (-1))), (a_rf, (arI G 5 z40)), (a_h, (oc1 e_wa e_le e_st e_fo e_lc a_l a_g a_b a_s a_p a_w e_gb a_bb)), (a_g, (oc6 6 5 a_gn e_g)), (a_gn, (arI G 30 f_g)), (a_p, (oc6 8 5 a_pn e_p)), (a_pn, (arI G 40 f_p))], rfl, ⟨(-1), (-1), z40, e_gb, e_g, f_g, h_e_g, e_gk, e_gi, (glass_1 (f := f_ro) (c := p_c) (s := p_s) (l := p_l) (d := p_d) (by unfold okG; omega)).1.symm, by rw [(glass_1 (f := f_ro) (c := p_c) (s := p_s) (l := p_l) (d := p_d) (by unfold okG; omega)).2]; exact e_hg, rfl, rfl⟩, by rw [ht]; exact hP.sub [5, 6, 0, 1, 2, 3, 4] rfl, hD.sub [5, 6, 0, 1, 2, 3, 4] (by decide +kernel) rfl⟩, hS.F ht⟩) hS.2.2 dX11_glass_34
          ·
            have hJ9 := g5_same hP hk1
            clear hP hPc hDc hFc ht hvm hz1 hk1 hP1 hD1
            have hP := hJ9
            clear hJ9
            refine lv_if_eq (tgt := 29) hx hb dX11_glass_18 (by decide +kernel) (fun c_41 => ?_) (fun c_41 => ?_)
            ·
              refine lv_aload_n hx hb dX11_glass_29 rfl (lv_at hl 0 rfl) ?_
              refine lv_iconst (v := (-1)) hx hb dX11_glass_30 (by decide +kernel) ?_
              obtain ⟨hPc, hDc, hFc⟩ := g5_sub3 (wc := [(a_o, (oc11 a_h a_im a_ke a_k a_wa a_th a_ha a_wk a_r a_x e_tl e_fd e_fpl a_wd e_wn a_rf e_lr)), (a_rf, (arI G 5 f_rf))]) hP hD hS hA [0, 1] (by decide +kernel) rfl
              refine va_calli (va_runV (As := [.int (-1)]) (rest := []) ⟨hx, hb, hml, hown, hts⟩ (x_refuse1 l G a_o a_rf a_h a_im a_ke a_k a_wa a_th a_ha a_wk a_r a_x a_wd H.size e_tl e_fd e_fpl e_wn e_lr f_rf h_e_tl h_e_wn) (cwV 1 hts gV_X11_104 rfl rfl rfl hv_X11_refuse ⟨Nat.le_of_ble_eq_true rfl, Nat.le_of_ble_eq_true rfl⟩) (g5_preV hPc hK hDc hN hT hS hFc (ci := 11) (q0 := 0) rfl rfl) rfl rfl hl.1 rfl (lv_room (Nat.le_of_ble_eq_true rfl)) dX11_glass_31 ⟨Nat.le_of_ble_eq_true rfl, Nat.le_of_ble_eq_true rfl⟩) hS (fun q _ h => hFc q h) hFc (fun r u t H locs ht hvm hw hB hz1 hk1 hS => ?_)
              obtain ⟨hP1, hD1⟩ := hB
              have hP1 := g5_ht ht hP1
              obtain ⟨z42, rfl, rfl⟩ := hw
              have hJ9 := va_join (wr := [(a_h, (oc1 e_wa e_le e_st e_fo e_lc a_l a_g a_b a_s a_p a_w e_gb a_bb)), (a_g, (oc6 6 5 a_gn e_g)), (a_gn, (arI G 30 f_g)), (a_p, (oc6 8 5 a_pn e_p)), (a_pn, (arI G 40 f_p))]) hP hD [0, 1] [2, 3, 4, 5, 6] rfl rfl (by decide +kernel) (by decide +kernel) hk1 hFc hP1 hD1
              clear hP hD hPc hDc hFc ht hvm hz1 hk1 hP1 hD1
              obtain ⟨hP, hD⟩ := hJ9
              refine g5_rs [(a_h, (oc1 e_wa e_le e_st e_fo e_lc a_l a_g a_b a_s a_p a_w e_gb a_bb)), (a_g, (oc6 6 5 a_gn e_g)), (a_gn, (arI G 30 f_g)), (a_p, (oc6 8 5 a_pn e_p)), (a_pn, (arI G 40 f_p)), (a_o, (oc11 a_h a_im a_ke a_k a_wa a_th a_ha a_wk a_r a_x e_tl e_fd e_fpl a_wd e_wn a_rf (-1))), (a_rf, (arI G 5 z42))] hP hD ?_
              clear hP hD
              intro hP hD
              exact W.iret (v := (-1)) hx hb hr (fun t ht hW => ⟨⟨(-1), [(a_o, (oc11 a_h a_im a_ke a_k a_wa a_th a_ha a_wk a_r a_x e_tl e_fd e_fpl a_wd e_wn a_rf (-1))), (a_rf, (arI G 5 z42)), (a_h, (oc1 e_wa e_le e_st e_fo e_lc a_l a_g a_b a_s a_p a_w e_gb a_bb)), (a_g, (oc6 6 5 a_gn e_g)), (a_gn, (arI G 30 f_g)), (a_p, (oc6 8 5 a_pn e_p)), (a_pn, (arI G 40 f_p))], rfl, ⟨(-1), (-1), z42, e_gb, e_g, f_g, h_e_g, e_gk, e_gi, (glass_1 (f := f_ro) (c := p_c) (s := p_s) (l := p_l) (d := p_d) (by unfold okG; omega)).1.symm, by rw [(glass_1 (f := f_ro) (c := p_c) (s := p_s) (l := p_l) (d := p_d) (by unfold okG; omega)).2]; exact e_hg, rfl, rfl⟩, by rw [ht]; exact hP.sub [5, 6, 0, 1, 2, 3, 4] rfl, hD.sub [5, 6, 0, 1, 2, 3, 4] (by decide +kernel) rfl⟩, hS.F ht⟩) hS.2.2 dX11_glass_34
            ·
              exact absurd c_41 (by decide +kernel)
      ·
        have hJ9 := g5_same hP hk1
        clear hP hPc hDc hFc ht hvm hz1 hk1 hP1 hD1
        have hP := hJ9
        clear hJ9
        refine lv_if_eq (tgt := 29) hx hb dX11_glass_11 (by decide +kernel) (fun c_43 => ?_) (fun c_43 => ?_)
        ·
          refine lv_aload_n hx hb dX11_glass_29 rfl (lv_at hl 0 rfl) ?_
          refine lv_iconst (v := (-1)) hx hb dX11_glass_30 (by decide +kernel) ?_
          obtain ⟨hPc, hDc, hFc⟩ := g5_sub3 (wc := [(a_o, (oc11 a_h a_im a_ke a_k a_wa a_th a_ha a_wk a_r a_x e_tl e_fd e_fpl a_wd e_wn a_rf e_lr)), (a_rf, (arI G 5 f_rf))]) hP hD hS hA [0, 1] (by decide +kernel) rfl
          refine va_calli (va_runV (As := [.int (-1)]) (rest := []) ⟨hx, hb, hml, hown, hts⟩ (x_refuse1 l G a_o a_rf a_h a_im a_ke a_k a_wa a_th a_ha a_wk a_r a_x a_wd H.size e_tl e_fd e_fpl e_wn e_lr f_rf h_e_tl h_e_wn) (cwV 1 hts gV_X11_104 rfl rfl rfl hv_X11_refuse ⟨Nat.le_of_ble_eq_true rfl, Nat.le_of_ble_eq_true rfl⟩) (g5_preV hPc hK hDc hN hT hS hFc (ci := 11) (q0 := 0) rfl rfl) rfl rfl hl.1 rfl (lv_room (Nat.le_of_ble_eq_true rfl)) dX11_glass_31 ⟨Nat.le_of_ble_eq_true rfl, Nat.le_of_ble_eq_true rfl⟩) hS (fun q _ h => hFc q h) hFc (fun r u t H locs ht hvm hw hB hz1 hk1 hS => ?_)
          obtain ⟨hP1, hD1⟩ := hB
          have hP1 := g5_ht ht hP1
          obtain ⟨z44, rfl, rfl⟩ := hw
          have hJ9 := va_join (wr := [(a_h, (oc1 e_wa e_le e_st e_fo e_lc a_l a_g a_b a_s a_p a_w e_gb a_bb)), (a_g, (oc6 6 5 a_gn e_g)), (a_gn, (arI G 30 f_g)), (a_p, (oc6 8 5 a_pn e_p)), (a_pn, (arI G 40 f_p))]) hP hD [0, 1] [2, 3, 4, 5, 6] rfl rfl (by decide +kernel) (by decide +kernel) hk1 hFc hP1 hD1
          clear hP hD hPc hDc hFc ht hvm hz1 hk1 hP1 hD1
          obtain ⟨hP, hD⟩ := hJ9
          refine g5_rs [(a_h, (oc1 e_wa e_le e_st e_fo e_lc a_l a_g a_b a_s a_p a_w e_gb a_bb)), (a_g, (oc6 6 5 a_gn e_g)), (a_gn, (arI G 30 f_g)), (a_p, (oc6 8 5 a_pn e_p)), (a_pn, (arI G 40 f_p)), (a_o, (oc11 a_h a_im a_ke a_k a_wa a_th a_ha a_wk a_r a_x e_tl e_fd e_fpl a_wd e_wn a_rf (-1))), (a_rf, (arI G 5 z44))] hP hD ?_
          clear hP hD
          intro hP hD
          exact W.iret (v := (-1)) hx hb hr (fun t ht hW => ⟨⟨(-1), [(a_o, (oc11 a_h a_im a_ke a_k a_wa a_th a_ha a_wk a_r a_x e_tl e_fd e_fpl a_wd e_wn a_rf (-1))), (a_rf, (arI G 5 z44)), (a_h, (oc1 e_wa e_le e_st e_fo e_lc a_l a_g a_b a_s a_p a_w e_gb a_bb)), (a_g, (oc6 6 5 a_gn e_g)), (a_gn, (arI G 30 f_g)), (a_p, (oc6 8 5 a_pn e_p)), (a_pn, (arI G 40 f_p))], rfl, ⟨(-1), (-1), z44, e_gb, e_g, f_g, h_e_g, e_gk, e_gi, (glass_1 (f := f_ro) (c := p_c) (s := p_s) (l := p_l) (d := p_d) (by unfold okG; omega)).1.symm, by rw [(glass_1 (f := f_ro) (c := p_c) (s := p_s) (l := p_l) (d := p_d) (by unfold okG; omega)).2]; exact e_hg, rfl, rfl⟩, by rw [ht]; exact hP.sub [5, 6, 0, 1, 2, 3, 4] rfl, hD.sub [5, 6, 0, 1, 2, 3, 4] (by decide +kernel) rfl⟩, hS.F ht⟩) hS.2.2 dX11_glass_34
        ·
          exact absurd c_43 (by decide +kernel)
  ·
    have hJ9 := g5_same hP hk1
    clear hP hPc hDc hFc ht hvm hz1 hk1 hP1 hD1
    have hP := hJ9
    clear hJ9
    refine lv_if_eq (tgt := 29) hx hb dX11_glass_4 (by decide +kernel) (fun c_45 => ?_) (fun c_45 => ?_)
    ·
      refine lv_aload_n hx hb dX11_glass_29 rfl (lv_at hl 0 rfl) ?_
      refine lv_iconst (v := (-1)) hx hb dX11_glass_30 (by decide +kernel) ?_
      obtain ⟨hPc, hDc, hFc⟩ := g5_sub3 (wc := [(a_o, (oc11 a_h a_im a_ke a_k a_wa a_th a_ha a_wk a_r a_x e_tl e_fd e_fpl a_wd e_wn a_rf e_lr)), (a_rf, (arI G 5 f_rf))]) hP hD hS hA [0, 1] (by decide +kernel) rfl
      refine va_calli (va_runV (As := [.int (-1)]) (rest := []) ⟨hx, hb, hml, hown, hts⟩ (x_refuse1 l G a_o a_rf a_h a_im a_ke a_k a_wa a_th a_ha a_wk a_r a_x a_wd H.size e_tl e_fd e_fpl e_wn e_lr f_rf h_e_tl h_e_wn) (cwV 1 hts gV_X11_104 rfl rfl rfl hv_X11_refuse ⟨Nat.le_of_ble_eq_true rfl, Nat.le_of_ble_eq_true rfl⟩) (g5_preV hPc hK hDc hN hT hS hFc (ci := 11) (q0 := 0) rfl rfl) rfl rfl hl.1 rfl (lv_room (Nat.le_of_ble_eq_true rfl)) dX11_glass_31 ⟨Nat.le_of_ble_eq_true rfl, Nat.le_of_ble_eq_true rfl⟩) hS (fun q _ h => hFc q h) hFc (fun r u t H locs ht hvm hw hB hz1 hk1 hS => ?_)
      obtain ⟨hP1, hD1⟩ := hB
      have hP1 := g5_ht ht hP1
      obtain ⟨z46, rfl, rfl⟩ := hw
      have hJ9 := va_join (wr := [(a_h, (oc1 e_wa e_le e_st e_fo e_lc a_l a_g a_b a_s a_p a_w e_gb a_bb)), (a_g, (oc6 6 5 a_gn e_g)), (a_gn, (arI G 30 f_g)), (a_p, (oc6 8 5 a_pn e_p)), (a_pn, (arI G 40 f_p))]) hP hD [0, 1] [2, 3, 4, 5, 6] rfl rfl (by decide +kernel) (by decide +kernel) hk1 hFc hP1 hD1
      clear hP hD hPc hDc hFc ht hvm hz1 hk1 hP1 hD1
      obtain ⟨hP, hD⟩ := hJ9
      refine g5_rs [(a_h, (oc1 e_wa e_le e_st e_fo e_lc a_l a_g a_b a_s a_p a_w e_gb a_bb)), (a_g, (oc6 6 5 a_gn e_g)), (a_gn, (arI G 30 f_g)), (a_p, (oc6 8 5 a_pn e_p)), (a_pn, (arI G 40 f_p)), (a_o, (oc11 a_h a_im a_ke a_k a_wa a_th a_ha a_wk a_r a_x e_tl e_fd e_fpl a_wd e_wn a_rf (-1))), (a_rf, (arI G 5 z46))] hP hD ?_
      clear hP hD
      intro hP hD
      exact W.iret (v := (-1)) hx hb hr (fun t ht hW => ⟨⟨(-1), [(a_o, (oc11 a_h a_im a_ke a_k a_wa a_th a_ha a_wk a_r a_x e_tl e_fd e_fpl a_wd e_wn a_rf (-1))), (a_rf, (arI G 5 z46)), (a_h, (oc1 e_wa e_le e_st e_fo e_lc a_l a_g a_b a_s a_p a_w e_gb a_bb)), (a_g, (oc6 6 5 a_gn e_g)), (a_gn, (arI G 30 f_g)), (a_p, (oc6 8 5 a_pn e_p)), (a_pn, (arI G 40 f_p))], rfl, ⟨(-1), (-1), z46, e_gb, e_g, f_g, h_e_g, e_gk, e_gi, (glass_1 (f := f_ro) (c := p_c) (s := p_s) (l := p_l) (d := p_d) (by unfold okG; omega)).1.symm, by rw [(glass_1 (f := f_ro) (c := p_c) (s := p_s) (l := p_l) (d := p_d) (by unfold okG; omega)).2]; exact e_hg, rfl, rfl⟩, by rw [ht]; exact hP.sub [5, 6, 0, 1, 2, 3, 4] rfl, hD.sub [5, 6, 0, 1, 2, 3, 4] (by decide +kernel) rfl⟩, hS.F ht⟩) hS.2.2 dX11_glass_34
    ·
      exact absurd c_45 (by decide +kernel)
set_option maxHeartbeats 4000000 in
set_option maxRecDepth 100000 in
theorem x_turnX (l : Launch) (G : g5_G) (a_o a_rf a_h a_g a_gn a_im a_ke a_k a_wa a_th a_ha a_wk a_r a_x a_wd a_l a_b a_s a_p a_w a_bb : Nat) (sz : Nat) (e_tl : Int32) (e_fd : Int32) (e_fpl : Int32) (e_wn : Int32) (e_lr : Int32) (e_le : Int32) (e_st : Int32) (e_fo : Int32) (e_lc : Int32) (e_g : Int32) (p_g : Int32) (p_w : Int32) (p_v : Int32) (e_wa : Int64) (e_gb : Int64) (f_rf : Nat → Int32) (f_g : Nat → Int32) (f_ro : Nat → Int32) (h_e_tl : 0 ≤ e_tl.toInt ∧ e_tl.toInt ≤ 400) (h_e_wn : 0 ≤ e_wn.toInt ∧ e_wn.toInt ≤ 1) (h_e_g : 0 ≤ e_g.toInt ∧ e_g.toInt ≤ 6) (e_gk : gOK f_g e_g.toInt) (e_gi : inT e_gb f_g e_g.toInt) (e_hg : QG e_g f_g e_gb f_ro) : Met l yX11_turn (wsG yX11_turn cX11_turn 5 (some .int)) ({ frames := 2, cells := 0, slots := 0, locals := 44 }) (va_Pc [.ref a_o, .int p_g, .int p_w, .int p_v] (g5_P G [(a_o, (oc11 a_h a_im a_ke a_k a_wa a_th a_ha a_wk a_r a_x e_tl e_fd e_fpl a_wd e_wn a_rf e_lr)), (a_rf, (arI G 5 f_rf)), (a_h, (oc1 e_wa e_le e_st e_fo e_lc a_l a_g a_b a_s a_p a_w e_gb a_bb)), (a_g, (oc6 6 5 a_gn e_g)), (a_gn, (arI G 30 f_g))] sz)) (va_Qi (fun (r : Int32) (u : va_W) => (∃ (o_r : Int32) (o_lr : Int32) (o_rf : Nat → Int32) (o_f : Nat → Int32), (gOK o_f e_g.toInt) ∧ (inT e_gb o_f e_g.toInt) ∧ (o_r = aturn f_ro p_g p_w p_v) ∧ (QG e_g o_f e_gb (sturn f_ro p_g p_w p_v)) ∧ (r = o_r) ∧ (u = [(a_o, (oc11 a_h a_im a_ke a_k a_wa a_th a_ha a_wk a_r a_x e_tl e_fd e_fpl a_wd e_wn a_rf o_lr)), (a_rf, (arI G 5 o_rf)), (a_h, (oc1 e_wa e_le e_st e_fo e_lc a_l a_g a_b a_s a_p a_w e_gb a_bb)), (a_g, (oc6 6 5 a_gn e_g)), (a_gn, (arI G 30 o_f))]))) (g5_B G (va_A [(a_o, (oc11 a_h a_im a_ke a_k a_wa a_th a_ha a_wk a_r a_x e_tl e_fd e_fpl a_wd e_wn a_rf e_lr)), (a_rf, (arI G 5 f_rf)), (a_h, (oc1 e_wa e_le e_st e_fo e_lc a_l a_g a_b a_s a_p a_w e_gb a_bb)), (a_g, (oc6 6 5 a_gn e_g)), (a_gn, (arI G 30 f_g))] sz)) (va_A [(a_o, (oc11 a_h a_im a_ke a_k a_wa a_th a_ha a_wk a_r a_x e_tl e_fd e_fpl a_wd e_wn a_rf e_lr)), (a_rf, (arI G 5 f_rf)), (a_h, (oc1 e_wa e_le e_st e_fo e_lc a_l a_g a_b a_s a_p a_w e_gb a_bb)), (a_g, (oc6 6 5 a_gn e_g)), (a_gn, (arI G 30 f_g))] sz)) 0 0 (va_A [(a_o, (oc11 a_h a_im a_ke a_k a_wa a_th a_ha a_wk a_r a_x e_tl e_fd e_fpl a_wd e_wn a_rf e_lr)), (a_rf, (arI G 5 f_rf)), (a_h, (oc1 e_wa e_le e_st e_fo e_lc a_l a_g a_b a_s a_p a_w e_gb a_bb)), (a_g, (oc6 6 5 a_gn e_g)), (a_gn, (arI G 30 f_g))] sz) := by
  refine Met.ofW (cc := cX11_turn) (maxL := 5) (ret := (some .int)) (by decide +kernel) rfl ?_
  intro p e s m args below meth c s₁ B hml hv
  obtain ⟨rfl, hsz, hP, hK, hD0, hN, hT⟩ := hv
  have hx := B.exec
  have hb := B.bytes
  have hr := B.returns
  have hts : ∀ w ∈ tblG, w.before _ s = true := fun w h => atoms_spec (ws := (wsG yX11_turn cX11_turn 5 (some .int))) B.pre w (List.mem_cons_of_mem _ h)
  have hown : s.vm.findClass RX11 = some m.cls := findClass_of_methodNamed B.named
  have hlocks := B.notSynchronized
  subst hsz
  have hD := hD0.self (sz := s.heap.size)
  generalize hAe : va_A [(a_o, (oc11 a_h a_im a_ke a_k a_wa a_th a_ha a_wk a_r a_x e_tl e_fd e_fpl a_wd e_wn a_rf e_lr)), (a_rf, (arI G 5 f_rf)), (a_h, (oc1 e_wa e_le e_st e_fo e_lc a_l a_g a_b a_s a_p a_w e_gb a_bb)), (a_g, (oc6 6 5 a_gn e_g)), (a_gn, (arI G 30 f_g))] s.heap.size = A at hD hT ⊢
  have hA : ∀ q : Nat, s.heap.size ≤ q → A q := fun q h => by rw [← hAe]; exact Or.inr h
  have hS : va_S A s.heap s.heap [] := va_S.rf
  replace hP : va_P G.1 vwCl [(a_o, (oc11 a_h a_im a_ke a_k a_wa a_th a_ha a_wk a_r a_x e_tl e_fd e_fpl a_wd e_wn a_rf e_lr)), (a_rf, (arI G 5 f_rf)), (a_h, (oc1 e_wa e_le e_st e_fo e_lc a_l a_g a_b a_s a_p a_w e_gb a_bb)), (a_g, (oc6 6 5 a_gn e_g)), (a_gn, (arI G 30 f_g))] s.heap := hP
  have hl := lv_entry ([.ref a_o, .int p_g, .int p_w, .int p_v]) (n := 5) (Nat.le_of_ble_eq_true rfl)
  rw [lg_entry_eq]
  generalize (lg_sl ([.ref a_o, .int p_g, .int p_w, .int p_v]) ++ List.replicate (5 - (lg_sl ([.ref a_o, .int p_g, .int p_w, .int p_v])).length) Slot.unset).toArray = ls at hl ⊢
  replace hl : lv_has ls 5 [(0, .ref a_o), (1, .int p_g), (2, .int p_w), (3, .int p_v)] := hl
  refine lv_iload_n hx hb dX11_turn_0 rfl (lv_at hl 2 rfl) ?_
  refine lv_iload_n hx hb dX11_turn_1 rfl (lv_at hl 3 rfl) ?_
  obtain ⟨hPc, hDc, hFc⟩ := g5_sub3 (wc := []) hP hD hS hA [] (by decide +kernel) rfl
  refine va_calli (va_runS (As := [.int p_w, .int p_v]) (rest := []) ⟨hx, hb, hml, hown, hts⟩ (x_isTurnX l G s.heap.size p_w p_v) (va_cwS 2 hts gS_X11_156 rfl rfl rfl hs_X11_isTurn ⟨Nat.le_of_ble_eq_true rfl, Nat.le_of_ble_eq_true rfl⟩) (g5_preS hPc hK hDc hN hT hS hFc) rfl rfl hl.1 rfl (lv_room (Nat.le_of_ble_eq_true rfl)) dX11_turn_2 ⟨Nat.le_of_ble_eq_true rfl, Nat.le_of_ble_eq_true rfl⟩) hS (fun q _ h => hFc q h) hFc (fun r u t H locs ht hvm hw hB hz1 hk1 hS => ?_)
  obtain ⟨hP1, hD1⟩ := hB
  have hP1 := g5_ht ht hP1
  rcases hw with ⟨(i_1 : okT p_w p_v), (i_2 : 0 ≤ p_w.toInt ∧ p_w.toInt ≤ 3), rfl, rfl⟩ | ⟨(i_3 : ¬ okT p_w p_v), rfl, rfl⟩
  ·
    have hJ9 := g5_same hP hk1
    clear hP hPc hDc hFc ht hvm hz1 hk1 hP1 hD1
    have hP := hJ9
    clear hJ9
    refine lv_if_ne (tgt := 14) hx hb dX11_turn_5 (by decide +kernel) (fun c_4 => ?_) (fun c_4 => ?_)
    ·
      refine lv_aload_n hx hb dX11_turn_14 rfl (lv_at hl 0 rfl) ?_
      refine va_get (D := G.1) (ci := 11) (v := .ref a_h) (C := RX11) (T := TX11) (N := 17) hx hb hts inG_X11 hown hK hP 0 rfl rfl 0 (by decide +kernel) (hts _ fl_X11_12) (fun _ h9 => h9) rfl dX11_turn_15 ?_
      refine va_get (D := G.1) (ci := 1) (v := .ref a_g) (C := RX1) (T := TX1) (N := 13) hx hb hts inG_X1 hown hK hP 2 rfl rfl 6 (by decide +kernel) (hts _ fl_X11_136) (fun _ h9 => h9) rfl dX11_turn_18 ?_
      refine lv_iload_n hx hb dX11_turn_21 rfl (lv_at hl 1 rfl) ?_
      refine W.eq (g2 := F0 m 22 ls [.int p_g, .ref a_g]) rfl ?_
      obtain ⟨hPc, hDc, hFc⟩ := g5_sub3 (wc := [(a_g, (oc6 6 5 a_gn e_g))]) hP hD hS hA [3] (by decide +kernel) rfl
      refine va_calli (va_runV (As := [.int p_g]) (rest := []) ⟨hx, hb, hml, hown, hts⟩ (t_has_G l G a_g a_gn H.size e_g p_g h_e_g) (cwV 1 hts gV_X11_160 rfl rfl rfl hv_X6_has ⟨Nat.le_of_ble_eq_true rfl, Nat.le_of_ble_eq_true rfl⟩) (g5_preV hPc hK hDc hN hT hS hFc (ci := 6) (q0 := 0) rfl rfl) rfl rfl hl.1 rfl (lv_room (Nat.le_of_ble_eq_true rfl)) dX11_turn_22 ⟨Nat.le_of_ble_eq_true rfl, Nat.le_of_ble_eq_true rfl⟩) hS (fun q _ h => hFc q h) hFc (fun r u t H locs ht hvm hw hB hz1 hk1 hS => ?_)
      obtain ⟨hP1, hD1⟩ := hB
      have hP1 := g5_ht ht hP1
      rcases hw with ⟨(i_5 : 0 ≤ p_g.toInt ∧ p_g.toInt < e_g.toInt), rfl, rfl⟩ | ⟨(i_6 : p_g.toInt < 0 ∨ e_g.toInt ≤ p_g.toInt), rfl, rfl⟩
      ·
        have hJ9 := va_join (wr := [(a_o, (oc11 a_h a_im a_ke a_k a_wa a_th a_ha a_wk a_r a_x e_tl e_fd e_fpl a_wd e_wn a_rf e_lr)), (a_rf, (arI G 5 f_rf)), (a_h, (oc1 e_wa e_le e_st e_fo e_lc a_l a_g a_b a_s a_p a_w e_gb a_bb)), (a_gn, (arI G 30 f_g))]) hP hD [3] [0, 1, 2, 4] rfl rfl (by decide +kernel) (by decide +kernel) hk1 hFc hP1 hD1
        clear hP hD hPc hDc hFc ht hvm hz1 hk1 hP1 hD1
        obtain ⟨hP, hD⟩ := hJ9
        refine g5_rs [(a_o, (oc11 a_h a_im a_ke a_k a_wa a_th a_ha a_wk a_r a_x e_tl e_fd e_fpl a_wd e_wn a_rf e_lr)), (a_rf, (arI G 5 f_rf)), (a_h, (oc1 e_wa e_le e_st e_fo e_lc a_l a_g a_b a_s a_p a_w e_gb a_bb)), (a_gn, (arI G 30 f_g)), (a_g, (oc6 6 5 a_gn e_g))] hP hD ?_
        clear hP hD
        intro hP hD
        refine lv_if_ne (tgt := 35) hx hb dX11_turn_25 (by decide +kernel) (fun c_7 => ?_) (fun c_7 => ?_)
        ·
          refine lv_aload_n hx hb dX11_turn_35 rfl (lv_at hl 0 rfl) ?_
          refine va_get (D := G.1) (ci := 11) (v := .ref a_h) (C := RX11) (T := TX11) (N := 17) hx hb hts inG_X11 hown hK hP 0 rfl rfl 0 (by decide +kernel) (hts _ fl_X11_12) (fun _ h9 => h9) rfl dX11_turn_36 ?_
          refine va_get (D := G.1) (ci := 1) (v := .ref a_g) (C := RX1) (T := TX1) (N := 13) hx hb hts inG_X1 hown hK hP 2 rfl rfl 6 (by decide +kernel) (hts _ fl_X11_136) (fun _ h9 => h9) rfl dX11_turn_39 ?_
          refine lv_iload_n hx hb dX11_turn_42 rfl (lv_at hl 1 rfl) ?_
          refine W.eq (g2 := F0 m 43 ls [.int p_g, .ref a_g]) rfl ?_
          refine lv_iload_n hx hb dX11_turn_43 rfl (lv_at hl 2 rfl) ?_
          refine lv_iconst (v := 1) hx hb dX11_turn_44 (by decide +kernel) ?_
          refine lv_iadd hx hb dX11_turn_45 ?_
          have t_8 : (p_w + 1).toInt = p_w.toInt + 1 := g5_iadd (a := p_w.toInt) (b := 1) (by rfl) (by decide +kernel) (by omega) (by omega)
          obtain ⟨hPc, hDc, hFc⟩ := g5_sub3 (wc := [(a_g, (oc6 6 5 a_gn e_g)), (a_gn, (arI G 30 f_g))]) hP hD hS hA [4, 3] (by decide +kernel) rfl
          refine va_calli (va_runV (As := [.int p_g, .int (p_w + 1)]) (rest := []) ⟨hx, hb, hml, hown, hts⟩ (t_get_G l G a_g a_gn H.size e_g p_g (p_w + 1) f_g h_e_g) (cwV 2 hts gV_X11_163 rfl rfl rfl hv_X6_get ⟨Nat.le_of_ble_eq_true rfl, Nat.le_of_ble_eq_true rfl⟩) (g5_preV hPc hK hDc hN hT hS hFc (ci := 6) (q0 := 0) rfl rfl) rfl rfl hl.1 rfl (lv_room (Nat.le_of_ble_eq_true rfl)) dX11_turn_46 ⟨Nat.le_of_ble_eq_true rfl, Nat.le_of_ble_eq_true rfl⟩) hS (fun q _ h => hFc q h) hFc (fun r u t H locs ht hvm hw hB hz1 hk1 hS => ?_)
          obtain ⟨hP1, hD1⟩ := hB
          have hP1 := g5_ht ht hP1
          obtain ⟨z10, (i_9 : z10 = tget f_g e_g.toInt 5 p_g.toInt (p_w + 1).toInt), y11, rfl⟩ := hw
          have hJ9 := va_join (wr := [(a_o, (oc11 a_h a_im a_ke a_k a_wa a_th a_ha a_wk a_r a_x e_tl e_fd e_fpl a_wd e_wn a_rf e_lr)), (a_rf, (arI G 5 f_rf)), (a_h, (oc1 e_wa e_le e_st e_fo e_lc a_l a_g a_b a_s a_p a_w e_gb a_bb))]) hP hD [4, 3] [0, 1, 2] rfl rfl (by decide +kernel) (by decide +kernel) hk1 hFc hP1 hD1
          clear hP hD hPc hDc hFc ht hvm hz1 hk1 hP1 hD1
          obtain ⟨hP, hD⟩ := hJ9
          refine g5_rs [(a_o, (oc11 a_h a_im a_ke a_k a_wa a_th a_ha a_wk a_r a_x e_tl e_fd e_fpl a_wd e_wn a_rf e_lr)), (a_rf, (arI G 5 f_rf)), (a_h, (oc1 e_wa e_le e_st e_fo e_lc a_l a_g a_b a_s a_p a_w e_gb a_bb)), (a_g, (oc6 6 5 a_gn e_g)), (a_gn, (arI G 30 f_g))] hP hD ?_
          clear hP hD
          intro hP hD
          refine g5_ti (v := z10) y11 ?_
          refine lv_istore (lv' := [(4, .int z10), (0, .ref a_o), (1, .int p_g), (2, .int p_w), (3, .int p_v)]) hx hb dX11_turn_49 hl (by decide +kernel) rfl ?_
          clear hl
          intro ls hl
          refine W.eq (g2 := F0 m 51 ls []) rfl ?_
          refine lv_aload_n hx hb dX11_turn_51 rfl (lv_at hl 1 rfl) ?_
          refine va_get (D := G.1) (ci := 11) (v := .ref a_h) (C := RX11) (T := TX11) (N := 17) hx hb hts inG_X11 hown hK hP 0 rfl rfl 0 (by decide +kernel) (hts _ fl_X11_12) (fun _ h9 => h9) rfl dX11_turn_52 ?_
          refine va_get (D := G.1) (ci := 1) (v := .ref a_g) (C := RX1) (T := TX1) (N := 13) hx hb hts inG_X1 hown hK hP 2 rfl rfl 6 (by decide +kernel) (hts _ fl_X11_136) (fun _ h9 => h9) rfl dX11_turn_55 ?_
          refine lv_iload_n hx hb dX11_turn_58 rfl (lv_at hl 2 rfl) ?_
          refine lv_iload_n hx hb dX11_turn_59 rfl (lv_at hl 3 rfl) ?_
          refine W.eq (g2 := F0 m 60 ls [.int p_w, .int p_g, .ref a_g]) rfl ?_
          refine lv_iconst (v := 1) hx hb dX11_turn_60 (by decide +kernel) ?_
          refine lv_iadd hx hb dX11_turn_61 ?_
          have t_12 : (p_w + 1).toInt = p_w.toInt + 1 := g5_iadd (a := p_w.toInt) (b := 1) (by rfl) (by decide +kernel) (by omega) (by omega)
          refine lv_iload_n hx hb dX11_turn_62 rfl (lv_at hl 4 rfl) ?_
          obtain ⟨hPc, hDc, hFc⟩ := g5_sub3 (wc := [(a_g, (oc6 6 5 a_gn e_g)), (a_gn, (arI G 30 f_g))]) hP hD hS hA [3, 4] (by decide +kernel) rfl
          refine va_callv (va_runV (As := [.int p_g, .int (p_w + 1), .int p_v]) (rest := []) ⟨hx, hb, hml, hown, hts⟩ (t_set_G l G a_g a_gn H.size e_g p_g (p_w + 1) p_v f_g h_e_g) (cwV 3 hts gV_X11_149 rfl rfl rfl hv_X6_set ⟨Nat.le_of_ble_eq_true rfl, Nat.le_of_ble_eq_true rfl⟩) (g5_preV hPc hK hDc hN hT hS hFc (ci := 6) (q0 := 0) rfl rfl) rfl rfl hl.1 rfl (lv_room (Nat.le_of_ble_eq_true rfl)) dX11_turn_63 ⟨Nat.le_of_ble_eq_true rfl, Nat.le_of_ble_eq_true rfl⟩) hS (fun q _ h => hFc q h) hFc (fun u t H locs ht hvm hw hB hz1 hk1 hS => ?_)
          obtain ⟨hP1, hD1⟩ := hB
          have hP1 := g5_ht ht hP1
          obtain ⟨z14, (i_13 : z14 = tset f_g e_g.toInt 5 p_g.toInt (p_w + 1).toInt p_v), rfl⟩ := hw
          have hJ9 := va_join (wr := [(a_o, (oc11 a_h a_im a_ke a_k a_wa a_th a_ha a_wk a_r a_x e_tl e_fd e_fpl a_wd e_wn a_rf e_lr)), (a_rf, (arI G 5 f_rf)), (a_h, (oc1 e_wa e_le e_st e_fo e_lc a_l a_g a_b a_s a_p a_w e_gb a_bb))]) hP hD [3, 4] [0, 1, 2] rfl rfl (by decide +kernel) (by decide +kernel) hk1 hFc hP1 hD1
          clear hP hD hPc hDc hFc ht hvm hz1 hk1 hP1 hD1
          obtain ⟨hP, hD⟩ := hJ9
          refine g5_rs [(a_o, (oc11 a_h a_im a_ke a_k a_wa a_th a_ha a_wk a_r a_x e_tl e_fd e_fpl a_wd e_wn a_rf e_lr)), (a_rf, (arI G 5 f_rf)), (a_h, (oc1 e_wa e_le e_st e_fo e_lc a_l a_g a_b a_s a_p a_w e_gb a_bb)), (a_g, (oc6 6 5 a_gn e_g)), (a_gn, (arI G 30 z14))] hP hD ?_
          clear hP hD
          intro hP hD
          refine lv_aload_n hx hb dX11_turn_66 rfl (lv_at hl 1 rfl) ?_
          refine W.eq (g2 := F0 m 67 ls [.ref a_o]) rfl ?_
          refine lv_iload hx hb dX11_turn_67 (lv_at hl 0 rfl) ?_
          obtain ⟨hPc, hDc, hFc⟩ := g5_sub3 (wc := [(a_o, (oc11 a_h a_im a_ke a_k a_wa a_th a_ha a_wk a_r a_x e_tl e_fd e_fpl a_wd e_wn a_rf e_lr))]) hP hD hS hA [0] (by decide +kernel) rfl
          refine va_calli (va_runV (As := [.int z10]) (rest := []) ⟨hx, hb, hml, hown, hts⟩ (x_done l G a_o a_h a_im a_ke a_k a_wa a_th a_ha a_wk a_r a_x a_wd a_rf H.size e_tl e_fd e_fpl e_wn e_lr z10 h_e_tl h_e_wn) (cwV 1 hts gV_X11_121 rfl rfl rfl hv_X11_done ⟨Nat.le_of_ble_eq_true rfl, Nat.le_of_ble_eq_true rfl⟩) (g5_preV hPc hK hDc hN hT hS hFc (ci := 11) (q0 := 0) rfl rfl) rfl rfl hl.1 rfl (lv_room (Nat.le_of_ble_eq_true rfl)) dX11_turn_69 ⟨Nat.le_of_ble_eq_true rfl, Nat.le_of_ble_eq_true rfl⟩) hS (fun q _ h => hFc q h) hFc (fun r u t H locs ht hvm hw hB hz1 hk1 hS => ?_)
          obtain ⟨hP1, hD1⟩ := hB
          have hP1 := g5_ht ht hP1
          obtain ⟨y15, rfl⟩ := hw
          have hJ9 := va_join (wr := [(a_rf, (arI G 5 f_rf)), (a_h, (oc1 e_wa e_le e_st e_fo e_lc a_l a_g a_b a_s a_p a_w e_gb a_bb)), (a_g, (oc6 6 5 a_gn e_g)), (a_gn, (arI G 30 z14))]) hP hD [0] [1, 2, 3, 4] rfl rfl (by decide +kernel) (by decide +kernel) hk1 hFc hP1 hD1
          clear hP hD hPc hDc hFc ht hvm hz1 hk1 hP1 hD1
          obtain ⟨hP, hD⟩ := hJ9
          refine g5_rs [(a_rf, (arI G 5 f_rf)), (a_h, (oc1 e_wa e_le e_st e_fo e_lc a_l a_g a_b a_s a_p a_w e_gb a_bb)), (a_g, (oc6 6 5 a_gn e_g)), (a_gn, (arI G 30 z14)), (a_o, (oc11 a_h a_im a_ke a_k a_wa a_th a_ha a_wk a_r a_x e_tl e_fd e_fpl a_wd e_wn a_rf 0))] hP hD ?_
          clear hP hD
          intro hP hD
          refine g5_ti (v := z10) y15 ?_
          exact W.iret (v := z10) hx hb hr (fun t ht hW => ⟨⟨z10, [(a_o, (oc11 a_h a_im a_ke a_k a_wa a_th a_ha a_wk a_r a_x e_tl e_fd e_fpl a_wd e_wn a_rf 0)), (a_rf, (arI G 5 f_rf)), (a_h, (oc1 e_wa e_le e_st e_fo e_lc a_l a_g a_b a_s a_p a_w e_gb a_bb)), (a_g, (oc6 6 5 a_gn e_g)), (a_gn, (arI G 30 z14))], rfl, ⟨z10, 0, f_rf, z14, by have ot := i_1; unfold okT at ot; rw [i_13]; exact g_turn e_gk ⟨by omega, by omega⟩ (by omega), by rw [i_13]; exact g_inTturn e_gi ⟨by omega, by omega⟩ ⟨by omega, by omega⟩, by rw [i_9, (turn_0 (f := f_ro) (g := p_g) (w := p_w) (v := p_v) i_1 (isg_y e_hg ⟨by omega, by omega⟩)).1]; exact hg_get e_hg ⟨by omega, by omega⟩ ⟨by omega, by omega⟩ (by omega), by rw [i_13]; exact hg_turn e_hg i_1 ⟨by omega, by omega⟩ (by omega), rfl, rfl⟩, by rw [ht]; exact hP.sub [4, 0, 1, 2, 3] rfl, hD.sub [4, 0, 1, 2, 3] (by decide +kernel) rfl⟩, hS.F ht⟩) hS.2.2 dX11_turn_72
        ·
          exact absurd c_7 (by decide +kernel)
      ·
        have hJ9 := va_join (wr := [(a_o, (oc11 a_h a_im a_ke a_k a_wa a_th a_ha a_wk a_r a_x e_tl e_fd e_fpl a_wd e_wn a_rf e_lr)), (a_rf, (arI G 5 f_rf)), (a_h, (oc1 e_wa e_le e_st e_fo e_lc a_l a_g a_b a_s a_p a_w e_gb a_bb)), (a_gn, (arI G 30 f_g))]) hP hD [3] [0, 1, 2, 4] rfl rfl (by decide +kernel) (by decide +kernel) hk1 hFc hP1 hD1
        clear hP hD hPc hDc hFc ht hvm hz1 hk1 hP1 hD1
        obtain ⟨hP, hD⟩ := hJ9
        refine g5_rs [(a_o, (oc11 a_h a_im a_ke a_k a_wa a_th a_ha a_wk a_r a_x e_tl e_fd e_fpl a_wd e_wn a_rf e_lr)), (a_rf, (arI G 5 f_rf)), (a_h, (oc1 e_wa e_le e_st e_fo e_lc a_l a_g a_b a_s a_p a_w e_gb a_bb)), (a_gn, (arI G 30 f_g)), (a_g, (oc6 6 5 a_gn e_g))] hP hD ?_
        clear hP hD
        intro hP hD
        refine lv_if_ne (tgt := 35) hx hb dX11_turn_25 (by decide +kernel) (fun c_16 => ?_) (fun c_16 => ?_)
        ·
          exact absurd c_16 (by decide +kernel)
        ·
          refine lv_aload_n hx hb dX11_turn_28 rfl (lv_at hl 0 rfl) ?_
          refine lv_bipush (v := (-2)) hx hb dX11_turn_29 (by decide +kernel) ?_
          obtain ⟨hPc, hDc, hFc⟩ := g5_sub3 (wc := [(a_o, (oc11 a_h a_im a_ke a_k a_wa a_th a_ha a_wk a_r a_x e_tl e_fd e_fpl a_wd e_wn a_rf e_lr)), (a_rf, (arI G 5 f_rf))]) hP hD hS hA [0, 1] (by decide +kernel) rfl
          refine va_calli (va_runV (As := [.int (-2)]) (rest := []) ⟨hx, hb, hml, hown, hts⟩ (x_refuse2 l G a_o a_rf a_h a_im a_ke a_k a_wa a_th a_ha a_wk a_r a_x a_wd H.size e_tl e_fd e_fpl e_wn e_lr f_rf h_e_tl h_e_wn) (cwV 1 hts gV_X11_104 rfl rfl rfl hv_X11_refuse ⟨Nat.le_of_ble_eq_true rfl, Nat.le_of_ble_eq_true rfl⟩) (g5_preV hPc hK hDc hN hT hS hFc (ci := 11) (q0 := 0) rfl rfl) rfl rfl hl.1 rfl (lv_room (Nat.le_of_ble_eq_true rfl)) dX11_turn_31 ⟨Nat.le_of_ble_eq_true rfl, Nat.le_of_ble_eq_true rfl⟩) hS (fun q _ h => hFc q h) hFc (fun r u t H locs ht hvm hw hB hz1 hk1 hS => ?_)
          obtain ⟨hP1, hD1⟩ := hB
          have hP1 := g5_ht ht hP1
          obtain ⟨z17, rfl, rfl⟩ := hw
          have hJ9 := va_join (wr := [(a_h, (oc1 e_wa e_le e_st e_fo e_lc a_l a_g a_b a_s a_p a_w e_gb a_bb)), (a_gn, (arI G 30 f_g)), (a_g, (oc6 6 5 a_gn e_g))]) hP hD [0, 1] [2, 3, 4] rfl rfl (by decide +kernel) (by decide +kernel) hk1 hFc hP1 hD1
          clear hP hD hPc hDc hFc ht hvm hz1 hk1 hP1 hD1
          obtain ⟨hP, hD⟩ := hJ9
          refine g5_rs [(a_h, (oc1 e_wa e_le e_st e_fo e_lc a_l a_g a_b a_s a_p a_w e_gb a_bb)), (a_gn, (arI G 30 f_g)), (a_g, (oc6 6 5 a_gn e_g)), (a_o, (oc11 a_h a_im a_ke a_k a_wa a_th a_ha a_wk a_r a_x e_tl e_fd e_fpl a_wd e_wn a_rf (-2))), (a_rf, (arI G 5 z17))] hP hD ?_
          clear hP hD
          intro hP hD
          exact W.iret (v := (-2)) hx hb hr (fun t ht hW => ⟨⟨(-2), [(a_o, (oc11 a_h a_im a_ke a_k a_wa a_th a_ha a_wk a_r a_x e_tl e_fd e_fpl a_wd e_wn a_rf (-2))), (a_rf, (arI G 5 z17)), (a_h, (oc1 e_wa e_le e_st e_fo e_lc a_l a_g a_b a_s a_p a_w e_gb a_bb)), (a_g, (oc6 6 5 a_gn e_g)), (a_gn, (arI G 30 f_g))], rfl, ⟨(-2), (-2), z17, f_g, e_gk, e_gi, (turn_2 (f := f_ro) (g := p_g) (w := p_w) (v := p_v) i_1 (isg_n e_hg (by omega))).1.symm, by rw [(turn_2 (f := f_ro) (g := p_g) (w := p_w) (v := p_v) i_1 (isg_n e_hg (by omega))).2]; exact e_hg, rfl, rfl⟩, by rw [ht]; exact hP.sub [3, 4, 0, 2, 1] rfl, hD.sub [3, 4, 0, 2, 1] (by decide +kernel) rfl⟩, hS.F ht⟩) hS.2.2 dX11_turn_34
    ·
      exact absurd c_4 (by decide +kernel)
  ·
    have hJ9 := g5_same hP hk1
    clear hP hPc hDc hFc ht hvm hz1 hk1 hP1 hD1
    have hP := hJ9
    clear hJ9
    refine lv_if_ne (tgt := 14) hx hb dX11_turn_5 (by decide +kernel) (fun c_18 => ?_) (fun c_18 => ?_)
    ·
      exact absurd c_18 (by decide +kernel)
    ·
      refine lv_aload_n hx hb dX11_turn_8 rfl (lv_at hl 0 rfl) ?_
      refine lv_iconst (v := (-1)) hx hb dX11_turn_9 (by decide +kernel) ?_
      obtain ⟨hPc, hDc, hFc⟩ := g5_sub3 (wc := [(a_o, (oc11 a_h a_im a_ke a_k a_wa a_th a_ha a_wk a_r a_x e_tl e_fd e_fpl a_wd e_wn a_rf e_lr)), (a_rf, (arI G 5 f_rf))]) hP hD hS hA [0, 1] (by decide +kernel) rfl
      refine va_calli (va_runV (As := [.int (-1)]) (rest := []) ⟨hx, hb, hml, hown, hts⟩ (x_refuse1 l G a_o a_rf a_h a_im a_ke a_k a_wa a_th a_ha a_wk a_r a_x a_wd H.size e_tl e_fd e_fpl e_wn e_lr f_rf h_e_tl h_e_wn) (cwV 1 hts gV_X11_104 rfl rfl rfl hv_X11_refuse ⟨Nat.le_of_ble_eq_true rfl, Nat.le_of_ble_eq_true rfl⟩) (g5_preV hPc hK hDc hN hT hS hFc (ci := 11) (q0 := 0) rfl rfl) rfl rfl hl.1 rfl (lv_room (Nat.le_of_ble_eq_true rfl)) dX11_turn_10 ⟨Nat.le_of_ble_eq_true rfl, Nat.le_of_ble_eq_true rfl⟩) hS (fun q _ h => hFc q h) hFc (fun r u t H locs ht hvm hw hB hz1 hk1 hS => ?_)
      obtain ⟨hP1, hD1⟩ := hB
      have hP1 := g5_ht ht hP1
      obtain ⟨z19, rfl, rfl⟩ := hw
      have hJ9 := va_join (wr := [(a_h, (oc1 e_wa e_le e_st e_fo e_lc a_l a_g a_b a_s a_p a_w e_gb a_bb)), (a_g, (oc6 6 5 a_gn e_g)), (a_gn, (arI G 30 f_g))]) hP hD [0, 1] [2, 3, 4] rfl rfl (by decide +kernel) (by decide +kernel) hk1 hFc hP1 hD1
      clear hP hD hPc hDc hFc ht hvm hz1 hk1 hP1 hD1
      obtain ⟨hP, hD⟩ := hJ9
      refine g5_rs [(a_h, (oc1 e_wa e_le e_st e_fo e_lc a_l a_g a_b a_s a_p a_w e_gb a_bb)), (a_g, (oc6 6 5 a_gn e_g)), (a_gn, (arI G 30 f_g)), (a_o, (oc11 a_h a_im a_ke a_k a_wa a_th a_ha a_wk a_r a_x e_tl e_fd e_fpl a_wd e_wn a_rf (-1))), (a_rf, (arI G 5 z19))] hP hD ?_
      clear hP hD
      intro hP hD
      exact W.iret (v := (-1)) hx hb hr (fun t ht hW => ⟨⟨(-1), [(a_o, (oc11 a_h a_im a_ke a_k a_wa a_th a_ha a_wk a_r a_x e_tl e_fd e_fpl a_wd e_wn a_rf (-1))), (a_rf, (arI G 5 z19)), (a_h, (oc1 e_wa e_le e_st e_fo e_lc a_l a_g a_b a_s a_p a_w e_gb a_bb)), (a_g, (oc6 6 5 a_gn e_g)), (a_gn, (arI G 30 f_g))], rfl, ⟨(-1), (-1), z19, f_g, e_gk, e_gi, (turn_1 (f := f_ro) (g := p_g) (w := p_w) (v := p_v) i_3).1.symm, by rw [(turn_1 (f := f_ro) (g := p_g) (w := p_w) (v := p_v) i_3).2]; exact e_hg, rfl, rfl⟩, by rw [ht]; exact hP.sub [3, 4, 0, 1, 2] rfl, hD.sub [3, 4, 0, 1, 2] (by decide +kernel) rfl⟩, hS.F ht⟩) hS.2.2 dX11_turn_13
set_option maxHeartbeats 4000000 in
set_option maxRecDepth 100000 in
theorem x_ofX (l : Launch) (G : g5_G) (a_o a_h a_g a_gn a_im a_ke a_k a_wa a_th a_ha a_wk a_r a_x a_wd a_rf a_l a_b a_s a_p a_w a_bb : Nat) (sz : Nat) (e_tl : Int32) (e_fd : Int32) (e_fpl : Int32) (e_wn : Int32) (e_lr : Int32) (e_le : Int32) (e_st : Int32) (e_fo : Int32) (e_lc : Int32) (e_g : Int32) (p_g : Int32) (p_w : Int32) (e_wa : Int64) (e_gb : Int64) (f_g : Nat → Int32) (f_ro : Nat → Int32) (h_e_tl : 0 ≤ e_tl.toInt ∧ e_tl.toInt ≤ 400) (h_e_wn : 0 ≤ e_wn.toInt ∧ e_wn.toInt ≤ 1) (h_e_g : 0 ≤ e_g.toInt ∧ e_g.toInt ≤ 6) (e_hg : QG e_g f_g e_gb f_ro) : Met l yX11_of (wsG yX11_of cX11_of 3 (some .int)) ({ frames := 1, cells := 0, slots := 0, locals := 22 }) (va_Pc [.ref a_o, .int p_g, .int p_w] (g5_P G [(a_o, (oc11 a_h a_im a_ke a_k a_wa a_th a_ha a_wk a_r a_x e_tl e_fd e_fpl a_wd e_wn a_rf e_lr)), (a_h, (oc1 e_wa e_le e_st e_fo e_lc a_l a_g a_b a_s a_p a_w e_gb a_bb)), (a_g, (oc6 6 5 a_gn e_g)), (a_gn, (arI G 30 f_g))] sz)) (va_Qi (fun (r : Int32) (u : va_W) => (∃ (o_r : Int32), (o_r = aof f_ro p_g p_w) ∧ (r = o_r) ∧ (u = [(a_o, (oc11 a_h a_im a_ke a_k a_wa a_th a_ha a_wk a_r a_x e_tl e_fd e_fpl a_wd e_wn a_rf e_lr)), (a_h, (oc1 e_wa e_le e_st e_fo e_lc a_l a_g a_b a_s a_p a_w e_gb a_bb)), (a_g, (oc6 6 5 a_gn e_g)), (a_gn, (arI G 30 f_g))]))) (g5_B G (va_A [(a_o, (oc11 a_h a_im a_ke a_k a_wa a_th a_ha a_wk a_r a_x e_tl e_fd e_fpl a_wd e_wn a_rf e_lr)), (a_h, (oc1 e_wa e_le e_st e_fo e_lc a_l a_g a_b a_s a_p a_w e_gb a_bb)), (a_g, (oc6 6 5 a_gn e_g)), (a_gn, (arI G 30 f_g))] sz)) (va_A [(a_o, (oc11 a_h a_im a_ke a_k a_wa a_th a_ha a_wk a_r a_x e_tl e_fd e_fpl a_wd e_wn a_rf e_lr)), (a_h, (oc1 e_wa e_le e_st e_fo e_lc a_l a_g a_b a_s a_p a_w e_gb a_bb)), (a_g, (oc6 6 5 a_gn e_g)), (a_gn, (arI G 30 f_g))] sz)) 0 0 (va_A [(a_o, (oc11 a_h a_im a_ke a_k a_wa a_th a_ha a_wk a_r a_x e_tl e_fd e_fpl a_wd e_wn a_rf e_lr)), (a_h, (oc1 e_wa e_le e_st e_fo e_lc a_l a_g a_b a_s a_p a_w e_gb a_bb)), (a_g, (oc6 6 5 a_gn e_g)), (a_gn, (arI G 30 f_g))] sz) := by
  refine Met.ofW (cc := cX11_of) (maxL := 3) (ret := (some .int)) (by decide +kernel) rfl ?_
  intro p e s m args below meth c s₁ B hml hv
  obtain ⟨rfl, hsz, hP, hK, hD0, hN, hT⟩ := hv
  have hx := B.exec
  have hb := B.bytes
  have hr := B.returns
  have hts : ∀ w ∈ tblG, w.before _ s = true := fun w h => atoms_spec (ws := (wsG yX11_of cX11_of 3 (some .int))) B.pre w (List.mem_cons_of_mem _ h)
  have hown : s.vm.findClass RX11 = some m.cls := findClass_of_methodNamed B.named
  have hlocks := B.notSynchronized
  subst hsz
  have hD := hD0.self (sz := s.heap.size)
  generalize hAe : va_A [(a_o, (oc11 a_h a_im a_ke a_k a_wa a_th a_ha a_wk a_r a_x e_tl e_fd e_fpl a_wd e_wn a_rf e_lr)), (a_h, (oc1 e_wa e_le e_st e_fo e_lc a_l a_g a_b a_s a_p a_w e_gb a_bb)), (a_g, (oc6 6 5 a_gn e_g)), (a_gn, (arI G 30 f_g))] s.heap.size = A at hD hT ⊢
  have hA : ∀ q : Nat, s.heap.size ≤ q → A q := fun q h => by rw [← hAe]; exact Or.inr h
  have hS : va_S A s.heap s.heap [] := va_S.rf
  replace hP : va_P G.1 vwCl [(a_o, (oc11 a_h a_im a_ke a_k a_wa a_th a_ha a_wk a_r a_x e_tl e_fd e_fpl a_wd e_wn a_rf e_lr)), (a_h, (oc1 e_wa e_le e_st e_fo e_lc a_l a_g a_b a_s a_p a_w e_gb a_bb)), (a_g, (oc6 6 5 a_gn e_g)), (a_gn, (arI G 30 f_g))] s.heap := hP
  have hl := lv_entry ([.ref a_o, .int p_g, .int p_w]) (n := 3) (Nat.le_of_ble_eq_true rfl)
  rw [lg_entry_eq]
  generalize (lg_sl ([.ref a_o, .int p_g, .int p_w]) ++ List.replicate (3 - (lg_sl ([.ref a_o, .int p_g, .int p_w])).length) Slot.unset).toArray = ls at hl ⊢
  replace hl : lv_has ls 3 [(0, .ref a_o), (1, .int p_g), (2, .int p_w)] := hl
  refine lv_aload_n hx hb dX11_of_0 rfl (lv_at hl 0 rfl) ?_
  refine va_get (D := G.1) (ci := 11) (v := .ref a_h) (C := RX11) (T := TX11) (N := 17) hx hb hts inG_X11 hown hK hP 0 rfl rfl 0 (by decide +kernel) (hts _ fl_X11_12) (fun _ h9 => h9) rfl dX11_of_1 ?_
  refine va_get (D := G.1) (ci := 1) (v := .ref a_g) (C := RX1) (T := TX1) (N := 13) hx hb hts inG_X1 hown hK hP 1 rfl rfl 6 (by decide +kernel) (hts _ fl_X11_136) (fun _ h9 => h9) rfl dX11_of_4 ?_
  refine lv_iload_n hx hb dX11_of_7 rfl (lv_at hl 1 rfl) ?_
  refine W.eq (g2 := F0 m 8 ls [.int p_g, .ref a_g]) rfl ?_
  refine lv_iload_n hx hb dX11_of_8 rfl (lv_at hl 2 rfl) ?_
  obtain ⟨hPc, hDc, hFc⟩ := g5_sub3 (wc := [(a_g, (oc6 6 5 a_gn e_g)), (a_gn, (arI G 30 f_g))]) hP hD hS hA [2, 3] (by decide +kernel) rfl
  refine va_calli (va_runV (As := [.int p_g, .int p_w]) (rest := []) ⟨hx, hb, hml, hown, hts⟩ (t_get_G l G a_g a_gn s.heap.size e_g p_g p_w f_g h_e_g) (cwV 2 hts gV_X11_163 rfl rfl rfl hv_X6_get ⟨Nat.le_of_ble_eq_true rfl, Nat.le_of_ble_eq_true rfl⟩) (g5_preV hPc hK hDc hN hT hS hFc (ci := 6) (q0 := 0) rfl rfl) rfl rfl hl.1 rfl (lv_room (Nat.le_of_ble_eq_true rfl)) dX11_of_9 ⟨Nat.le_of_ble_eq_true rfl, Nat.le_of_ble_eq_true rfl⟩) hS (fun q _ h => hFc q h) hFc (fun r u t H locs ht hvm hw hB hz1 hk1 hS => ?_)
  obtain ⟨hP1, hD1⟩ := hB
  have hP1 := g5_ht ht hP1
  obtain ⟨z2, (i_1 : z2 = tget f_g e_g.toInt 5 p_g.toInt p_w.toInt), y3, rfl⟩ := hw
  have hJ9 := va_join (wr := [(a_o, (oc11 a_h a_im a_ke a_k a_wa a_th a_ha a_wk a_r a_x e_tl e_fd e_fpl a_wd e_wn a_rf e_lr)), (a_h, (oc1 e_wa e_le e_st e_fo e_lc a_l a_g a_b a_s a_p a_w e_gb a_bb))]) hP hD [2, 3] [0, 1] rfl rfl (by decide +kernel) (by decide +kernel) hk1 hFc hP1 hD1
  clear hP hD hPc hDc hFc ht hvm hz1 hk1 hP1 hD1
  obtain ⟨hP, hD⟩ := hJ9
  refine g5_rs [(a_o, (oc11 a_h a_im a_ke a_k a_wa a_th a_ha a_wk a_r a_x e_tl e_fd e_fpl a_wd e_wn a_rf e_lr)), (a_h, (oc1 e_wa e_le e_st e_fo e_lc a_l a_g a_b a_s a_p a_w e_gb a_bb)), (a_g, (oc6 6 5 a_gn e_g)), (a_gn, (arI G 30 f_g))] hP hD ?_
  clear hP hD
  intro hP hD
  refine g5_ti (v := z2) y3 ?_
  exact W.iret (v := z2) hx hb hr (fun t ht hW => ⟨⟨z2, [(a_o, (oc11 a_h a_im a_ke a_k a_wa a_th a_ha a_wk a_r a_x e_tl e_fd e_fpl a_wd e_wn a_rf e_lr)), (a_h, (oc1 e_wa e_le e_st e_fo e_lc a_l a_g a_b a_s a_p a_w e_gb a_bb)), (a_g, (oc6 6 5 a_gn e_g)), (a_gn, (arI G 30 f_g))], rfl, ⟨z2, i_1.trans (of_x e_hg), rfl, rfl⟩, by rw [ht]; exact hP.sub [0, 1, 2, 3] rfl, hD.sub [0, 1, 2, 3] (by decide +kernel) rfl⟩, hS.F ht⟩) hS.2.2 dX11_of_12
set_option maxHeartbeats 4000000 in
set_option maxRecDepth 100000 in
theorem x_bodyX (l : Launch) (G : g5_G) (a_o a_rf a_h a_b a_bn a_im a_ke a_k a_wa a_th a_ha a_wk a_r a_x a_wd a_l a_g a_s a_p a_w a_bb : Nat) (sz : Nat) (e_tl : Int32) (e_fd : Int32) (e_fpl : Int32) (e_wn : Int32) (e_lr : Int32) (e_le : Int32) (e_st : Int32) (e_fo : Int32) (e_lc : Int32) (e_b : Int32) (e_wa : Int64) (e_gb : Int64) (f_rf : Nat → Int32) (f_b : Nat → Int32) (f_ro : Nat → Int32) (f_bb : Nat → Int64) (h_e_tl : 0 ≤ e_tl.toInt ∧ e_tl.toInt ≤ 400) (h_e_wn : 0 ≤ e_wn.toInt ∧ e_wn.toInt ≤ 1) (h_e_b : 0 ≤ e_b.toInt ∧ e_b.toInt ≤ 5) (e_hb : QB e_b f_b f_bb f_ro) : Met l yX11_body (wsG yX11_body cX11_body 1 (some .int)) ({ frames := 3, cells := 0, slots := 0, locals := 67 }) (va_Pc [.ref a_o] (g5_P G [(a_o, (oc11 a_h a_im a_ke a_k a_wa a_th a_ha a_wk a_r a_x e_tl e_fd e_fpl a_wd e_wn a_rf e_lr)), (a_rf, (arI G 5 f_rf)), (a_h, (oc1 e_wa e_le e_st e_fo e_lc a_l a_g a_b a_s a_p a_w e_gb a_bb)), (a_b, (oc6 5 24 a_bn e_b)), (a_bn, (arI G 120 f_b))] sz)) (va_Qi (fun (r : Int32) (u : va_W) => (∃ (o_r : Int32) (o_lr : Int32) (o_rf : Nat → Int32) (o_n : Int32) (o_f : Nat → Int32), (0 ≤ o_n.toInt ∧ o_n.toInt ≤ 5) ∧ (o_r = abody f_ro) ∧ (QB o_n o_f f_bb (sbody f_ro)) ∧ (r = o_r) ∧ (u = [(a_o, (oc11 a_h a_im a_ke a_k a_wa a_th a_ha a_wk a_r a_x e_tl e_fd e_fpl a_wd e_wn a_rf o_lr)), (a_rf, (arI G 5 o_rf)), (a_h, (oc1 e_wa e_le e_st e_fo e_lc a_l a_g a_b a_s a_p a_w e_gb a_bb)), (a_b, (oc6 5 24 a_bn o_n)), (a_bn, (arI G 120 o_f))]))) (g5_B G (va_A [(a_o, (oc11 a_h a_im a_ke a_k a_wa a_th a_ha a_wk a_r a_x e_tl e_fd e_fpl a_wd e_wn a_rf e_lr)), (a_rf, (arI G 5 f_rf)), (a_h, (oc1 e_wa e_le e_st e_fo e_lc a_l a_g a_b a_s a_p a_w e_gb a_bb)), (a_b, (oc6 5 24 a_bn e_b)), (a_bn, (arI G 120 f_b))] sz)) (va_A [(a_o, (oc11 a_h a_im a_ke a_k a_wa a_th a_ha a_wk a_r a_x e_tl e_fd e_fpl a_wd e_wn a_rf e_lr)), (a_rf, (arI G 5 f_rf)), (a_h, (oc1 e_wa e_le e_st e_fo e_lc a_l a_g a_b a_s a_p a_w e_gb a_bb)), (a_b, (oc6 5 24 a_bn e_b)), (a_bn, (arI G 120 f_b))] sz)) 0 0 (va_A [(a_o, (oc11 a_h a_im a_ke a_k a_wa a_th a_ha a_wk a_r a_x e_tl e_fd e_fpl a_wd e_wn a_rf e_lr)), (a_rf, (arI G 5 f_rf)), (a_h, (oc1 e_wa e_le e_st e_fo e_lc a_l a_g a_b a_s a_p a_w e_gb a_bb)), (a_b, (oc6 5 24 a_bn e_b)), (a_bn, (arI G 120 f_b))] sz) := by
  refine Met.ofW (cc := cX11_body) (maxL := 1) (ret := (some .int)) (by decide +kernel) rfl ?_
  intro p e s m args below meth c s₁ B hml hv
  obtain ⟨rfl, hsz, hP, hK, hD0, hN, hT⟩ := hv
  have hx := B.exec
  have hb := B.bytes
  have hr := B.returns
  have hts : ∀ w ∈ tblG, w.before _ s = true := fun w h => atoms_spec (ws := (wsG yX11_body cX11_body 1 (some .int))) B.pre w (List.mem_cons_of_mem _ h)
  have hown : s.vm.findClass RX11 = some m.cls := findClass_of_methodNamed B.named
  have hlocks := B.notSynchronized
  subst hsz
  have hD := hD0.self (sz := s.heap.size)
  generalize hAe : va_A [(a_o, (oc11 a_h a_im a_ke a_k a_wa a_th a_ha a_wk a_r a_x e_tl e_fd e_fpl a_wd e_wn a_rf e_lr)), (a_rf, (arI G 5 f_rf)), (a_h, (oc1 e_wa e_le e_st e_fo e_lc a_l a_g a_b a_s a_p a_w e_gb a_bb)), (a_b, (oc6 5 24 a_bn e_b)), (a_bn, (arI G 120 f_b))] s.heap.size = A at hD hT ⊢
  have hA : ∀ q : Nat, s.heap.size ≤ q → A q := fun q h => by rw [← hAe]; exact Or.inr h
  have hS : va_S A s.heap s.heap [] := va_S.rf
  replace hP : va_P G.1 vwCl [(a_o, (oc11 a_h a_im a_ke a_k a_wa a_th a_ha a_wk a_r a_x e_tl e_fd e_fpl a_wd e_wn a_rf e_lr)), (a_rf, (arI G 5 f_rf)), (a_h, (oc1 e_wa e_le e_st e_fo e_lc a_l a_g a_b a_s a_p a_w e_gb a_bb)), (a_b, (oc6 5 24 a_bn e_b)), (a_bn, (arI G 120 f_b))] s.heap := hP
  have hl := lv_entry ([.ref a_o]) (n := 1) (Nat.le_of_ble_eq_true rfl)
  rw [lg_entry_eq]
  generalize (lg_sl ([.ref a_o]) ++ List.replicate (1 - (lg_sl ([.ref a_o])).length) Slot.unset).toArray = ls at hl ⊢
  replace hl : lv_has ls 1 [(0, .ref a_o)] := hl
  refine lv_aload_n hx hb dX11_body_0 rfl (lv_at hl 0 rfl) ?_
  refine va_get (D := G.1) (ci := 11) (v := .ref a_h) (C := RX11) (T := TX11) (N := 17) hx hb hts inG_X11 hown hK hP 0 rfl rfl 0 (by decide +kernel) (hts _ fl_X11_12) (fun _ h9 => h9) rfl dX11_body_1 ?_
  refine va_get (D := G.1) (ci := 1) (v := .ref a_b) (C := RX1) (T := TX1) (N := 13) hx hb hts inG_X1 hown hK hP 2 rfl rfl 7 (by decide +kernel) (hts _ fl_X11_167) (fun _ h9 => h9) rfl dX11_body_4 ?_
  obtain ⟨hPc, hDc, hFc⟩ := g5_sub3 (wc := [(a_b, (oc6 5 24 a_bn e_b))]) hP hD hS hA [3] (by decide +kernel) rfl
  refine va_calli (va_runV (As := []) (rest := []) ⟨hx, hb, hml, hown, hts⟩ (t_isFull_B l G a_b a_bn s.heap.size e_b h_e_b) (cwV 0 hts gV_X11_140 rfl rfl rfl hv_X6_isFull ⟨Nat.le_of_ble_eq_true rfl, Nat.le_of_ble_eq_true rfl⟩) (g5_preV hPc hK hDc hN hT hS hFc (ci := 6) (q0 := 0) rfl rfl) rfl rfl hl.1 rfl (lv_room (Nat.le_of_ble_eq_true rfl)) dX11_body_7 ⟨Nat.le_of_ble_eq_true rfl, Nat.le_of_ble_eq_true rfl⟩) hS (fun q _ h => hFc q h) hFc (fun r u t H locs ht hvm hw hB hz1 hk1 hS => ?_)
  obtain ⟨hP1, hD1⟩ := hB
  have hP1 := g5_ht ht hP1
  rcases hw with ⟨(i_1 : e_b.toInt = 5), rfl, rfl⟩ | ⟨(i_2 : e_b.toInt < 5), rfl, rfl⟩
  ·
    have hJ9 := va_join (wr := [(a_o, (oc11 a_h a_im a_ke a_k a_wa a_th a_ha a_wk a_r a_x e_tl e_fd e_fpl a_wd e_wn a_rf e_lr)), (a_rf, (arI G 5 f_rf)), (a_h, (oc1 e_wa e_le e_st e_fo e_lc a_l a_g a_b a_s a_p a_w e_gb a_bb)), (a_bn, (arI G 120 f_b))]) hP hD [3] [0, 1, 2, 4] rfl rfl (by decide +kernel) (by decide +kernel) hk1 hFc hP1 hD1
    clear hP hD hPc hDc hFc ht hvm hz1 hk1 hP1 hD1
    obtain ⟨hP, hD⟩ := hJ9
    refine g5_rs [(a_o, (oc11 a_h a_im a_ke a_k a_wa a_th a_ha a_wk a_r a_x e_tl e_fd e_fpl a_wd e_wn a_rf e_lr)), (a_rf, (arI G 5 f_rf)), (a_h, (oc1 e_wa e_le e_st e_fo e_lc a_l a_g a_b a_s a_p a_w e_gb a_bb)), (a_bn, (arI G 120 f_b)), (a_b, (oc6 5 24 a_bn e_b))] hP hD ?_
    clear hP hD
    intro hP hD
    refine lv_if_eq (tgt := 20) hx hb dX11_body_10 (by decide +kernel) (fun c_3 => ?_) (fun c_3 => ?_)
    ·
      exact absurd c_3 (by decide +kernel)
    ·
      refine lv_aload_n hx hb dX11_body_13 rfl (lv_at hl 0 rfl) ?_
      refine lv_bipush (v := (-5)) hx hb dX11_body_14 (by decide +kernel) ?_
      obtain ⟨hPc, hDc, hFc⟩ := g5_sub3 (wc := [(a_o, (oc11 a_h a_im a_ke a_k a_wa a_th a_ha a_wk a_r a_x e_tl e_fd e_fpl a_wd e_wn a_rf e_lr)), (a_rf, (arI G 5 f_rf))]) hP hD hS hA [0, 1] (by decide +kernel) rfl
      refine va_calli (va_runV (As := [.int (-5)]) (rest := []) ⟨hx, hb, hml, hown, hts⟩ (x_refuse5 l G a_o a_rf a_h a_im a_ke a_k a_wa a_th a_ha a_wk a_r a_x a_wd H.size e_tl e_fd e_fpl e_wn e_lr f_rf h_e_tl h_e_wn) (cwV 1 hts gV_X11_104 rfl rfl rfl hv_X11_refuse ⟨Nat.le_of_ble_eq_true rfl, Nat.le_of_ble_eq_true rfl⟩) (g5_preV hPc hK hDc hN hT hS hFc (ci := 11) (q0 := 0) rfl rfl) rfl rfl hl.1 rfl (lv_room (Nat.le_of_ble_eq_true rfl)) dX11_body_16 ⟨Nat.le_of_ble_eq_true rfl, Nat.le_of_ble_eq_true rfl⟩) hS (fun q _ h => hFc q h) hFc (fun r u t H locs ht hvm hw hB hz1 hk1 hS => ?_)
      obtain ⟨hP1, hD1⟩ := hB
      have hP1 := g5_ht ht hP1
      obtain ⟨z4, rfl, rfl⟩ := hw
      have hJ9 := va_join (wr := [(a_h, (oc1 e_wa e_le e_st e_fo e_lc a_l a_g a_b a_s a_p a_w e_gb a_bb)), (a_bn, (arI G 120 f_b)), (a_b, (oc6 5 24 a_bn e_b))]) hP hD [0, 1] [2, 3, 4] rfl rfl (by decide +kernel) (by decide +kernel) hk1 hFc hP1 hD1
      clear hP hD hPc hDc hFc ht hvm hz1 hk1 hP1 hD1
      obtain ⟨hP, hD⟩ := hJ9
      refine g5_rs [(a_h, (oc1 e_wa e_le e_st e_fo e_lc a_l a_g a_b a_s a_p a_w e_gb a_bb)), (a_bn, (arI G 120 f_b)), (a_b, (oc6 5 24 a_bn e_b)), (a_o, (oc11 a_h a_im a_ke a_k a_wa a_th a_ha a_wk a_r a_x e_tl e_fd e_fpl a_wd e_wn a_rf (-5))), (a_rf, (arI G 5 z4))] hP hD ?_
      clear hP hD
      intro hP hD
      exact W.iret (v := (-5)) hx hb hr (fun t ht hW => ⟨⟨(-5), [(a_o, (oc11 a_h a_im a_ke a_k a_wa a_th a_ha a_wk a_r a_x e_tl e_fd e_fpl a_wd e_wn a_rf (-5))), (a_rf, (arI G 5 z4)), (a_h, (oc1 e_wa e_le e_st e_fo e_lc a_l a_g a_b a_s a_p a_w e_gb a_bb)), (a_b, (oc6 5 24 a_bn e_b)), (a_bn, (arI G 120 f_b))], rfl, ⟨(-5), (-5), z4, e_b, f_b, h_e_b, (body_5 (f := f_ro) (by rw [e_hb.2.1]; omega)).1.symm, by rw [(body_5 (f := f_ro) (by rw [e_hb.2.1]; omega)).2]; exact e_hb, rfl, rfl⟩, by rw [ht]; exact hP.sub [3, 4, 0, 2, 1] rfl, hD.sub [3, 4, 0, 2, 1] (by decide +kernel) rfl⟩, hS.F ht⟩) hS.2.2 dX11_body_19
  ·
    have hJ9 := va_join (wr := [(a_o, (oc11 a_h a_im a_ke a_k a_wa a_th a_ha a_wk a_r a_x e_tl e_fd e_fpl a_wd e_wn a_rf e_lr)), (a_rf, (arI G 5 f_rf)), (a_h, (oc1 e_wa e_le e_st e_fo e_lc a_l a_g a_b a_s a_p a_w e_gb a_bb)), (a_bn, (arI G 120 f_b))]) hP hD [3] [0, 1, 2, 4] rfl rfl (by decide +kernel) (by decide +kernel) hk1 hFc hP1 hD1
    clear hP hD hPc hDc hFc ht hvm hz1 hk1 hP1 hD1
    obtain ⟨hP, hD⟩ := hJ9
    refine g5_rs [(a_o, (oc11 a_h a_im a_ke a_k a_wa a_th a_ha a_wk a_r a_x e_tl e_fd e_fpl a_wd e_wn a_rf e_lr)), (a_rf, (arI G 5 f_rf)), (a_h, (oc1 e_wa e_le e_st e_fo e_lc a_l a_g a_b a_s a_p a_w e_gb a_bb)), (a_bn, (arI G 120 f_b)), (a_b, (oc6 5 24 a_bn e_b))] hP hD ?_
    clear hP hD
    intro hP hD
    refine lv_if_eq (tgt := 20) hx hb dX11_body_10 (by decide +kernel) (fun c_5 => ?_) (fun c_5 => ?_)
    ·
      refine lv_aload_n hx hb dX11_body_20 rfl (lv_at hl 0 rfl) ?_
      refine lv_aload_n hx hb dX11_body_21 rfl (lv_at hl 0 rfl) ?_
      refine va_get (D := G.1) (ci := 11) (v := .ref a_h) (C := RX11) (T := TX11) (N := 17) hx hb hts inG_X11 hown hK hP 0 rfl rfl 0 (by decide +kernel) (hts _ fl_X11_12) (fun _ h9 => h9) rfl dX11_body_22 ?_
      refine va_get (D := G.1) (ci := 1) (v := .ref a_b) (C := RX1) (T := TX1) (N := 13) hx hb hts inG_X1 hown hK hP 2 rfl rfl 7 (by decide +kernel) (hts _ fl_X11_167) (fun _ h9 => h9) rfl dX11_body_25 ?_
      refine W.eq (g2 := F0 m 28 ls [.ref a_b, .ref a_o]) rfl ?_
      refine lv_iconst (v := (-1)) hx hb dX11_body_28 (by decide +kernel) ?_
      obtain ⟨hPc, hDc, hFc⟩ := g5_sub3 (wc := [(a_b, (oc6 5 24 a_bn e_b)), (a_bn, (arI G 120 f_b))]) hP hD hS hA [4, 3] (by decide +kernel) rfl
      refine va_calli (va_runV (As := [.int (-1)]) (rest := [.ref a_o]) ⟨hx, hb, hml, hown, hts⟩ (t_open_B l G a_b a_bn H.size e_b (-1) f_b h_e_b) (cwV 1 hts gV_X11_146 rfl rfl rfl hv_X6_open ⟨Nat.le_of_ble_eq_true rfl, Nat.le_of_ble_eq_true rfl⟩) (g5_preV hPc hK hDc hN hT hS hFc (ci := 6) (q0 := 0) rfl rfl) rfl rfl hl.1 rfl (lv_room (Nat.le_of_ble_eq_true rfl)) dX11_body_29 ⟨Nat.le_of_ble_eq_true rfl, Nat.le_of_ble_eq_true rfl⟩) hS (fun q _ h => hFc q h) hFc (fun r u t H locs ht hvm hw hB hz1 hk1 hS => ?_)
      obtain ⟨hP1, hD1⟩ := hB
      have hP1 := g5_ht ht hP1
      rcases hw with ⟨(i_6 : e_b.toInt = 5), rfl, rfl⟩ | ⟨z10, (i_7 : e_b.toInt < 5), (i_8 : (e_b + 1).toInt = e_b.toInt + 1), (i_9 : z10 = tfil f_b e_b.toInt 24 ((-1) : Int32) 24), y11, rfl⟩
      ·
        omega
      ·
        have hJ9 := va_join (wr := [(a_o, (oc11 a_h a_im a_ke a_k a_wa a_th a_ha a_wk a_r a_x e_tl e_fd e_fpl a_wd e_wn a_rf e_lr)), (a_rf, (arI G 5 f_rf)), (a_h, (oc1 e_wa e_le e_st e_fo e_lc a_l a_g a_b a_s a_p a_w e_gb a_bb))]) hP hD [4, 3] [0, 1, 2] rfl rfl (by decide +kernel) (by decide +kernel) hk1 hFc hP1 hD1
        clear hP hD hPc hDc hFc ht hvm hz1 hk1 hP1 hD1
        obtain ⟨hP, hD⟩ := hJ9
        refine g5_rs [(a_o, (oc11 a_h a_im a_ke a_k a_wa a_th a_ha a_wk a_r a_x e_tl e_fd e_fpl a_wd e_wn a_rf e_lr)), (a_rf, (arI G 5 f_rf)), (a_h, (oc1 e_wa e_le e_st e_fo e_lc a_l a_g a_b a_s a_p a_w e_gb a_bb)), (a_b, (oc6 5 24 a_bn (e_b + 1))), (a_bn, (arI G 120 z10))] hP hD ?_
        clear hP hD
        intro hP hD
        refine g5_ti (v := e_b) y11 ?_
        obtain ⟨hPc, hDc, hFc⟩ := g5_sub3 (wc := [(a_o, (oc11 a_h a_im a_ke a_k a_wa a_th a_ha a_wk a_r a_x e_tl e_fd e_fpl a_wd e_wn a_rf e_lr))]) hP hD hS hA [0] (by decide +kernel) rfl
        refine va_calli (va_runV (As := [.int e_b]) (rest := []) ⟨hx, hb, hml, hown, hts⟩ (x_done l G a_o a_h a_im a_ke a_k a_wa a_th a_ha a_wk a_r a_x a_wd a_rf H.size e_tl e_fd e_fpl e_wn e_lr e_b h_e_tl h_e_wn) (cwV 1 hts gV_X11_121 rfl rfl rfl hv_X11_done ⟨Nat.le_of_ble_eq_true rfl, Nat.le_of_ble_eq_true rfl⟩) (g5_preV hPc hK hDc hN hT hS hFc (ci := 11) (q0 := 0) rfl rfl) rfl rfl hl.1 rfl (lv_room (Nat.le_of_ble_eq_true rfl)) dX11_body_32 ⟨Nat.le_of_ble_eq_true rfl, Nat.le_of_ble_eq_true rfl⟩) hS (fun q _ h => hFc q h) hFc (fun r u t H locs ht hvm hw hB hz1 hk1 hS => ?_)
        obtain ⟨hP1, hD1⟩ := hB
        have hP1 := g5_ht ht hP1
        obtain ⟨y12, rfl⟩ := hw
        have hJ9 := va_join (wr := [(a_rf, (arI G 5 f_rf)), (a_h, (oc1 e_wa e_le e_st e_fo e_lc a_l a_g a_b a_s a_p a_w e_gb a_bb)), (a_b, (oc6 5 24 a_bn (e_b + 1))), (a_bn, (arI G 120 z10))]) hP hD [0] [1, 2, 3, 4] rfl rfl (by decide +kernel) (by decide +kernel) hk1 hFc hP1 hD1
        clear hP hD hPc hDc hFc ht hvm hz1 hk1 hP1 hD1
        obtain ⟨hP, hD⟩ := hJ9
        refine g5_rs [(a_rf, (arI G 5 f_rf)), (a_h, (oc1 e_wa e_le e_st e_fo e_lc a_l a_g a_b a_s a_p a_w e_gb a_bb)), (a_b, (oc6 5 24 a_bn (e_b + 1))), (a_bn, (arI G 120 z10)), (a_o, (oc11 a_h a_im a_ke a_k a_wa a_th a_ha a_wk a_r a_x e_tl e_fd e_fpl a_wd e_wn a_rf 0))] hP hD ?_
        clear hP hD
        intro hP hD
        refine g5_ti (v := e_b) y12 ?_
        exact W.iret (v := e_b) hx hb hr (fun t ht hW => ⟨⟨e_b, [(a_o, (oc11 a_h a_im a_ke a_k a_wa a_th a_ha a_wk a_r a_x e_tl e_fd e_fpl a_wd e_wn a_rf 0)), (a_rf, (arI G 5 f_rf)), (a_h, (oc1 e_wa e_le e_st e_fo e_lc a_l a_g a_b a_s a_p a_w e_gb a_bb)), (a_b, (oc6 5 24 a_bn (e_b + 1))), (a_bn, (arI G 120 z10))], rfl, ⟨e_b, 0, f_rf, (e_b + 1), z10, ⟨by omega, by omega⟩, by rw [(body_0 (f := f_ro) (by rw [e_hb.2.1]; omega)).1]; exact e_hb.2.1.symm, by rw [i_9]; exact hb_body e_hb (by omega) (by omega), rfl, rfl⟩, by rw [ht]; exact hP.sub [4, 0, 1, 2, 3] rfl, hD.sub [4, 0, 1, 2, 3] (by decide +kernel) rfl⟩, hS.F ht⟩) hS.2.2 dX11_body_35
    ·
      exact absurd c_5 (by decide +kernel)
set_option maxHeartbeats 4000000 in
set_option maxRecDepth 100000 in
theorem x_stayX (l : Launch) (G : g5_G) (a_o a_rf a_h a_b a_bn a_bb a_im a_ke a_k a_wa a_th a_ha a_wk a_r a_x a_wd a_l a_g a_s a_p a_w : Nat) (sz : Nat) (e_tl : Int32) (e_fd : Int32) (e_fpl : Int32) (e_wn : Int32) (e_lr : Int32) (e_le : Int32) (e_st : Int32) (e_fo : Int32) (e_lc : Int32) (e_b : Int32) (p_b : Int32) (p_f : Int32) (p_t : Int32) (p_c : Int32) (e_wa : Int64) (e_gb : Int64) (f_rf : Nat → Int32) (f_b : Nat → Int32) (f_bb : Nat → Int64) (f_ro : Nat → Int32) (h_e_tl : 0 ≤ e_tl.toInt ∧ e_tl.toInt ≤ 400) (h_e_wn : 0 ≤ e_wn.toInt ∧ e_wn.toInt ≤ 1) (h_e_b : 0 ≤ e_b.toInt ∧ e_b.toInt ≤ 5) (e_hh : QH e_wa e_le e_st f_ro) (e_hb : QB e_b f_b f_bb f_ro) : Met l yX11_stay (wsG yX11_stay cX11_stay 5 (some .int)) ({ frames := 3, cells := 0, slots := 0, locals := 73 }) (va_Pc [.ref a_o, .int p_b, .int p_f, .int p_t, .int p_c] (g5_P G [(a_o, (oc11 a_h a_im a_ke a_k a_wa a_th a_ha a_wk a_r a_x e_tl e_fd e_fpl a_wd e_wn a_rf e_lr)), (a_rf, (arI G 5 f_rf)), (a_h, (oc1 e_wa e_le e_st e_fo e_lc a_l a_g a_b a_s a_p a_w e_gb a_bb)), (a_b, (oc6 5 24 a_bn e_b)), (a_bn, (arI G 120 f_b)), (a_bb, (arJ G 24 f_bb))] sz)) (va_Qi (fun (r : Int32) (u : va_W) => (∃ (o_r : Int32) (o_lr : Int32) (o_rf : Nat → Int32) (o_f : Nat → Int32) (o_bb : Nat → Int64), (o_r = astay f_ro p_b p_f p_t p_c) ∧ (QB e_b o_f o_bb (sstay f_ro p_b p_f p_t p_c)) ∧ (r = o_r) ∧ (u = [(a_o, (oc11 a_h a_im a_ke a_k a_wa a_th a_ha a_wk a_r a_x e_tl e_fd e_fpl a_wd e_wn a_rf o_lr)), (a_rf, (arI G 5 o_rf)), (a_h, (oc1 e_wa e_le e_st e_fo e_lc a_l a_g a_b a_s a_p a_w e_gb a_bb)), (a_b, (oc6 5 24 a_bn e_b)), (a_bn, (arI G 120 o_f)), (a_bb, (arJ G 24 o_bb))]))) (g5_B G (va_A [(a_o, (oc11 a_h a_im a_ke a_k a_wa a_th a_ha a_wk a_r a_x e_tl e_fd e_fpl a_wd e_wn a_rf e_lr)), (a_rf, (arI G 5 f_rf)), (a_h, (oc1 e_wa e_le e_st e_fo e_lc a_l a_g a_b a_s a_p a_w e_gb a_bb)), (a_b, (oc6 5 24 a_bn e_b)), (a_bn, (arI G 120 f_b)), (a_bb, (arJ G 24 f_bb))] sz)) (va_A [(a_o, (oc11 a_h a_im a_ke a_k a_wa a_th a_ha a_wk a_r a_x e_tl e_fd e_fpl a_wd e_wn a_rf e_lr)), (a_rf, (arI G 5 f_rf)), (a_h, (oc1 e_wa e_le e_st e_fo e_lc a_l a_g a_b a_s a_p a_w e_gb a_bb)), (a_b, (oc6 5 24 a_bn e_b)), (a_bn, (arI G 120 f_b)), (a_bb, (arJ G 24 f_bb))] sz)) 0 0 (va_A [(a_o, (oc11 a_h a_im a_ke a_k a_wa a_th a_ha a_wk a_r a_x e_tl e_fd e_fpl a_wd e_wn a_rf e_lr)), (a_rf, (arI G 5 f_rf)), (a_h, (oc1 e_wa e_le e_st e_fo e_lc a_l a_g a_b a_s a_p a_w e_gb a_bb)), (a_b, (oc6 5 24 a_bn e_b)), (a_bn, (arI G 120 f_b)), (a_bb, (arJ G 24 f_bb))] sz) := by
  refine Met.ofW (cc := cX11_stay) (maxL := 5) (ret := (some .int)) (by decide +kernel) rfl ?_
  intro p e s m args below meth c s₁ B hml hv
  obtain ⟨rfl, hsz, hP, hK, hD0, hN, hT⟩ := hv
  have hx := B.exec
  have hb := B.bytes
  have hr := B.returns
  have hts : ∀ w ∈ tblG, w.before _ s = true := fun w h => atoms_spec (ws := (wsG yX11_stay cX11_stay 5 (some .int))) B.pre w (List.mem_cons_of_mem _ h)
  have hown : s.vm.findClass RX11 = some m.cls := findClass_of_methodNamed B.named
  have hlocks := B.notSynchronized
  subst hsz
  have hD := hD0.self (sz := s.heap.size)
  generalize hAe : va_A [(a_o, (oc11 a_h a_im a_ke a_k a_wa a_th a_ha a_wk a_r a_x e_tl e_fd e_fpl a_wd e_wn a_rf e_lr)), (a_rf, (arI G 5 f_rf)), (a_h, (oc1 e_wa e_le e_st e_fo e_lc a_l a_g a_b a_s a_p a_w e_gb a_bb)), (a_b, (oc6 5 24 a_bn e_b)), (a_bn, (arI G 120 f_b)), (a_bb, (arJ G 24 f_bb))] s.heap.size = A at hD hT ⊢
  have hA : ∀ q : Nat, s.heap.size ≤ q → A q := fun q h => by rw [← hAe]; exact Or.inr h
  have hS : va_S A s.heap s.heap [] := va_S.rf
  replace hP : va_P G.1 vwCl [(a_o, (oc11 a_h a_im a_ke a_k a_wa a_th a_ha a_wk a_r a_x e_tl e_fd e_fpl a_wd e_wn a_rf e_lr)), (a_rf, (arI G 5 f_rf)), (a_h, (oc1 e_wa e_le e_st e_fo e_lc a_l a_g a_b a_s a_p a_w e_gb a_bb)), (a_b, (oc6 5 24 a_bn e_b)), (a_bn, (arI G 120 f_b)), (a_bb, (arJ G 24 f_bb))] s.heap := hP
  have hl := lv_entry ([.ref a_o, .int p_b, .int p_f, .int p_t, .int p_c]) (n := 5) (Nat.le_of_ble_eq_true rfl)
  rw [lg_entry_eq]
  generalize (lg_sl ([.ref a_o, .int p_b, .int p_f, .int p_t, .int p_c]) ++ List.replicate (5 - (lg_sl ([.ref a_o, .int p_b, .int p_f, .int p_t, .int p_c])).length) Slot.unset).toArray = ls at hl ⊢
  replace hl : lv_has ls 5 [(0, .ref a_o), (1, .int p_b), (2, .int p_f), (3, .int p_t), (4, .int p_c)] := hl
  have hbb_ : ∀ c : Nat, c < 24 → f_bb c = bbd f_b e_b.toInt c e_b.toInt.toNat := e_hb.2.2.2.1
  refine lv_iload_n hx hb dX11_stay_0 rfl (lv_at hl 2 rfl) ?_
  refine lv_iload_n hx hb dX11_stay_1 rfl (lv_at hl 3 rfl) ?_
  refine lv_iload hx hb dX11_stay_2 (lv_at hl 4 rfl) ?_
  obtain ⟨hPc, hDc, hFc⟩ := g5_sub3 (wc := []) hP hD hS hA [] (by decide +kernel) rfl
  refine va_calli (va_runS (As := [.int p_f, .int p_t, .int p_c]) (rest := []) ⟨hx, hb, hml, hown, hts⟩ (x_isStayX l G s.heap.size p_f p_t p_c) (va_cwS 3 hts gS_X11_170 rfl rfl rfl hs_X11_isStay ⟨Nat.le_of_ble_eq_true rfl, Nat.le_of_ble_eq_true rfl⟩) (g5_preS hPc hK hDc hN hT hS hFc) rfl rfl hl.1 rfl (lv_room (Nat.le_of_ble_eq_true rfl)) dX11_stay_4 ⟨Nat.le_of_ble_eq_true rfl, Nat.le_of_ble_eq_true rfl⟩) hS (fun q _ h => hFc q h) hFc (fun r u t H locs ht hvm hw hB hz1 hk1 hS => ?_)
  obtain ⟨hP1, hD1⟩ := hB
  have hP1 := g5_ht ht hP1
  rcases hw with ⟨(i_1 : 0 ≤ p_f.toInt ∧ p_f.toInt ≤ 23), (i_2 : 0 ≤ p_t.toInt ∧ p_t.toInt ≤ 23), (i_3 : -1 ≤ p_c.toInt ∧ p_c.toInt ≤ 63), (i_4 : p_f.toInt ≤ p_t.toInt), (i_5 : okS p_f p_t p_c), rfl, rfl⟩ | ⟨(i_6 : ¬ okS p_f p_t p_c), rfl, rfl⟩
  ·
    have hJ9 := g5_same hP hk1
    clear hP hPc hDc hFc ht hvm hz1 hk1 hP1 hD1
    have hP := hJ9
    clear hJ9
    refine lv_if_ne (tgt := 16) hx hb dX11_stay_7 (by decide +kernel) (fun c_7 => ?_) (fun c_7 => ?_)
    ·
      refine lv_aload_n hx hb dX11_stay_16 rfl (lv_at hl 0 rfl) ?_
      refine va_get (D := G.1) (ci := 11) (v := .ref a_h) (C := RX11) (T := TX11) (N := 17) hx hb hts inG_X11 hown hK hP 0 rfl rfl 0 (by decide +kernel) (hts _ fl_X11_12) (fun _ h9 => h9) rfl dX11_stay_17 ?_
      refine va_get (D := G.1) (ci := 1) (v := .ref a_b) (C := RX1) (T := TX1) (N := 13) hx hb hts inG_X1 hown hK hP 2 rfl rfl 7 (by decide +kernel) (hts _ fl_X11_167) (fun _ h9 => h9) rfl dX11_stay_20 ?_
      refine lv_iload_n hx hb dX11_stay_23 rfl (lv_at hl 1 rfl) ?_
      refine W.eq (g2 := F0 m 24 ls [.int p_b, .ref a_b]) rfl ?_
      obtain ⟨hPc, hDc, hFc⟩ := g5_sub3 (wc := [(a_b, (oc6 5 24 a_bn e_b))]) hP hD hS hA [3] (by decide +kernel) rfl
      refine va_calli (va_runV (As := [.int p_b]) (rest := []) ⟨hx, hb, hml, hown, hts⟩ (t_has_B l G a_b a_bn H.size e_b p_b h_e_b) (cwV 1 hts gV_X11_160 rfl rfl rfl hv_X6_has ⟨Nat.le_of_ble_eq_true rfl, Nat.le_of_ble_eq_true rfl⟩) (g5_preV hPc hK hDc hN hT hS hFc (ci := 6) (q0 := 0) rfl rfl) rfl rfl hl.1 rfl (lv_room (Nat.le_of_ble_eq_true rfl)) dX11_stay_24 ⟨Nat.le_of_ble_eq_true rfl, Nat.le_of_ble_eq_true rfl⟩) hS (fun q _ h => hFc q h) hFc (fun r u t H locs ht hvm hw hB hz1 hk1 hS => ?_)
      obtain ⟨hP1, hD1⟩ := hB
      have hP1 := g5_ht ht hP1
      rcases hw with ⟨(i_8 : 0 ≤ p_b.toInt ∧ p_b.toInt < e_b.toInt), rfl, rfl⟩ | ⟨(i_9 : p_b.toInt < 0 ∨ e_b.toInt ≤ p_b.toInt), rfl, rfl⟩
      ·
        have hJ9 := va_join (wr := [(a_o, (oc11 a_h a_im a_ke a_k a_wa a_th a_ha a_wk a_r a_x e_tl e_fd e_fpl a_wd e_wn a_rf e_lr)), (a_rf, (arI G 5 f_rf)), (a_h, (oc1 e_wa e_le e_st e_fo e_lc a_l a_g a_b a_s a_p a_w e_gb a_bb)), (a_bn, (arI G 120 f_b)), (a_bb, (arJ G 24 f_bb))]) hP hD [3] [0, 1, 2, 4, 5] rfl rfl (by decide +kernel) (by decide +kernel) hk1 hFc hP1 hD1
        clear hP hD hPc hDc hFc ht hvm hz1 hk1 hP1 hD1
        obtain ⟨hP, hD⟩ := hJ9
        refine g5_rs [(a_o, (oc11 a_h a_im a_ke a_k a_wa a_th a_ha a_wk a_r a_x e_tl e_fd e_fpl a_wd e_wn a_rf e_lr)), (a_rf, (arI G 5 f_rf)), (a_h, (oc1 e_wa e_le e_st e_fo e_lc a_l a_g a_b a_s a_p a_w e_gb a_bb)), (a_bn, (arI G 120 f_b)), (a_bb, (arJ G 24 f_bb)), (a_b, (oc6 5 24 a_bn e_b))] hP hD ?_
        clear hP hD
        intro hP hD
        refine lv_if_ne (tgt := 37) hx hb dX11_stay_27 (by decide +kernel) (fun c_10 => ?_) (fun c_10 => ?_)
        ·
          refine lv_aload_n hx hb dX11_stay_37 rfl (lv_at hl 0 rfl) ?_
          refine va_get (D := G.1) (ci := 11) (v := .ref a_h) (C := RX11) (T := TX11) (N := 17) hx hb hts inG_X11 hown hK hP 0 rfl rfl 0 (by decide +kernel) (hts _ fl_X11_12) (fun _ h9 => h9) rfl dX11_stay_38 ?_
          refine lv_iload hx hb dX11_stay_41 (lv_at hl 4 rfl) ?_
          obtain ⟨hPc, hDc, hFc⟩ := g5_sub3 (wc := [(a_h, (oc1 e_wa e_le e_st e_fo e_lc a_l a_g a_b a_s a_p a_w e_gb a_bb))]) hP hD hS hA [2] (by decide +kernel) rfl
          refine va_calli (va_runV (As := [.int p_c]) (rest := []) ⟨hx, hb, hml, hown, hts⟩ (h_isWalled l G a_h a_l a_g a_b a_s a_p a_w a_bb H.size e_le e_st e_fo e_lc p_c e_wa e_gb ⟨by omega, by omega⟩) (cwV 1 hts gV_X11_174 rfl rfl rfl hv_X1_isWalled ⟨Nat.le_of_ble_eq_true rfl, Nat.le_of_ble_eq_true rfl⟩) (g5_preV hPc hK hDc hN hT hS hFc (ci := 1) (q0 := 0) rfl rfl) rfl rfl hl.1 rfl (lv_room (Nat.le_of_ble_eq_true rfl)) dX11_stay_43 ⟨Nat.le_of_ble_eq_true rfl, Nat.le_of_ble_eq_true rfl⟩) hS (fun q _ h => hFc q h) hFc (fun r u t H locs ht hvm hw hB hz1 hk1 hS => ?_)
          obtain ⟨hP1, hD1⟩ := hB
          have hP1 := g5_ht ht hP1
          rcases hw with ⟨(i_11 : 0 ≤ p_c.toInt ∧ onB e_wa p_c.toInt = true), rfl, rfl⟩ | ⟨(i_12 : p_c.toInt = -1 ∨ onB e_wa p_c.toInt = false), rfl, rfl⟩
          ·
            have hJ9 := va_join (wr := [(a_o, (oc11 a_h a_im a_ke a_k a_wa a_th a_ha a_wk a_r a_x e_tl e_fd e_fpl a_wd e_wn a_rf e_lr)), (a_rf, (arI G 5 f_rf)), (a_bn, (arI G 120 f_b)), (a_bb, (arJ G 24 f_bb)), (a_b, (oc6 5 24 a_bn e_b))]) hP hD [2] [0, 1, 3, 4, 5] rfl rfl (by decide +kernel) (by decide +kernel) hk1 hFc hP1 hD1
            clear hP hD hPc hDc hFc ht hvm hz1 hk1 hP1 hD1
            obtain ⟨hP, hD⟩ := hJ9
            refine g5_rs [(a_o, (oc11 a_h a_im a_ke a_k a_wa a_th a_ha a_wk a_r a_x e_tl e_fd e_fpl a_wd e_wn a_rf e_lr)), (a_rf, (arI G 5 f_rf)), (a_bn, (arI G 120 f_b)), (a_bb, (arJ G 24 f_bb)), (a_b, (oc6 5 24 a_bn e_b)), (a_h, (oc1 e_wa e_le e_st e_fo e_lc a_l a_g a_b a_s a_p a_w e_gb a_bb))] hP hD ?_
            clear hP hD
            intro hP hD
            refine lv_if_eq (tgt := 56) hx hb dX11_stay_46 (by decide +kernel) (fun c_13 => ?_) (fun c_13 => ?_)
            ·
              exact absurd c_13 (by decide +kernel)
            ·
              refine lv_aload_n hx hb dX11_stay_49 rfl (lv_at hl 0 rfl) ?_
              refine lv_bipush (v := (-3)) hx hb dX11_stay_50 (by decide +kernel) ?_
              obtain ⟨hPc, hDc, hFc⟩ := g5_sub3 (wc := [(a_o, (oc11 a_h a_im a_ke a_k a_wa a_th a_ha a_wk a_r a_x e_tl e_fd e_fpl a_wd e_wn a_rf e_lr)), (a_rf, (arI G 5 f_rf))]) hP hD hS hA [0, 1] (by decide +kernel) rfl
              refine va_calli (va_runV (As := [.int (-3)]) (rest := []) ⟨hx, hb, hml, hown, hts⟩ (x_refuse3 l G a_o a_rf a_h a_im a_ke a_k a_wa a_th a_ha a_wk a_r a_x a_wd H.size e_tl e_fd e_fpl e_wn e_lr f_rf h_e_tl h_e_wn) (cwV 1 hts gV_X11_104 rfl rfl rfl hv_X11_refuse ⟨Nat.le_of_ble_eq_true rfl, Nat.le_of_ble_eq_true rfl⟩) (g5_preV hPc hK hDc hN hT hS hFc (ci := 11) (q0 := 0) rfl rfl) rfl rfl hl.1 rfl (lv_room (Nat.le_of_ble_eq_true rfl)) dX11_stay_52 ⟨Nat.le_of_ble_eq_true rfl, Nat.le_of_ble_eq_true rfl⟩) hS (fun q _ h => hFc q h) hFc (fun r u t H locs ht hvm hw hB hz1 hk1 hS => ?_)
              obtain ⟨hP1, hD1⟩ := hB
              have hP1 := g5_ht ht hP1
              obtain ⟨z14, rfl, rfl⟩ := hw
              have hJ9 := va_join (wr := [(a_bn, (arI G 120 f_b)), (a_bb, (arJ G 24 f_bb)), (a_b, (oc6 5 24 a_bn e_b)), (a_h, (oc1 e_wa e_le e_st e_fo e_lc a_l a_g a_b a_s a_p a_w e_gb a_bb))]) hP hD [0, 1] [2, 3, 4, 5] rfl rfl (by decide +kernel) (by decide +kernel) hk1 hFc hP1 hD1
              clear hP hD hPc hDc hFc ht hvm hz1 hk1 hP1 hD1
              obtain ⟨hP, hD⟩ := hJ9
              refine g5_rs [(a_bn, (arI G 120 f_b)), (a_bb, (arJ G 24 f_bb)), (a_b, (oc6 5 24 a_bn e_b)), (a_h, (oc1 e_wa e_le e_st e_fo e_lc a_l a_g a_b a_s a_p a_w e_gb a_bb)), (a_o, (oc11 a_h a_im a_ke a_k a_wa a_th a_ha a_wk a_r a_x e_tl e_fd e_fpl a_wd e_wn a_rf (-3))), (a_rf, (arI G 5 z14))] hP hD ?_
              clear hP hD
              intro hP hD
              exact W.iret (v := (-3)) hx hb hr (fun t ht hW => ⟨⟨(-3), [(a_o, (oc11 a_h a_im a_ke a_k a_wa a_th a_ha a_wk a_r a_x e_tl e_fd e_fpl a_wd e_wn a_rf (-3))), (a_rf, (arI G 5 z14)), (a_h, (oc1 e_wa e_le e_st e_fo e_lc a_l a_g a_b a_s a_p a_w e_gb a_bb)), (a_b, (oc6 5 24 a_bn e_b)), (a_bn, (arI G 120 f_b)), (a_bb, (arJ G 24 f_bb))], rfl, ⟨(-3), (-3), z14, f_b, f_bb, (stay_3 (f := f_ro) (b := p_b) (a := p_f) (e := p_t) (c := p_c) i_5 (isb_y e_hb ⟨by omega, by omega⟩) (wl_y e_hh (by omega) i_11)).1.symm, by rw [(stay_3 (f := f_ro) (b := p_b) (a := p_f) (e := p_t) (c := p_c) i_5 (isb_y e_hb ⟨by omega, by omega⟩) (wl_y e_hh (by omega) i_11)).2]; exact e_hb, rfl, rfl⟩, by rw [ht]; exact hP.sub [4, 5, 3, 2, 0, 1] rfl, hD.sub [4, 5, 3, 2, 0, 1] (by decide +kernel) rfl⟩, hS.F ht⟩) hS.2.2 dX11_stay_55
          ·
            have hJ9 := va_join (wr := [(a_o, (oc11 a_h a_im a_ke a_k a_wa a_th a_ha a_wk a_r a_x e_tl e_fd e_fpl a_wd e_wn a_rf e_lr)), (a_rf, (arI G 5 f_rf)), (a_bn, (arI G 120 f_b)), (a_bb, (arJ G 24 f_bb)), (a_b, (oc6 5 24 a_bn e_b))]) hP hD [2] [0, 1, 3, 4, 5] rfl rfl (by decide +kernel) (by decide +kernel) hk1 hFc hP1 hD1
            clear hP hD hPc hDc hFc ht hvm hz1 hk1 hP1 hD1
            obtain ⟨hP, hD⟩ := hJ9
            refine g5_rs [(a_o, (oc11 a_h a_im a_ke a_k a_wa a_th a_ha a_wk a_r a_x e_tl e_fd e_fpl a_wd e_wn a_rf e_lr)), (a_rf, (arI G 5 f_rf)), (a_bn, (arI G 120 f_b)), (a_bb, (arJ G 24 f_bb)), (a_b, (oc6 5 24 a_bn e_b)), (a_h, (oc1 e_wa e_le e_st e_fo e_lc a_l a_g a_b a_s a_p a_w e_gb a_bb))] hP hD ?_
            clear hP hD
            intro hP hD
            refine lv_if_eq (tgt := 56) hx hb dX11_stay_46 (by decide +kernel) (fun c_15 => ?_) (fun c_15 => ?_)
            ·
              refine lv_aload_n hx hb dX11_stay_56 rfl (lv_at hl 0 rfl) ?_
              refine va_get (D := G.1) (ci := 11) (v := .ref a_h) (C := RX11) (T := TX11) (N := 17) hx hb hts inG_X11 hown hK hP 0 rfl rfl 0 (by decide +kernel) (hts _ fl_X11_12) (fun _ h9 => h9) rfl dX11_stay_57 ?_
              refine lv_iload_n hx hb dX11_stay_60 rfl (lv_at hl 1 rfl) ?_
              refine lv_iload_n hx hb dX11_stay_61 rfl (lv_at hl 2 rfl) ?_
              refine W.eq (g2 := F0 m 62 ls [.int p_f, .int p_b, .ref a_h]) rfl ?_
              refine lv_iload_n hx hb dX11_stay_62 rfl (lv_at hl 3 rfl) ?_
              refine lv_iload hx hb dX11_stay_63 (lv_at hl 4 rfl) ?_
              obtain ⟨hPc, hDc, hFc⟩ := g5_sub3 (wc := [(a_h, (oc1 e_wa e_le e_st e_fo e_lc a_l a_g a_b a_s a_p a_w e_gb a_bb)), (a_b, (oc6 5 24 a_bn e_b)), (a_bn, (arI G 120 f_b)), (a_bb, (arJ G 24 f_bb))]) hP hD hS hA [5, 4, 2, 3] (by decide +kernel) rfl
              refine va_callv (va_runV (As := [.int p_b, .int p_f, .int p_t, .int p_c]) (rest := []) ⟨hx, hb, hml, hown, hts⟩ (h_put l G a_h a_b a_bn a_bb a_l a_g a_s a_p a_w H.size e_le e_st e_fo e_lc e_b p_b p_f p_t p_c e_wa e_gb f_b f_bb h_e_b i_1 i_2 (i_4) (hbb_)) (cwV 4 hts gV_X11_177 rfl rfl rfl hv_X1_put ⟨Nat.le_of_ble_eq_true rfl, Nat.le_of_ble_eq_true rfl⟩) (g5_preV hPc hK hDc hN hT hS hFc (ci := 1) (q0 := 0) rfl rfl) rfl rfl hl.1 rfl (lv_room (Nat.le_of_ble_eq_true rfl)) dX11_stay_65 ⟨Nat.le_of_ble_eq_true rfl, Nat.le_of_ble_eq_true rfl⟩) hS (fun q _ h => hFc q h) hFc (fun u t H locs ht hvm hw hB hz1 hk1 hS => ?_)
              obtain ⟨hP1, hD1⟩ := hB
              have hP1 := g5_ht ht hP1
              obtain ⟨z18, z19, (i_16 : z18 = bput f_b e_b.toInt p_b.toInt p_f.toInt (p_t.toInt + 1) p_c), (i_17 : ∀ c : Nat, c < 24 → z19 c = bbd z18 e_b.toInt c e_b.toInt.toNat), rfl⟩ := hw
              have hJ9 := va_join (wr := [(a_o, (oc11 a_h a_im a_ke a_k a_wa a_th a_ha a_wk a_r a_x e_tl e_fd e_fpl a_wd e_wn a_rf e_lr)), (a_rf, (arI G 5 f_rf))]) hP hD [5, 4, 2, 3] [0, 1] rfl rfl (by decide +kernel) (by decide +kernel) hk1 hFc hP1 hD1
              clear hP hD hPc hDc hFc ht hvm hz1 hk1 hP1 hD1
              obtain ⟨hP, hD⟩ := hJ9
              refine g5_rs [(a_o, (oc11 a_h a_im a_ke a_k a_wa a_th a_ha a_wk a_r a_x e_tl e_fd e_fpl a_wd e_wn a_rf e_lr)), (a_rf, (arI G 5 f_rf)), (a_h, (oc1 e_wa e_le e_st e_fo e_lc a_l a_g a_b a_s a_p a_w e_gb a_bb)), (a_b, (oc6 5 24 a_bn e_b)), (a_bn, (arI G 120 z18)), (a_bb, (arJ G 24 z19))] hP hD ?_
              clear hP hD
              intro hP hD
              refine lv_aload_n hx hb dX11_stay_68 rfl (lv_at hl 0 rfl) ?_
              refine lv_iconst (v := 0) hx hb dX11_stay_69 (by decide +kernel) ?_
              refine W.eq (g2 := F0 m 70 ls [.int 0, .ref a_o]) rfl ?_
              obtain ⟨hPc, hDc, hFc⟩ := g5_sub3 (wc := [(a_o, (oc11 a_h a_im a_ke a_k a_wa a_th a_ha a_wk a_r a_x e_tl e_fd e_fpl a_wd e_wn a_rf e_lr))]) hP hD hS hA [0] (by decide +kernel) rfl
              refine va_calli (va_runV (As := [.int 0]) (rest := []) ⟨hx, hb, hml, hown, hts⟩ (x_done l G a_o a_h a_im a_ke a_k a_wa a_th a_ha a_wk a_r a_x a_wd a_rf H.size e_tl e_fd e_fpl e_wn e_lr 0 h_e_tl h_e_wn) (cwV 1 hts gV_X11_121 rfl rfl rfl hv_X11_done ⟨Nat.le_of_ble_eq_true rfl, Nat.le_of_ble_eq_true rfl⟩) (g5_preV hPc hK hDc hN hT hS hFc (ci := 11) (q0 := 0) rfl rfl) rfl rfl hl.1 rfl (lv_room (Nat.le_of_ble_eq_true rfl)) dX11_stay_70 ⟨Nat.le_of_ble_eq_true rfl, Nat.le_of_ble_eq_true rfl⟩) hS (fun q _ h => hFc q h) hFc (fun r u t H locs ht hvm hw hB hz1 hk1 hS => ?_)
              obtain ⟨hP1, hD1⟩ := hB
              have hP1 := g5_ht ht hP1
              obtain ⟨rfl, rfl⟩ := hw
              have hJ9 := va_join (wr := [(a_rf, (arI G 5 f_rf)), (a_h, (oc1 e_wa e_le e_st e_fo e_lc a_l a_g a_b a_s a_p a_w e_gb a_bb)), (a_b, (oc6 5 24 a_bn e_b)), (a_bn, (arI G 120 z18)), (a_bb, (arJ G 24 z19))]) hP hD [0] [1, 2, 3, 4, 5] rfl rfl (by decide +kernel) (by decide +kernel) hk1 hFc hP1 hD1
              clear hP hD hPc hDc hFc ht hvm hz1 hk1 hP1 hD1
              obtain ⟨hP, hD⟩ := hJ9
              refine g5_rs [(a_rf, (arI G 5 f_rf)), (a_h, (oc1 e_wa e_le e_st e_fo e_lc a_l a_g a_b a_s a_p a_w e_gb a_bb)), (a_b, (oc6 5 24 a_bn e_b)), (a_bn, (arI G 120 z18)), (a_bb, (arJ G 24 z19)), (a_o, (oc11 a_h a_im a_ke a_k a_wa a_th a_ha a_wk a_r a_x e_tl e_fd e_fpl a_wd e_wn a_rf 0))] hP hD ?_
              clear hP hD
              intro hP hD
              exact W.iret (v := 0) hx hb hr (fun t ht hW => ⟨⟨0, [(a_o, (oc11 a_h a_im a_ke a_k a_wa a_th a_ha a_wk a_r a_x e_tl e_fd e_fpl a_wd e_wn a_rf 0)), (a_rf, (arI G 5 f_rf)), (a_h, (oc1 e_wa e_le e_st e_fo e_lc a_l a_g a_b a_s a_p a_w e_gb a_bb)), (a_b, (oc6 5 24 a_bn e_b)), (a_bn, (arI G 120 z18)), (a_bb, (arJ G 24 z19))], rfl, ⟨0, 0, f_rf, z18, z19, (stay_0 (f := f_ro) (b := p_b) (a := p_f) (e := p_t) (c := p_c) i_5 (isb_y e_hb ⟨by omega, by omega⟩) (wl_n e_hh (by omega) i_12)).1.symm, by rw [(stay_0 (f := f_ro) (b := p_b) (a := p_f) (e := p_t) (c := p_c) i_5 (isb_y e_hb ⟨by omega, by omega⟩) (wl_n e_hh (by omega) i_12)).2]; exact hb_put e_hb ⟨by omega, by omega⟩ (by omega) (by omega) ⟨by omega, by omega⟩ i_16 i_17, rfl, rfl⟩, by rw [ht]; exact hP.sub [5, 0, 1, 2, 3, 4] rfl, hD.sub [5, 0, 1, 2, 3, 4] (by decide +kernel) rfl⟩, hS.F ht⟩) hS.2.2 dX11_stay_73
            ·
              exact absurd c_15 (by decide +kernel)
        ·
          exact absurd c_10 (by decide +kernel)
      ·
        have hJ9 := va_join (wr := [(a_o, (oc11 a_h a_im a_ke a_k a_wa a_th a_ha a_wk a_r a_x e_tl e_fd e_fpl a_wd e_wn a_rf e_lr)), (a_rf, (arI G 5 f_rf)), (a_h, (oc1 e_wa e_le e_st e_fo e_lc a_l a_g a_b a_s a_p a_w e_gb a_bb)), (a_bn, (arI G 120 f_b)), (a_bb, (arJ G 24 f_bb))]) hP hD [3] [0, 1, 2, 4, 5] rfl rfl (by decide +kernel) (by decide +kernel) hk1 hFc hP1 hD1
        clear hP hD hPc hDc hFc ht hvm hz1 hk1 hP1 hD1
        obtain ⟨hP, hD⟩ := hJ9
        refine g5_rs [(a_o, (oc11 a_h a_im a_ke a_k a_wa a_th a_ha a_wk a_r a_x e_tl e_fd e_fpl a_wd e_wn a_rf e_lr)), (a_rf, (arI G 5 f_rf)), (a_h, (oc1 e_wa e_le e_st e_fo e_lc a_l a_g a_b a_s a_p a_w e_gb a_bb)), (a_bn, (arI G 120 f_b)), (a_bb, (arJ G 24 f_bb)), (a_b, (oc6 5 24 a_bn e_b))] hP hD ?_
        clear hP hD
        intro hP hD
        refine lv_if_ne (tgt := 37) hx hb dX11_stay_27 (by decide +kernel) (fun c_20 => ?_) (fun c_20 => ?_)
        ·
          exact absurd c_20 (by decide +kernel)
        ·
          refine lv_aload_n hx hb dX11_stay_30 rfl (lv_at hl 0 rfl) ?_
          refine lv_bipush (v := (-2)) hx hb dX11_stay_31 (by decide +kernel) ?_
          obtain ⟨hPc, hDc, hFc⟩ := g5_sub3 (wc := [(a_o, (oc11 a_h a_im a_ke a_k a_wa a_th a_ha a_wk a_r a_x e_tl e_fd e_fpl a_wd e_wn a_rf e_lr)), (a_rf, (arI G 5 f_rf))]) hP hD hS hA [0, 1] (by decide +kernel) rfl
          refine va_calli (va_runV (As := [.int (-2)]) (rest := []) ⟨hx, hb, hml, hown, hts⟩ (x_refuse2 l G a_o a_rf a_h a_im a_ke a_k a_wa a_th a_ha a_wk a_r a_x a_wd H.size e_tl e_fd e_fpl e_wn e_lr f_rf h_e_tl h_e_wn) (cwV 1 hts gV_X11_104 rfl rfl rfl hv_X11_refuse ⟨Nat.le_of_ble_eq_true rfl, Nat.le_of_ble_eq_true rfl⟩) (g5_preV hPc hK hDc hN hT hS hFc (ci := 11) (q0 := 0) rfl rfl) rfl rfl hl.1 rfl (lv_room (Nat.le_of_ble_eq_true rfl)) dX11_stay_33 ⟨Nat.le_of_ble_eq_true rfl, Nat.le_of_ble_eq_true rfl⟩) hS (fun q _ h => hFc q h) hFc (fun r u t H locs ht hvm hw hB hz1 hk1 hS => ?_)
          obtain ⟨hP1, hD1⟩ := hB
          have hP1 := g5_ht ht hP1
          obtain ⟨z21, rfl, rfl⟩ := hw
          have hJ9 := va_join (wr := [(a_h, (oc1 e_wa e_le e_st e_fo e_lc a_l a_g a_b a_s a_p a_w e_gb a_bb)), (a_bn, (arI G 120 f_b)), (a_bb, (arJ G 24 f_bb)), (a_b, (oc6 5 24 a_bn e_b))]) hP hD [0, 1] [2, 3, 4, 5] rfl rfl (by decide +kernel) (by decide +kernel) hk1 hFc hP1 hD1
          clear hP hD hPc hDc hFc ht hvm hz1 hk1 hP1 hD1
          obtain ⟨hP, hD⟩ := hJ9
          refine g5_rs [(a_h, (oc1 e_wa e_le e_st e_fo e_lc a_l a_g a_b a_s a_p a_w e_gb a_bb)), (a_bn, (arI G 120 f_b)), (a_bb, (arJ G 24 f_bb)), (a_b, (oc6 5 24 a_bn e_b)), (a_o, (oc11 a_h a_im a_ke a_k a_wa a_th a_ha a_wk a_r a_x e_tl e_fd e_fpl a_wd e_wn a_rf (-2))), (a_rf, (arI G 5 z21))] hP hD ?_
          clear hP hD
          intro hP hD
          exact W.iret (v := (-2)) hx hb hr (fun t ht hW => ⟨⟨(-2), [(a_o, (oc11 a_h a_im a_ke a_k a_wa a_th a_ha a_wk a_r a_x e_tl e_fd e_fpl a_wd e_wn a_rf (-2))), (a_rf, (arI G 5 z21)), (a_h, (oc1 e_wa e_le e_st e_fo e_lc a_l a_g a_b a_s a_p a_w e_gb a_bb)), (a_b, (oc6 5 24 a_bn e_b)), (a_bn, (arI G 120 f_b)), (a_bb, (arJ G 24 f_bb))], rfl, ⟨(-2), (-2), z21, f_b, f_bb, (stay_2 (f := f_ro) (b := p_b) (a := p_f) (e := p_t) (c := p_c) i_5 (isb_n e_hb (by omega))).1.symm, by rw [(stay_2 (f := f_ro) (b := p_b) (a := p_f) (e := p_t) (c := p_c) i_5 (isb_n e_hb (by omega))).2]; exact e_hb, rfl, rfl⟩, by rw [ht]; exact hP.sub [4, 5, 0, 3, 1, 2] rfl, hD.sub [4, 5, 0, 3, 1, 2] (by decide +kernel) rfl⟩, hS.F ht⟩) hS.2.2 dX11_stay_36
    ·
      exact absurd c_7 (by decide +kernel)
  ·
    have hJ9 := g5_same hP hk1
    clear hP hPc hDc hFc ht hvm hz1 hk1 hP1 hD1
    have hP := hJ9
    clear hJ9
    refine lv_if_ne (tgt := 16) hx hb dX11_stay_7 (by decide +kernel) (fun c_22 => ?_) (fun c_22 => ?_)
    ·
      exact absurd c_22 (by decide +kernel)
    ·
      refine lv_aload_n hx hb dX11_stay_10 rfl (lv_at hl 0 rfl) ?_
      refine lv_iconst (v := (-1)) hx hb dX11_stay_11 (by decide +kernel) ?_
      obtain ⟨hPc, hDc, hFc⟩ := g5_sub3 (wc := [(a_o, (oc11 a_h a_im a_ke a_k a_wa a_th a_ha a_wk a_r a_x e_tl e_fd e_fpl a_wd e_wn a_rf e_lr)), (a_rf, (arI G 5 f_rf))]) hP hD hS hA [0, 1] (by decide +kernel) rfl
      refine va_calli (va_runV (As := [.int (-1)]) (rest := []) ⟨hx, hb, hml, hown, hts⟩ (x_refuse1 l G a_o a_rf a_h a_im a_ke a_k a_wa a_th a_ha a_wk a_r a_x a_wd H.size e_tl e_fd e_fpl e_wn e_lr f_rf h_e_tl h_e_wn) (cwV 1 hts gV_X11_104 rfl rfl rfl hv_X11_refuse ⟨Nat.le_of_ble_eq_true rfl, Nat.le_of_ble_eq_true rfl⟩) (g5_preV hPc hK hDc hN hT hS hFc (ci := 11) (q0 := 0) rfl rfl) rfl rfl hl.1 rfl (lv_room (Nat.le_of_ble_eq_true rfl)) dX11_stay_12 ⟨Nat.le_of_ble_eq_true rfl, Nat.le_of_ble_eq_true rfl⟩) hS (fun q _ h => hFc q h) hFc (fun r u t H locs ht hvm hw hB hz1 hk1 hS => ?_)
      obtain ⟨hP1, hD1⟩ := hB
      have hP1 := g5_ht ht hP1
      obtain ⟨z23, rfl, rfl⟩ := hw
      have hJ9 := va_join (wr := [(a_h, (oc1 e_wa e_le e_st e_fo e_lc a_l a_g a_b a_s a_p a_w e_gb a_bb)), (a_b, (oc6 5 24 a_bn e_b)), (a_bn, (arI G 120 f_b)), (a_bb, (arJ G 24 f_bb))]) hP hD [0, 1] [2, 3, 4, 5] rfl rfl (by decide +kernel) (by decide +kernel) hk1 hFc hP1 hD1
      clear hP hD hPc hDc hFc ht hvm hz1 hk1 hP1 hD1
      obtain ⟨hP, hD⟩ := hJ9
      refine g5_rs [(a_h, (oc1 e_wa e_le e_st e_fo e_lc a_l a_g a_b a_s a_p a_w e_gb a_bb)), (a_b, (oc6 5 24 a_bn e_b)), (a_bn, (arI G 120 f_b)), (a_bb, (arJ G 24 f_bb)), (a_o, (oc11 a_h a_im a_ke a_k a_wa a_th a_ha a_wk a_r a_x e_tl e_fd e_fpl a_wd e_wn a_rf (-1))), (a_rf, (arI G 5 z23))] hP hD ?_
      clear hP hD
      intro hP hD
      exact W.iret (v := (-1)) hx hb hr (fun t ht hW => ⟨⟨(-1), [(a_o, (oc11 a_h a_im a_ke a_k a_wa a_th a_ha a_wk a_r a_x e_tl e_fd e_fpl a_wd e_wn a_rf (-1))), (a_rf, (arI G 5 z23)), (a_h, (oc1 e_wa e_le e_st e_fo e_lc a_l a_g a_b a_s a_p a_w e_gb a_bb)), (a_b, (oc6 5 24 a_bn e_b)), (a_bn, (arI G 120 f_b)), (a_bb, (arJ G 24 f_bb))], rfl, ⟨(-1), (-1), z23, f_b, f_bb, (stay_1 (f := f_ro) (b := p_b) (a := p_f) (e := p_t) (c := p_c) i_6).1.symm, by rw [(stay_1 (f := f_ro) (b := p_b) (a := p_f) (e := p_t) (c := p_c) i_6).2]; exact e_hb, rfl, rfl⟩, by rw [ht]; exact hP.sub [4, 5, 0, 1, 2, 3] rfl, hD.sub [4, 5, 0, 1, 2, 3] (by decide +kernel) rfl⟩, hS.F ht⟩) hS.2.2 dX11_stay_15
set_option maxHeartbeats 4000000 in
set_option maxRecDepth 100000 in
theorem x_whereX (l : Launch) (G : g5_G) (a_o a_h a_b a_bn a_im a_ke a_k a_wa a_th a_ha a_wk a_r a_x a_wd a_rf a_l a_g a_s a_p a_w a_bb : Nat) (sz : Nat) (e_tl : Int32) (e_fd : Int32) (e_fpl : Int32) (e_wn : Int32) (e_lr : Int32) (e_le : Int32) (e_st : Int32) (e_fo : Int32) (e_lc : Int32) (e_b : Int32) (p_b : Int32) (p_h : Int32) (e_wa : Int64) (e_gb : Int64) (f_b : Nat → Int32) (f_ro : Nat → Int32) (f_bb : Nat → Int64) (h_e_tl : 0 ≤ e_tl.toInt ∧ e_tl.toInt ≤ 400) (h_e_wn : 0 ≤ e_wn.toInt ∧ e_wn.toInt ≤ 1) (h_e_b : 0 ≤ e_b.toInt ∧ e_b.toInt ≤ 5) (e_hb : QB e_b f_b f_bb f_ro) : Met l yX11_where (wsG yX11_where cX11_where 3 (some .int)) ({ frames := 1, cells := 0, slots := 0, locals := 22 }) (va_Pc [.ref a_o, .int p_b, .int p_h] (g5_P G [(a_o, (oc11 a_h a_im a_ke a_k a_wa a_th a_ha a_wk a_r a_x e_tl e_fd e_fpl a_wd e_wn a_rf e_lr)), (a_h, (oc1 e_wa e_le e_st e_fo e_lc a_l a_g a_b a_s a_p a_w e_gb a_bb)), (a_b, (oc6 5 24 a_bn e_b)), (a_bn, (arI G 120 f_b))] sz)) (va_Qi (fun (r : Int32) (u : va_W) => (∃ (o_r : Int32), (o_r = awhere f_ro p_b p_h) ∧ (r = o_r) ∧ (u = [(a_o, (oc11 a_h a_im a_ke a_k a_wa a_th a_ha a_wk a_r a_x e_tl e_fd e_fpl a_wd e_wn a_rf e_lr)), (a_h, (oc1 e_wa e_le e_st e_fo e_lc a_l a_g a_b a_s a_p a_w e_gb a_bb)), (a_b, (oc6 5 24 a_bn e_b)), (a_bn, (arI G 120 f_b))]))) (g5_B G (va_A [(a_o, (oc11 a_h a_im a_ke a_k a_wa a_th a_ha a_wk a_r a_x e_tl e_fd e_fpl a_wd e_wn a_rf e_lr)), (a_h, (oc1 e_wa e_le e_st e_fo e_lc a_l a_g a_b a_s a_p a_w e_gb a_bb)), (a_b, (oc6 5 24 a_bn e_b)), (a_bn, (arI G 120 f_b))] sz)) (va_A [(a_o, (oc11 a_h a_im a_ke a_k a_wa a_th a_ha a_wk a_r a_x e_tl e_fd e_fpl a_wd e_wn a_rf e_lr)), (a_h, (oc1 e_wa e_le e_st e_fo e_lc a_l a_g a_b a_s a_p a_w e_gb a_bb)), (a_b, (oc6 5 24 a_bn e_b)), (a_bn, (arI G 120 f_b))] sz)) 0 0 (va_A [(a_o, (oc11 a_h a_im a_ke a_k a_wa a_th a_ha a_wk a_r a_x e_tl e_fd e_fpl a_wd e_wn a_rf e_lr)), (a_h, (oc1 e_wa e_le e_st e_fo e_lc a_l a_g a_b a_s a_p a_w e_gb a_bb)), (a_b, (oc6 5 24 a_bn e_b)), (a_bn, (arI G 120 f_b))] sz) := by
  refine Met.ofW (cc := cX11_where) (maxL := 3) (ret := (some .int)) (by decide +kernel) rfl ?_
  intro p e s m args below meth c s₁ B hml hv
  obtain ⟨rfl, hsz, hP, hK, hD0, hN, hT⟩ := hv
  have hx := B.exec
  have hb := B.bytes
  have hr := B.returns
  have hts : ∀ w ∈ tblG, w.before _ s = true := fun w h => atoms_spec (ws := (wsG yX11_where cX11_where 3 (some .int))) B.pre w (List.mem_cons_of_mem _ h)
  have hown : s.vm.findClass RX11 = some m.cls := findClass_of_methodNamed B.named
  have hlocks := B.notSynchronized
  subst hsz
  have hD := hD0.self (sz := s.heap.size)
  generalize hAe : va_A [(a_o, (oc11 a_h a_im a_ke a_k a_wa a_th a_ha a_wk a_r a_x e_tl e_fd e_fpl a_wd e_wn a_rf e_lr)), (a_h, (oc1 e_wa e_le e_st e_fo e_lc a_l a_g a_b a_s a_p a_w e_gb a_bb)), (a_b, (oc6 5 24 a_bn e_b)), (a_bn, (arI G 120 f_b))] s.heap.size = A at hD hT ⊢
  have hA : ∀ q : Nat, s.heap.size ≤ q → A q := fun q h => by rw [← hAe]; exact Or.inr h
  have hS : va_S A s.heap s.heap [] := va_S.rf
  replace hP : va_P G.1 vwCl [(a_o, (oc11 a_h a_im a_ke a_k a_wa a_th a_ha a_wk a_r a_x e_tl e_fd e_fpl a_wd e_wn a_rf e_lr)), (a_h, (oc1 e_wa e_le e_st e_fo e_lc a_l a_g a_b a_s a_p a_w e_gb a_bb)), (a_b, (oc6 5 24 a_bn e_b)), (a_bn, (arI G 120 f_b))] s.heap := hP
  have hl := lv_entry ([.ref a_o, .int p_b, .int p_h]) (n := 3) (Nat.le_of_ble_eq_true rfl)
  rw [lg_entry_eq]
  generalize (lg_sl ([.ref a_o, .int p_b, .int p_h]) ++ List.replicate (3 - (lg_sl ([.ref a_o, .int p_b, .int p_h])).length) Slot.unset).toArray = ls at hl ⊢
  replace hl : lv_has ls 3 [(0, .ref a_o), (1, .int p_b), (2, .int p_h)] := hl
  refine lv_aload_n hx hb dX11_where_0 rfl (lv_at hl 0 rfl) ?_
  refine va_get (D := G.1) (ci := 11) (v := .ref a_h) (C := RX11) (T := TX11) (N := 17) hx hb hts inG_X11 hown hK hP 0 rfl rfl 0 (by decide +kernel) (hts _ fl_X11_12) (fun _ h9 => h9) rfl dX11_where_1 ?_
  refine va_get (D := G.1) (ci := 1) (v := .ref a_b) (C := RX1) (T := TX1) (N := 13) hx hb hts inG_X1 hown hK hP 1 rfl rfl 7 (by decide +kernel) (hts _ fl_X11_167) (fun _ h9 => h9) rfl dX11_where_4 ?_
  refine lv_iload_n hx hb dX11_where_7 rfl (lv_at hl 1 rfl) ?_
  refine W.eq (g2 := F0 m 8 ls [.int p_b, .ref a_b]) rfl ?_
  refine lv_iload_n hx hb dX11_where_8 rfl (lv_at hl 2 rfl) ?_
  obtain ⟨hPc, hDc, hFc⟩ := g5_sub3 (wc := [(a_b, (oc6 5 24 a_bn e_b)), (a_bn, (arI G 120 f_b))]) hP hD hS hA [2, 3] (by decide +kernel) rfl
  refine va_calli (va_runV (As := [.int p_b, .int p_h]) (rest := []) ⟨hx, hb, hml, hown, hts⟩ (t_get_B l G a_b a_bn s.heap.size e_b p_b p_h f_b h_e_b) (cwV 2 hts gV_X11_163 rfl rfl rfl hv_X6_get ⟨Nat.le_of_ble_eq_true rfl, Nat.le_of_ble_eq_true rfl⟩) (g5_preV hPc hK hDc hN hT hS hFc (ci := 6) (q0 := 0) rfl rfl) rfl rfl hl.1 rfl (lv_room (Nat.le_of_ble_eq_true rfl)) dX11_where_9 ⟨Nat.le_of_ble_eq_true rfl, Nat.le_of_ble_eq_true rfl⟩) hS (fun q _ h => hFc q h) hFc (fun r u t H locs ht hvm hw hB hz1 hk1 hS => ?_)
  obtain ⟨hP1, hD1⟩ := hB
  have hP1 := g5_ht ht hP1
  obtain ⟨z2, (i_1 : z2 = tget f_b e_b.toInt 24 p_b.toInt p_h.toInt), y3, rfl⟩ := hw
  have hJ9 := va_join (wr := [(a_o, (oc11 a_h a_im a_ke a_k a_wa a_th a_ha a_wk a_r a_x e_tl e_fd e_fpl a_wd e_wn a_rf e_lr)), (a_h, (oc1 e_wa e_le e_st e_fo e_lc a_l a_g a_b a_s a_p a_w e_gb a_bb))]) hP hD [2, 3] [0, 1] rfl rfl (by decide +kernel) (by decide +kernel) hk1 hFc hP1 hD1
  clear hP hD hPc hDc hFc ht hvm hz1 hk1 hP1 hD1
  obtain ⟨hP, hD⟩ := hJ9
  refine g5_rs [(a_o, (oc11 a_h a_im a_ke a_k a_wa a_th a_ha a_wk a_r a_x e_tl e_fd e_fpl a_wd e_wn a_rf e_lr)), (a_h, (oc1 e_wa e_le e_st e_fo e_lc a_l a_g a_b a_s a_p a_w e_gb a_bb)), (a_b, (oc6 5 24 a_bn e_b)), (a_bn, (arI G 120 f_b))] hP hD ?_
  clear hP hD
  intro hP hD
  refine g5_ti (v := z2) y3 ?_
  exact W.iret (v := z2) hx hb hr (fun t ht hW => ⟨⟨z2, [(a_o, (oc11 a_h a_im a_ke a_k a_wa a_th a_ha a_wk a_r a_x e_tl e_fd e_fpl a_wd e_wn a_rf e_lr)), (a_h, (oc1 e_wa e_le e_st e_fo e_lc a_l a_g a_b a_s a_p a_w e_gb a_bb)), (a_b, (oc6 5 24 a_bn e_b)), (a_bn, (arI G 120 f_b))], rfl, ⟨z2, i_1.trans (where_x e_hb), rfl, rfl⟩, by rw [ht]; exact hP.sub [0, 1, 2, 3] rfl, hD.sub [0, 1, 2, 3] (by decide +kernel) rfl⟩, hS.F ht⟩) hS.2.2 dX11_where_12
set_option maxHeartbeats 4000000 in
set_option maxRecDepth 100000 in
theorem x_leastX (l : Launch) (G : g5_G) (a_o a_rf a_h a_im a_ke a_k a_wa a_th a_ha a_wk a_r a_x a_wd a_l a_g a_b a_s a_p a_w a_bb : Nat) (sz : Nat) (e_tl : Int32) (e_fd : Int32) (e_fpl : Int32) (e_wn : Int32) (e_lr : Int32) (e_le : Int32) (e_st : Int32) (e_fo : Int32) (e_lc : Int32) (p_v : Int32) (e_wa : Int64) (e_gb : Int64) (f_rf : Nat → Int32) (f_ro : Nat → Int32) (h_e_tl : 0 ≤ e_tl.toInt ∧ e_tl.toInt ≤ 400) (h_e_wn : 0 ≤ e_wn.toInt ∧ e_wn.toInt ≤ 1) (e_hh : QH e_wa e_le e_st f_ro) : Met l yX11_least (wsG yX11_least cX11_least 3 (some .int)) ({ frames := 1, cells := 0, slots := 0, locals := 22 }) (va_Pc [.ref a_o, .int p_v] (g5_P G [(a_o, (oc11 a_h a_im a_ke a_k a_wa a_th a_ha a_wk a_r a_x e_tl e_fd e_fpl a_wd e_wn a_rf e_lr)), (a_rf, (arI G 5 f_rf)), (a_h, (oc1 e_wa e_le e_st e_fo e_lc a_l a_g a_b a_s a_p a_w e_gb a_bb))] sz)) (va_Qi (fun (r : Int32) (u : va_W) => (∃ (o_r : Int32) (o_lr : Int32) (o_rf : Nat → Int32) (o_le : Int32), (o_r = aleast f_ro p_v) ∧ (QH e_wa o_le e_st (sleast f_ro p_v)) ∧ (r = o_r) ∧ (u = [(a_o, (oc11 a_h a_im a_ke a_k a_wa a_th a_ha a_wk a_r a_x e_tl e_fd e_fpl a_wd e_wn a_rf o_lr)), (a_rf, (arI G 5 o_rf)), (a_h, (oc1 e_wa o_le e_st e_fo e_lc a_l a_g a_b a_s a_p a_w e_gb a_bb))]))) (g5_B G (va_A [(a_o, (oc11 a_h a_im a_ke a_k a_wa a_th a_ha a_wk a_r a_x e_tl e_fd e_fpl a_wd e_wn a_rf e_lr)), (a_rf, (arI G 5 f_rf)), (a_h, (oc1 e_wa e_le e_st e_fo e_lc a_l a_g a_b a_s a_p a_w e_gb a_bb))] sz)) (va_A [(a_o, (oc11 a_h a_im a_ke a_k a_wa a_th a_ha a_wk a_r a_x e_tl e_fd e_fpl a_wd e_wn a_rf e_lr)), (a_rf, (arI G 5 f_rf)), (a_h, (oc1 e_wa e_le e_st e_fo e_lc a_l a_g a_b a_s a_p a_w e_gb a_bb))] sz)) 0 0 (va_A [(a_o, (oc11 a_h a_im a_ke a_k a_wa a_th a_ha a_wk a_r a_x e_tl e_fd e_fpl a_wd e_wn a_rf e_lr)), (a_rf, (arI G 5 f_rf)), (a_h, (oc1 e_wa e_le e_st e_fo e_lc a_l a_g a_b a_s a_p a_w e_gb a_bb))] sz) := by
  refine Met.ofW (cc := cX11_least) (maxL := 3) (ret := (some .int)) (by decide +kernel) rfl ?_
  intro p e s m args below meth c s₁ B hml hv
  obtain ⟨rfl, hsz, hP, hK, hD0, hN, hT⟩ := hv
  have hx := B.exec
  have hb := B.bytes
  have hr := B.returns
  have hts : ∀ w ∈ tblG, w.before _ s = true := fun w h => atoms_spec (ws := (wsG yX11_least cX11_least 3 (some .int))) B.pre w (List.mem_cons_of_mem _ h)
  have hown : s.vm.findClass RX11 = some m.cls := findClass_of_methodNamed B.named
  have hlocks := B.notSynchronized
  subst hsz
  have hD := hD0.self (sz := s.heap.size)
  generalize hAe : va_A [(a_o, (oc11 a_h a_im a_ke a_k a_wa a_th a_ha a_wk a_r a_x e_tl e_fd e_fpl a_wd e_wn a_rf e_lr)), (a_rf, (arI G 5 f_rf)), (a_h, (oc1 e_wa e_le e_st e_fo e_lc a_l a_g a_b a_s a_p a_w e_gb a_bb))] s.heap.size = A at hD hT ⊢
  have hA : ∀ q : Nat, s.heap.size ≤ q → A q := fun q h => by rw [← hAe]; exact Or.inr h
  have hS : va_S A s.heap s.heap [] := va_S.rf
  replace hP : va_P G.1 vwCl [(a_o, (oc11 a_h a_im a_ke a_k a_wa a_th a_ha a_wk a_r a_x e_tl e_fd e_fpl a_wd e_wn a_rf e_lr)), (a_rf, (arI G 5 f_rf)), (a_h, (oc1 e_wa e_le e_st e_fo e_lc a_l a_g a_b a_s a_p a_w e_gb a_bb))] s.heap := hP
  have hl := lv_entry ([.ref a_o, .int p_v]) (n := 3) (Nat.le_of_ble_eq_true rfl)
  rw [lg_entry_eq]
  generalize (lg_sl ([.ref a_o, .int p_v]) ++ List.replicate (3 - (lg_sl ([.ref a_o, .int p_v])).length) Slot.unset).toArray = ls at hl ⊢
  replace hl : lv_has ls 3 [(0, .ref a_o), (1, .int p_v)] := hl
  refine lv_iload_n hx hb dX11_least_0 rfl (lv_at hl 1 rfl) ?_
  refine lv_if_lt (tgt := 10) hx hb dX11_least_1 (by decide +kernel) (fun c_1 => ?_) (fun c_1 => ?_)
  ·
    have i_1 : p_v.toInt < 0 := g5_lt (a := p_v.toInt) (b := 0) rfl (by decide +kernel) c_1
    refine lv_aload_n hx hb dX11_least_10 rfl (lv_at hl 0 rfl) ?_
    refine lv_iconst (v := (-1)) hx hb dX11_least_11 (by decide +kernel) ?_
    obtain ⟨hPc, hDc, hFc⟩ := g5_sub3 (wc := [(a_o, (oc11 a_h a_im a_ke a_k a_wa a_th a_ha a_wk a_r a_x e_tl e_fd e_fpl a_wd e_wn a_rf e_lr)), (a_rf, (arI G 5 f_rf))]) hP hD hS hA [0, 1] (by decide +kernel) rfl
    refine va_calli (va_runV (As := [.int (-1)]) (rest := []) ⟨hx, hb, hml, hown, hts⟩ (x_refuse1 l G a_o a_rf a_h a_im a_ke a_k a_wa a_th a_ha a_wk a_r a_x a_wd s.heap.size e_tl e_fd e_fpl e_wn e_lr f_rf h_e_tl h_e_wn) (cwV 1 hts gV_X11_104 rfl rfl rfl hv_X11_refuse ⟨Nat.le_of_ble_eq_true rfl, Nat.le_of_ble_eq_true rfl⟩) (g5_preV hPc hK hDc hN hT hS hFc (ci := 11) (q0 := 0) rfl rfl) rfl rfl hl.1 rfl (lv_room (Nat.le_of_ble_eq_true rfl)) dX11_least_12 ⟨Nat.le_of_ble_eq_true rfl, Nat.le_of_ble_eq_true rfl⟩) hS (fun q _ h => hFc q h) hFc (fun r u t H locs ht hvm hw hB hz1 hk1 hS => ?_)
    obtain ⟨hP1, hD1⟩ := hB
    have hP1 := g5_ht ht hP1
    obtain ⟨z2, rfl, rfl⟩ := hw
    have hJ9 := va_join (wr := [(a_h, (oc1 e_wa e_le e_st e_fo e_lc a_l a_g a_b a_s a_p a_w e_gb a_bb))]) hP hD [0, 1] [2] rfl rfl (by decide +kernel) (by decide +kernel) hk1 hFc hP1 hD1
    clear hP hD hPc hDc hFc ht hvm hz1 hk1 hP1 hD1
    obtain ⟨hP, hD⟩ := hJ9
    refine g5_rs [(a_h, (oc1 e_wa e_le e_st e_fo e_lc a_l a_g a_b a_s a_p a_w e_gb a_bb)), (a_o, (oc11 a_h a_im a_ke a_k a_wa a_th a_ha a_wk a_r a_x e_tl e_fd e_fpl a_wd e_wn a_rf (-1))), (a_rf, (arI G 5 z2))] hP hD ?_
    clear hP hD
    intro hP hD
    exact W.iret (v := (-1)) hx hb hr (fun t ht hW => ⟨⟨(-1), [(a_o, (oc11 a_h a_im a_ke a_k a_wa a_th a_ha a_wk a_r a_x e_tl e_fd e_fpl a_wd e_wn a_rf (-1))), (a_rf, (arI G 5 z2)), (a_h, (oc1 e_wa e_le e_st e_fo e_lc a_l a_g a_b a_s a_p a_w e_gb a_bb))], rfl, ⟨(-1), (-1), z2, e_le, (least_1 (f := f_ro) (v := p_v) (by omega)).1.symm, by rw [(least_1 (f := f_ro) (v := p_v) (by omega)).2]; exact e_hh, rfl, rfl⟩, by rw [ht]; exact hP.sub [1, 2, 0] rfl, hD.sub [1, 2, 0] (by decide +kernel) rfl⟩, hS.F ht⟩) hS.2.2 dX11_least_15
  ·
    have i_1 : p_v.toInt ≥ 0 := g5_ltN (a := p_v.toInt) (b := 0) rfl (by decide +kernel) c_1
    refine lv_iload_n hx hb dX11_least_4 rfl (lv_at hl 1 rfl) ?_
    refine lv_ldc (v := 1000000) hx hb hown (hts _ ki_X11_181) dX11_least_5 ?_
    refine lv_icmp_le (tgt := 16) hx hb dX11_least_7 (by decide +kernel) (fun c_3 => ?_) (fun c_3 => ?_)
    ·
      have i_3 : p_v.toInt ≤ 1000000 := g5_le (a := p_v.toInt) (b := 1000000) rfl (by decide +kernel) c_3
      refine lv_aload_n hx hb dX11_least_16 rfl (lv_at hl 0 rfl) ?_
      refine va_get (D := G.1) (ci := 11) (v := .ref a_h) (C := RX11) (T := TX11) (N := 17) hx hb hts inG_X11 hown hK hP 0 rfl rfl 0 (by decide +kernel) (hts _ fl_X11_12) (fun _ h9 => h9) rfl dX11_least_17 ?_
      refine va_get (D := G.1) (ci := 1) (v := .int e_le) (C := RX1) (T := TX1) (N := 13) hx hb hts inG_X1 hown hK hP 2 rfl rfl 1 (by decide +kernel) (hts _ fl_X11_182) (fun _ h9 => h9) rfl dX11_least_20 ?_
      refine lv_istore_n (lv' := [(2, .int e_le), (0, .ref a_o), (1, .int p_v)]) hx hb dX11_least_23 rfl hl (by decide +kernel) rfl ?_
      clear hl
      intro ls hl
      refine W.eq (g2 := F0 m 24 ls []) rfl ?_
      refine lv_aload_n hx hb dX11_least_24 rfl (lv_at hl 1 rfl) ?_
      refine va_get (D := G.1) (ci := 11) (v := .ref a_h) (C := RX11) (T := TX11) (N := 17) hx hb hts inG_X11 hown hK hP 0 rfl rfl 0 (by decide +kernel) (hts _ fl_X11_12) (fun _ h9 => h9) rfl dX11_least_25 ?_
      refine lv_iload_n hx hb dX11_least_28 rfl (lv_at hl 2 rfl) ?_
      refine va_put (D := G.1) (ci := 1) (v := .int p_v) (ty := .int) (C := RX1) (T := TX1) (N := 13) hx hb hts inG_X1 tyX1 tyX1_ok nmX1 hown hK hP hD hS 2 rfl rfl 1 (by decide +kernel) (hts _ fl_X11_182) (fun _ h9 => h9) rfl (by decide +kernel) rfl rfl (Nat.le_of_ble_eq_true rfl) dX11_least_29 ?_
      clear hP hD hS
      intro H locs hP hD hS
      refine g5_rs [(a_o, (oc11 a_h a_im a_ke a_k a_wa a_th a_ha a_wk a_r a_x e_tl e_fd e_fpl a_wd e_wn a_rf e_lr)), (a_rf, (arI G 5 f_rf)), (a_h, (oc1 e_wa p_v e_st e_fo e_lc a_l a_g a_b a_s a_p a_w e_gb a_bb))] hP hD ?_
      clear hP hD
      intro hP hD
      refine lv_aload_n hx hb dX11_least_32 rfl (lv_at hl 1 rfl) ?_
      refine W.eq (g2 := F0 m 33 ls [.ref a_o]) rfl ?_
      refine lv_iload_n hx hb dX11_least_33 rfl (lv_at hl 0 rfl) ?_
      obtain ⟨hPc, hDc, hFc⟩ := g5_sub3 (wc := [(a_o, (oc11 a_h a_im a_ke a_k a_wa a_th a_ha a_wk a_r a_x e_tl e_fd e_fpl a_wd e_wn a_rf e_lr))]) hP hD hS hA [0] (by decide +kernel) rfl
      refine va_calli (va_runV (As := [.int e_le]) (rest := []) ⟨hx, hb, hml, hown, hts⟩ (x_done l G a_o a_h a_im a_ke a_k a_wa a_th a_ha a_wk a_r a_x a_wd a_rf H.size e_tl e_fd e_fpl e_wn e_lr e_le h_e_tl h_e_wn) (cwV 1 hts gV_X11_121 rfl rfl rfl hv_X11_done ⟨Nat.le_of_ble_eq_true rfl, Nat.le_of_ble_eq_true rfl⟩) (g5_preV hPc hK hDc hN hT hS hFc (ci := 11) (q0 := 0) rfl rfl) rfl rfl hl.1 rfl (lv_room (Nat.le_of_ble_eq_true rfl)) dX11_least_34 ⟨Nat.le_of_ble_eq_true rfl, Nat.le_of_ble_eq_true rfl⟩) hS (fun q _ h => hFc q h) hFc (fun r u t H locs ht hvm hw hB hz1 hk1 hS => ?_)
      obtain ⟨hP1, hD1⟩ := hB
      have hP1 := g5_ht ht hP1
      obtain ⟨y4, rfl⟩ := hw
      have hJ9 := va_join (wr := [(a_rf, (arI G 5 f_rf)), (a_h, (oc1 e_wa p_v e_st e_fo e_lc a_l a_g a_b a_s a_p a_w e_gb a_bb))]) hP hD [0] [1, 2] rfl rfl (by decide +kernel) (by decide +kernel) hk1 hFc hP1 hD1
      clear hP hD hPc hDc hFc ht hvm hz1 hk1 hP1 hD1
      obtain ⟨hP, hD⟩ := hJ9
      refine g5_rs [(a_rf, (arI G 5 f_rf)), (a_h, (oc1 e_wa p_v e_st e_fo e_lc a_l a_g a_b a_s a_p a_w e_gb a_bb)), (a_o, (oc11 a_h a_im a_ke a_k a_wa a_th a_ha a_wk a_r a_x e_tl e_fd e_fpl a_wd e_wn a_rf 0))] hP hD ?_
      clear hP hD
      intro hP hD
      refine g5_ti (v := e_le) y4 ?_
      exact W.iret (v := e_le) hx hb hr (fun t ht hW => ⟨⟨e_le, [(a_o, (oc11 a_h a_im a_ke a_k a_wa a_th a_ha a_wk a_r a_x e_tl e_fd e_fpl a_wd e_wn a_rf 0)), (a_rf, (arI G 5 f_rf)), (a_h, (oc1 e_wa p_v e_st e_fo e_lc a_l a_g a_b a_s a_p a_w e_gb a_bb))], rfl, ⟨e_le, 0, f_rf, p_v, by rw [(least_0 (f := f_ro) (v := p_v) ⟨by omega, by omega⟩).1]; exact e_hh.2.1.symm, hh_least e_hh ⟨by omega, by omega⟩, rfl, rfl⟩, by rw [ht]; exact hP.sub [2, 0, 1] rfl, hD.sub [2, 0, 1] (by decide +kernel) rfl⟩, hS.F ht⟩) hS.2.2 dX11_least_37
    ·
      have i_3 : p_v.toInt > 1000000 := g5_leN (a := p_v.toInt) (b := 1000000) rfl (by decide +kernel) c_3
      refine lv_aload_n hx hb dX11_least_10 rfl (lv_at hl 0 rfl) ?_
      refine lv_iconst (v := (-1)) hx hb dX11_least_11 (by decide +kernel) ?_
      obtain ⟨hPc, hDc, hFc⟩ := g5_sub3 (wc := [(a_o, (oc11 a_h a_im a_ke a_k a_wa a_th a_ha a_wk a_r a_x e_tl e_fd e_fpl a_wd e_wn a_rf e_lr)), (a_rf, (arI G 5 f_rf))]) hP hD hS hA [0, 1] (by decide +kernel) rfl
      refine va_calli (va_runV (As := [.int (-1)]) (rest := []) ⟨hx, hb, hml, hown, hts⟩ (x_refuse1 l G a_o a_rf a_h a_im a_ke a_k a_wa a_th a_ha a_wk a_r a_x a_wd s.heap.size e_tl e_fd e_fpl e_wn e_lr f_rf h_e_tl h_e_wn) (cwV 1 hts gV_X11_104 rfl rfl rfl hv_X11_refuse ⟨Nat.le_of_ble_eq_true rfl, Nat.le_of_ble_eq_true rfl⟩) (g5_preV hPc hK hDc hN hT hS hFc (ci := 11) (q0 := 0) rfl rfl) rfl rfl hl.1 rfl (lv_room (Nat.le_of_ble_eq_true rfl)) dX11_least_12 ⟨Nat.le_of_ble_eq_true rfl, Nat.le_of_ble_eq_true rfl⟩) hS (fun q _ h => hFc q h) hFc (fun r u t H locs ht hvm hw hB hz1 hk1 hS => ?_)
      obtain ⟨hP1, hD1⟩ := hB
      have hP1 := g5_ht ht hP1
      obtain ⟨z5, rfl, rfl⟩ := hw
      have hJ9 := va_join (wr := [(a_h, (oc1 e_wa e_le e_st e_fo e_lc a_l a_g a_b a_s a_p a_w e_gb a_bb))]) hP hD [0, 1] [2] rfl rfl (by decide +kernel) (by decide +kernel) hk1 hFc hP1 hD1
      clear hP hD hPc hDc hFc ht hvm hz1 hk1 hP1 hD1
      obtain ⟨hP, hD⟩ := hJ9
      refine g5_rs [(a_h, (oc1 e_wa e_le e_st e_fo e_lc a_l a_g a_b a_s a_p a_w e_gb a_bb)), (a_o, (oc11 a_h a_im a_ke a_k a_wa a_th a_ha a_wk a_r a_x e_tl e_fd e_fpl a_wd e_wn a_rf (-1))), (a_rf, (arI G 5 z5))] hP hD ?_
      clear hP hD
      intro hP hD
      exact W.iret (v := (-1)) hx hb hr (fun t ht hW => ⟨⟨(-1), [(a_o, (oc11 a_h a_im a_ke a_k a_wa a_th a_ha a_wk a_r a_x e_tl e_fd e_fpl a_wd e_wn a_rf (-1))), (a_rf, (arI G 5 z5)), (a_h, (oc1 e_wa e_le e_st e_fo e_lc a_l a_g a_b a_s a_p a_w e_gb a_bb))], rfl, ⟨(-1), (-1), z5, e_le, (least_1 (f := f_ro) (v := p_v) (by omega)).1.symm, by rw [(least_1 (f := f_ro) (v := p_v) (by omega)).2]; exact e_hh, rfl, rfl⟩, by rw [ht]; exact hP.sub [1, 2, 0] rfl, hD.sub [1, 2, 0] (by decide +kernel) rfl⟩, hS.F ht⟩) hS.2.2 dX11_least_15
set_option maxHeartbeats 4000000 in
set_option maxRecDepth 100000 in
theorem x_startX (l : Launch) (G : g5_G) (a_o a_rf a_h a_im a_ke a_k a_wa a_th a_ha a_wk a_r a_x a_wd a_l a_g a_b a_s a_p a_w a_bb : Nat) (sz : Nat) (e_tl : Int32) (e_fd : Int32) (e_fpl : Int32) (e_wn : Int32) (e_lr : Int32) (e_le : Int32) (e_st : Int32) (e_fo : Int32) (e_lc : Int32) (p_c : Int32) (e_wa : Int64) (e_gb : Int64) (f_rf : Nat → Int32) (f_ro : Nat → Int32) (h_e_tl : 0 ≤ e_tl.toInt ∧ e_tl.toInt ≤ 400) (h_e_wn : 0 ≤ e_wn.toInt ∧ e_wn.toInt ≤ 1) (e_hh : QH e_wa e_le e_st f_ro) : Met l yX11_start (wsG yX11_start cX11_start 3 (some .int)) ({ frames := 2, cells := 0, slots := 0, locals := 43 }) (va_Pc [.ref a_o, .int p_c] (g5_P G [(a_o, (oc11 a_h a_im a_ke a_k a_wa a_th a_ha a_wk a_r a_x e_tl e_fd e_fpl a_wd e_wn a_rf e_lr)), (a_rf, (arI G 5 f_rf)), (a_h, (oc1 e_wa e_le e_st e_fo e_lc a_l a_g a_b a_s a_p a_w e_gb a_bb))] sz)) (va_Qi (fun (r : Int32) (u : va_W) => (∃ (o_r : Int32) (o_lr : Int32) (o_rf : Nat → Int32) (o_st : Int32), (o_r = astart f_ro p_c) ∧ (QH e_wa e_le o_st (sstart f_ro p_c)) ∧ (r = o_r) ∧ (u = [(a_o, (oc11 a_h a_im a_ke a_k a_wa a_th a_ha a_wk a_r a_x e_tl e_fd e_fpl a_wd e_wn a_rf o_lr)), (a_rf, (arI G 5 o_rf)), (a_h, (oc1 e_wa e_le o_st e_fo e_lc a_l a_g a_b a_s a_p a_w e_gb a_bb))]))) (g5_B G (va_A [(a_o, (oc11 a_h a_im a_ke a_k a_wa a_th a_ha a_wk a_r a_x e_tl e_fd e_fpl a_wd e_wn a_rf e_lr)), (a_rf, (arI G 5 f_rf)), (a_h, (oc1 e_wa e_le e_st e_fo e_lc a_l a_g a_b a_s a_p a_w e_gb a_bb))] sz)) (va_A [(a_o, (oc11 a_h a_im a_ke a_k a_wa a_th a_ha a_wk a_r a_x e_tl e_fd e_fpl a_wd e_wn a_rf e_lr)), (a_rf, (arI G 5 f_rf)), (a_h, (oc1 e_wa e_le e_st e_fo e_lc a_l a_g a_b a_s a_p a_w e_gb a_bb))] sz)) 0 0 (va_A [(a_o, (oc11 a_h a_im a_ke a_k a_wa a_th a_ha a_wk a_r a_x e_tl e_fd e_fpl a_wd e_wn a_rf e_lr)), (a_rf, (arI G 5 f_rf)), (a_h, (oc1 e_wa e_le e_st e_fo e_lc a_l a_g a_b a_s a_p a_w e_gb a_bb))] sz) := by
  refine Met.ofW (cc := cX11_start) (maxL := 3) (ret := (some .int)) (by decide +kernel) rfl ?_
  intro p e s m args below meth c s₁ B hml hv
  obtain ⟨rfl, hsz, hP, hK, hD0, hN, hT⟩ := hv
  have hx := B.exec
  have hb := B.bytes
  have hr := B.returns
  have hts : ∀ w ∈ tblG, w.before _ s = true := fun w h => atoms_spec (ws := (wsG yX11_start cX11_start 3 (some .int))) B.pre w (List.mem_cons_of_mem _ h)
  have hown : s.vm.findClass RX11 = some m.cls := findClass_of_methodNamed B.named
  have hlocks := B.notSynchronized
  subst hsz
  have hD := hD0.self (sz := s.heap.size)
  generalize hAe : va_A [(a_o, (oc11 a_h a_im a_ke a_k a_wa a_th a_ha a_wk a_r a_x e_tl e_fd e_fpl a_wd e_wn a_rf e_lr)), (a_rf, (arI G 5 f_rf)), (a_h, (oc1 e_wa e_le e_st e_fo e_lc a_l a_g a_b a_s a_p a_w e_gb a_bb))] s.heap.size = A at hD hT ⊢
  have hA : ∀ q : Nat, s.heap.size ≤ q → A q := fun q h => by rw [← hAe]; exact Or.inr h
  have hS : va_S A s.heap s.heap [] := va_S.rf
  replace hP : va_P G.1 vwCl [(a_o, (oc11 a_h a_im a_ke a_k a_wa a_th a_ha a_wk a_r a_x e_tl e_fd e_fpl a_wd e_wn a_rf e_lr)), (a_rf, (arI G 5 f_rf)), (a_h, (oc1 e_wa e_le e_st e_fo e_lc a_l a_g a_b a_s a_p a_w e_gb a_bb))] s.heap := hP
  have hl := lv_entry ([.ref a_o, .int p_c]) (n := 3) (Nat.le_of_ble_eq_true rfl)
  rw [lg_entry_eq]
  generalize (lg_sl ([.ref a_o, .int p_c]) ++ List.replicate (3 - (lg_sl ([.ref a_o, .int p_c])).length) Slot.unset).toArray = ls at hl ⊢
  replace hl : lv_has ls 3 [(0, .ref a_o), (1, .int p_c)] := hl
  refine lv_iload_n hx hb dX11_start_0 rfl (lv_at hl 1 rfl) ?_
  obtain ⟨hPc, hDc, hFc⟩ := g5_sub3 (wc := []) hP hD hS hA [] (by decide +kernel) rfl
  refine va_calli (va_runS (As := [.int p_c]) (rest := []) ⟨hx, hb, hml, hown, hts⟩ (x_isCellOrNoneX l G s.heap.size p_c) (va_cwS 1 hts gS_X11_241 rfl rfl rfl hs_X11_isCellOrNone ⟨Nat.le_of_ble_eq_true rfl, Nat.le_of_ble_eq_true rfl⟩) (g5_preS hPc hK hDc hN hT hS hFc) rfl rfl hl.1 rfl (lv_room (Nat.le_of_ble_eq_true rfl)) dX11_start_1 ⟨Nat.le_of_ble_eq_true rfl, Nat.le_of_ble_eq_true rfl⟩) hS (fun q _ h => hFc q h) hFc (fun r u t H locs ht hvm hw hB hz1 hk1 hS => ?_)
  obtain ⟨hP1, hD1⟩ := hB
  have hP1 := g5_ht ht hP1
  rcases hw with ⟨(i_1 : (-1) ≤ p_c.toInt ∧ p_c.toInt ≤ 63), rfl, rfl⟩ | ⟨(i_2 : p_c.toInt < (-1) ∨ 63 < p_c.toInt), rfl, rfl⟩
  ·
    have hJ9 := g5_same hP hk1
    clear hP hPc hDc hFc ht hvm hz1 hk1 hP1 hD1
    have hP := hJ9
    clear hJ9
    refine lv_if_ne (tgt := 13) hx hb dX11_start_4 (by decide +kernel) (fun c_3 => ?_) (fun c_3 => ?_)
    ·
      refine lv_aload_n hx hb dX11_start_13 rfl (lv_at hl 0 rfl) ?_
      refine va_get (D := G.1) (ci := 11) (v := .ref a_h) (C := RX11) (T := TX11) (N := 17) hx hb hts inG_X11 hown hK hP 0 rfl rfl 0 (by decide +kernel) (hts _ fl_X11_12) (fun _ h9 => h9) rfl dX11_start_14 ?_
      refine lv_iload_n hx hb dX11_start_17 rfl (lv_at hl 1 rfl) ?_
      obtain ⟨hPc, hDc, hFc⟩ := g5_sub3 (wc := [(a_h, (oc1 e_wa e_le e_st e_fo e_lc a_l a_g a_b a_s a_p a_w e_gb a_bb))]) hP hD hS hA [2] (by decide +kernel) rfl
      refine va_calli (va_runV (As := [.int p_c]) (rest := []) ⟨hx, hb, hml, hown, hts⟩ (h_isWalled l G a_h a_l a_g a_b a_s a_p a_w a_bb H.size e_le e_st e_fo e_lc p_c e_wa e_gb i_1) (cwV 1 hts gV_X11_174 rfl rfl rfl hv_X1_isWalled ⟨Nat.le_of_ble_eq_true rfl, Nat.le_of_ble_eq_true rfl⟩) (g5_preV hPc hK hDc hN hT hS hFc (ci := 1) (q0 := 0) rfl rfl) rfl rfl hl.1 rfl (lv_room (Nat.le_of_ble_eq_true rfl)) dX11_start_18 ⟨Nat.le_of_ble_eq_true rfl, Nat.le_of_ble_eq_true rfl⟩) hS (fun q _ h => hFc q h) hFc (fun r u t H locs ht hvm hw hB hz1 hk1 hS => ?_)
      obtain ⟨hP1, hD1⟩ := hB
      have hP1 := g5_ht ht hP1
      rcases hw with ⟨(i_4 : 0 ≤ p_c.toInt ∧ onB e_wa p_c.toInt = true), rfl, rfl⟩ | ⟨(i_5 : p_c.toInt = -1 ∨ onB e_wa p_c.toInt = false), rfl, rfl⟩
      ·
        have hJ9 := va_join (wr := [(a_o, (oc11 a_h a_im a_ke a_k a_wa a_th a_ha a_wk a_r a_x e_tl e_fd e_fpl a_wd e_wn a_rf e_lr)), (a_rf, (arI G 5 f_rf))]) hP hD [2] [0, 1] rfl rfl (by decide +kernel) (by decide +kernel) hk1 hFc hP1 hD1
        clear hP hD hPc hDc hFc ht hvm hz1 hk1 hP1 hD1
        obtain ⟨hP, hD⟩ := hJ9
        refine g5_rs [(a_o, (oc11 a_h a_im a_ke a_k a_wa a_th a_ha a_wk a_r a_x e_tl e_fd e_fpl a_wd e_wn a_rf e_lr)), (a_rf, (arI G 5 f_rf)), (a_h, (oc1 e_wa e_le e_st e_fo e_lc a_l a_g a_b a_s a_p a_w e_gb a_bb))] hP hD ?_
        clear hP hD
        intro hP hD
        refine lv_if_eq (tgt := 31) hx hb dX11_start_21 (by decide +kernel) (fun c_6 => ?_) (fun c_6 => ?_)
        ·
          exact absurd c_6 (by decide +kernel)
        ·
          refine lv_aload_n hx hb dX11_start_24 rfl (lv_at hl 0 rfl) ?_
          refine lv_bipush (v := (-3)) hx hb dX11_start_25 (by decide +kernel) ?_
          obtain ⟨hPc, hDc, hFc⟩ := g5_sub3 (wc := [(a_o, (oc11 a_h a_im a_ke a_k a_wa a_th a_ha a_wk a_r a_x e_tl e_fd e_fpl a_wd e_wn a_rf e_lr)), (a_rf, (arI G 5 f_rf))]) hP hD hS hA [0, 1] (by decide +kernel) rfl
          refine va_calli (va_runV (As := [.int (-3)]) (rest := []) ⟨hx, hb, hml, hown, hts⟩ (x_refuse3 l G a_o a_rf a_h a_im a_ke a_k a_wa a_th a_ha a_wk a_r a_x a_wd H.size e_tl e_fd e_fpl e_wn e_lr f_rf h_e_tl h_e_wn) (cwV 1 hts gV_X11_104 rfl rfl rfl hv_X11_refuse ⟨Nat.le_of_ble_eq_true rfl, Nat.le_of_ble_eq_true rfl⟩) (g5_preV hPc hK hDc hN hT hS hFc (ci := 11) (q0 := 0) rfl rfl) rfl rfl hl.1 rfl (lv_room (Nat.le_of_ble_eq_true rfl)) dX11_start_27 ⟨Nat.le_of_ble_eq_true rfl, Nat.le_of_ble_eq_true rfl⟩) hS (fun q _ h => hFc q h) hFc (fun r u t H locs ht hvm hw hB hz1 hk1 hS => ?_)
          obtain ⟨hP1, hD1⟩ := hB
          have hP1 := g5_ht ht hP1
          obtain ⟨z7, rfl, rfl⟩ := hw
          have hJ9 := va_join (wr := [(a_h, (oc1 e_wa e_le e_st e_fo e_lc a_l a_g a_b a_s a_p a_w e_gb a_bb))]) hP hD [0, 1] [2] rfl rfl (by decide +kernel) (by decide +kernel) hk1 hFc hP1 hD1
          clear hP hD hPc hDc hFc ht hvm hz1 hk1 hP1 hD1
          obtain ⟨hP, hD⟩ := hJ9
          refine g5_rs [(a_h, (oc1 e_wa e_le e_st e_fo e_lc a_l a_g a_b a_s a_p a_w e_gb a_bb)), (a_o, (oc11 a_h a_im a_ke a_k a_wa a_th a_ha a_wk a_r a_x e_tl e_fd e_fpl a_wd e_wn a_rf (-3))), (a_rf, (arI G 5 z7))] hP hD ?_
          clear hP hD
          intro hP hD
          exact W.iret (v := (-3)) hx hb hr (fun t ht hW => ⟨⟨(-3), [(a_o, (oc11 a_h a_im a_ke a_k a_wa a_th a_ha a_wk a_r a_x e_tl e_fd e_fpl a_wd e_wn a_rf (-3))), (a_rf, (arI G 5 z7)), (a_h, (oc1 e_wa e_le e_st e_fo e_lc a_l a_g a_b a_s a_p a_w e_gb a_bb))], rfl, ⟨(-3), (-3), z7, e_st, (start_3 (f := f_ro) (c := p_c) ⟨by omega, by omega⟩ (wl_y e_hh (by omega) i_4)).1.symm, by rw [(start_3 (f := f_ro) (c := p_c) ⟨by omega, by omega⟩ (wl_y e_hh (by omega) i_4)).2]; exact e_hh, rfl, rfl⟩, by rw [ht]; exact hP.sub [1, 2, 0] rfl, hD.sub [1, 2, 0] (by decide +kernel) rfl⟩, hS.F ht⟩) hS.2.2 dX11_start_30
      ·
        have hJ9 := va_join (wr := [(a_o, (oc11 a_h a_im a_ke a_k a_wa a_th a_ha a_wk a_r a_x e_tl e_fd e_fpl a_wd e_wn a_rf e_lr)), (a_rf, (arI G 5 f_rf))]) hP hD [2] [0, 1] rfl rfl (by decide +kernel) (by decide +kernel) hk1 hFc hP1 hD1
        clear hP hD hPc hDc hFc ht hvm hz1 hk1 hP1 hD1
        obtain ⟨hP, hD⟩ := hJ9
        refine g5_rs [(a_o, (oc11 a_h a_im a_ke a_k a_wa a_th a_ha a_wk a_r a_x e_tl e_fd e_fpl a_wd e_wn a_rf e_lr)), (a_rf, (arI G 5 f_rf)), (a_h, (oc1 e_wa e_le e_st e_fo e_lc a_l a_g a_b a_s a_p a_w e_gb a_bb))] hP hD ?_
        clear hP hD
        intro hP hD
        refine lv_if_eq (tgt := 31) hx hb dX11_start_21 (by decide +kernel) (fun c_8 => ?_) (fun c_8 => ?_)
        ·
          refine lv_aload_n hx hb dX11_start_31 rfl (lv_at hl 0 rfl) ?_
          refine va_get (D := G.1) (ci := 11) (v := .ref a_h) (C := RX11) (T := TX11) (N := 17) hx hb hts inG_X11 hown hK hP 0 rfl rfl 0 (by decide +kernel) (hts _ fl_X11_12) (fun _ h9 => h9) rfl dX11_start_32 ?_
          refine va_get (D := G.1) (ci := 1) (v := .int e_st) (C := RX1) (T := TX1) (N := 13) hx hb hts inG_X1 hown hK hP 2 rfl rfl 2 (by decide +kernel) (hts _ fl_X11_274) (fun _ h9 => h9) rfl dX11_start_35 ?_
          refine lv_istore_n (lv' := [(2, .int e_st), (0, .ref a_o), (1, .int p_c)]) hx hb dX11_start_38 rfl hl (by decide +kernel) rfl ?_
          clear hl
          intro ls hl
          refine W.eq (g2 := F0 m 39 ls []) rfl ?_
          refine lv_aload_n hx hb dX11_start_39 rfl (lv_at hl 1 rfl) ?_
          refine va_get (D := G.1) (ci := 11) (v := .ref a_h) (C := RX11) (T := TX11) (N := 17) hx hb hts inG_X11 hown hK hP 0 rfl rfl 0 (by decide +kernel) (hts _ fl_X11_12) (fun _ h9 => h9) rfl dX11_start_40 ?_
          refine lv_iload_n hx hb dX11_start_43 rfl (lv_at hl 2 rfl) ?_
          refine va_put (D := G.1) (ci := 1) (v := .int p_c) (ty := .int) (C := RX1) (T := TX1) (N := 13) hx hb hts inG_X1 tyX1 tyX1_ok nmX1 hown hK hP hD hS 2 rfl rfl 2 (by decide +kernel) (hts _ fl_X11_274) (fun _ h9 => h9) rfl (by decide +kernel) rfl rfl (Nat.le_of_ble_eq_true rfl) dX11_start_44 ?_
          clear hP hD hS
          intro H locs hP hD hS
          refine g5_rs [(a_o, (oc11 a_h a_im a_ke a_k a_wa a_th a_ha a_wk a_r a_x e_tl e_fd e_fpl a_wd e_wn a_rf e_lr)), (a_rf, (arI G 5 f_rf)), (a_h, (oc1 e_wa e_le p_c e_fo e_lc a_l a_g a_b a_s a_p a_w e_gb a_bb))] hP hD ?_
          clear hP hD
          intro hP hD
          refine lv_aload_n hx hb dX11_start_47 rfl (lv_at hl 1 rfl) ?_
          refine W.eq (g2 := F0 m 48 ls [.ref a_o]) rfl ?_
          refine lv_iload_n hx hb dX11_start_48 rfl (lv_at hl 0 rfl) ?_
          obtain ⟨hPc, hDc, hFc⟩ := g5_sub3 (wc := [(a_o, (oc11 a_h a_im a_ke a_k a_wa a_th a_ha a_wk a_r a_x e_tl e_fd e_fpl a_wd e_wn a_rf e_lr))]) hP hD hS hA [0] (by decide +kernel) rfl
          refine va_calli (va_runV (As := [.int e_st]) (rest := []) ⟨hx, hb, hml, hown, hts⟩ (x_done l G a_o a_h a_im a_ke a_k a_wa a_th a_ha a_wk a_r a_x a_wd a_rf H.size e_tl e_fd e_fpl e_wn e_lr e_st h_e_tl h_e_wn) (cwV 1 hts gV_X11_121 rfl rfl rfl hv_X11_done ⟨Nat.le_of_ble_eq_true rfl, Nat.le_of_ble_eq_true rfl⟩) (g5_preV hPc hK hDc hN hT hS hFc (ci := 11) (q0 := 0) rfl rfl) rfl rfl hl.1 rfl (lv_room (Nat.le_of_ble_eq_true rfl)) dX11_start_49 ⟨Nat.le_of_ble_eq_true rfl, Nat.le_of_ble_eq_true rfl⟩) hS (fun q _ h => hFc q h) hFc (fun r u t H locs ht hvm hw hB hz1 hk1 hS => ?_)
          obtain ⟨hP1, hD1⟩ := hB
          have hP1 := g5_ht ht hP1
          obtain ⟨y9, rfl⟩ := hw
          have hJ9 := va_join (wr := [(a_rf, (arI G 5 f_rf)), (a_h, (oc1 e_wa e_le p_c e_fo e_lc a_l a_g a_b a_s a_p a_w e_gb a_bb))]) hP hD [0] [1, 2] rfl rfl (by decide +kernel) (by decide +kernel) hk1 hFc hP1 hD1
          clear hP hD hPc hDc hFc ht hvm hz1 hk1 hP1 hD1
          obtain ⟨hP, hD⟩ := hJ9
          refine g5_rs [(a_rf, (arI G 5 f_rf)), (a_h, (oc1 e_wa e_le p_c e_fo e_lc a_l a_g a_b a_s a_p a_w e_gb a_bb)), (a_o, (oc11 a_h a_im a_ke a_k a_wa a_th a_ha a_wk a_r a_x e_tl e_fd e_fpl a_wd e_wn a_rf 0))] hP hD ?_
          clear hP hD
          intro hP hD
          refine g5_ti (v := e_st) y9 ?_
          exact W.iret (v := e_st) hx hb hr (fun t ht hW => ⟨⟨e_st, [(a_o, (oc11 a_h a_im a_ke a_k a_wa a_th a_ha a_wk a_r a_x e_tl e_fd e_fpl a_wd e_wn a_rf 0)), (a_rf, (arI G 5 f_rf)), (a_h, (oc1 e_wa e_le p_c e_fo e_lc a_l a_g a_b a_s a_p a_w e_gb a_bb))], rfl, ⟨e_st, 0, f_rf, p_c, by rw [(start_0 (f := f_ro) (c := p_c) ⟨by omega, by omega⟩ (wl_n e_hh (by omega) i_5)).1]; exact e_hh.2.2.symm, hh_start e_hh ⟨by omega, by omega⟩ (wl_n e_hh (by omega) i_5), rfl, rfl⟩, by rw [ht]; exact hP.sub [2, 0, 1] rfl, hD.sub [2, 0, 1] (by decide +kernel) rfl⟩, hS.F ht⟩) hS.2.2 dX11_start_52
        ·
          exact absurd c_8 (by decide +kernel)
    ·
      exact absurd c_3 (by decide +kernel)
  ·
    have hJ9 := g5_same hP hk1
    clear hP hPc hDc hFc ht hvm hz1 hk1 hP1 hD1
    have hP := hJ9
    clear hJ9
    refine lv_if_ne (tgt := 13) hx hb dX11_start_4 (by decide +kernel) (fun c_10 => ?_) (fun c_10 => ?_)
    ·
      exact absurd c_10 (by decide +kernel)
    ·
      refine lv_aload_n hx hb dX11_start_7 rfl (lv_at hl 0 rfl) ?_
      refine lv_iconst (v := (-1)) hx hb dX11_start_8 (by decide +kernel) ?_
      obtain ⟨hPc, hDc, hFc⟩ := g5_sub3 (wc := [(a_o, (oc11 a_h a_im a_ke a_k a_wa a_th a_ha a_wk a_r a_x e_tl e_fd e_fpl a_wd e_wn a_rf e_lr)), (a_rf, (arI G 5 f_rf))]) hP hD hS hA [0, 1] (by decide +kernel) rfl
      refine va_calli (va_runV (As := [.int (-1)]) (rest := []) ⟨hx, hb, hml, hown, hts⟩ (x_refuse1 l G a_o a_rf a_h a_im a_ke a_k a_wa a_th a_ha a_wk a_r a_x a_wd H.size e_tl e_fd e_fpl e_wn e_lr f_rf h_e_tl h_e_wn) (cwV 1 hts gV_X11_104 rfl rfl rfl hv_X11_refuse ⟨Nat.le_of_ble_eq_true rfl, Nat.le_of_ble_eq_true rfl⟩) (g5_preV hPc hK hDc hN hT hS hFc (ci := 11) (q0 := 0) rfl rfl) rfl rfl hl.1 rfl (lv_room (Nat.le_of_ble_eq_true rfl)) dX11_start_9 ⟨Nat.le_of_ble_eq_true rfl, Nat.le_of_ble_eq_true rfl⟩) hS (fun q _ h => hFc q h) hFc (fun r u t H locs ht hvm hw hB hz1 hk1 hS => ?_)
      obtain ⟨hP1, hD1⟩ := hB
      have hP1 := g5_ht ht hP1
      obtain ⟨z11, rfl, rfl⟩ := hw
      have hJ9 := va_join (wr := [(a_h, (oc1 e_wa e_le e_st e_fo e_lc a_l a_g a_b a_s a_p a_w e_gb a_bb))]) hP hD [0, 1] [2] rfl rfl (by decide +kernel) (by decide +kernel) hk1 hFc hP1 hD1
      clear hP hD hPc hDc hFc ht hvm hz1 hk1 hP1 hD1
      obtain ⟨hP, hD⟩ := hJ9
      refine g5_rs [(a_h, (oc1 e_wa e_le e_st e_fo e_lc a_l a_g a_b a_s a_p a_w e_gb a_bb)), (a_o, (oc11 a_h a_im a_ke a_k a_wa a_th a_ha a_wk a_r a_x e_tl e_fd e_fpl a_wd e_wn a_rf (-1))), (a_rf, (arI G 5 z11))] hP hD ?_
      clear hP hD
      intro hP hD
      exact W.iret (v := (-1)) hx hb hr (fun t ht hW => ⟨⟨(-1), [(a_o, (oc11 a_h a_im a_ke a_k a_wa a_th a_ha a_wk a_r a_x e_tl e_fd e_fpl a_wd e_wn a_rf (-1))), (a_rf, (arI G 5 z11)), (a_h, (oc1 e_wa e_le e_st e_fo e_lc a_l a_g a_b a_s a_p a_w e_gb a_bb))], rfl, ⟨(-1), (-1), z11, e_st, (start_1 (f := f_ro) (c := p_c) (by omega)).1.symm, by rw [(start_1 (f := f_ro) (c := p_c) (by omega)).2]; exact e_hh, rfl, rfl⟩, by rw [ht]; exact hP.sub [1, 2, 0] rfl, hD.sub [1, 2, 0] (by decide +kernel) rfl⟩, hS.F ht⟩) hS.2.2 dX11_start_12
set_option maxHeartbeats 4000000 in
set_option maxRecDepth 100000 in
theorem x_writeX (l : Launch) (G : g5_G) (a_o a_x a_h a_im a_ke a_k a_wa a_th a_ha a_wk a_r a_wd a_rf : Nat) (sz : Nat) (e_tl : Int32) (e_fd : Int32) (e_fpl : Int32) (e_wn : Int32) (e_lr : Int32) (p_v : Int32) (f_x : Nat → Int32) (h_e_tl : 0 ≤ e_tl.toInt ∧ e_tl.toInt ≤ 400) (h_e_wn : 0 ≤ e_wn.toInt ∧ e_wn.toInt ≤ 1) (e_tf : e_tl.toInt ≤ 396) (e_t0 : 0 ≤ e_tl.toInt) : Met l yX11_write (wsG yX11_write cX11_write 3 none) ({ frames := 0, cells := 0, slots := 0, locals := 0 }) (va_Pc [.ref a_o, .int p_v] (g5_P G [(a_o, (oc11 a_h a_im a_ke a_k a_wa a_th a_ha a_wk a_r a_x e_tl e_fd e_fpl a_wd e_wn a_rf e_lr)), (a_x, (arI G 400 f_x))] sz)) (va_Qv (fun (u : va_W) => (∃ (o_t : Int32) (o_x : Nat → Int32), (o_t.toInt = e_tl.toInt + 4) ∧ (o_x = wr4 f_x e_tl.toInt.toNat p_v 4) ∧ (u = [(a_o, (oc11 a_h a_im a_ke a_k a_wa a_th a_ha a_wk a_r a_x o_t e_fd e_fpl a_wd e_wn a_rf e_lr)), (a_x, (arI G 400 o_x))]))) (g5_B G (va_A [(a_o, (oc11 a_h a_im a_ke a_k a_wa a_th a_ha a_wk a_r a_x e_tl e_fd e_fpl a_wd e_wn a_rf e_lr)), (a_x, (arI G 400 f_x))] sz)) (va_A [(a_o, (oc11 a_h a_im a_ke a_k a_wa a_th a_ha a_wk a_r a_x e_tl e_fd e_fpl a_wd e_wn a_rf e_lr)), (a_x, (arI G 400 f_x))] sz)) 0 0 (va_A [(a_o, (oc11 a_h a_im a_ke a_k a_wa a_th a_ha a_wk a_r a_x e_tl e_fd e_fpl a_wd e_wn a_rf e_lr)), (a_x, (arI G 400 f_x))] sz) := by
  refine Met.ofW (cc := cX11_write) (maxL := 3) (ret := none) (by decide +kernel) rfl ?_
  intro p e s m args below meth c s₁ B hml hv
  obtain ⟨rfl, hsz, hP, hK, hD0, hN, hT⟩ := hv
  have hx := B.exec
  have hb := B.bytes
  have hr := B.returns
  have hts : ∀ w ∈ tblG, w.before _ s = true := fun w h => atoms_spec (ws := (wsG yX11_write cX11_write 3 none)) B.pre w (List.mem_cons_of_mem _ h)
  have hown : s.vm.findClass RX11 = some m.cls := findClass_of_methodNamed B.named
  have hlocks := B.notSynchronized
  subst hsz
  have hD := hD0.self (sz := s.heap.size)
  generalize hAe : va_A [(a_o, (oc11 a_h a_im a_ke a_k a_wa a_th a_ha a_wk a_r a_x e_tl e_fd e_fpl a_wd e_wn a_rf e_lr)), (a_x, (arI G 400 f_x))] s.heap.size = A at hD hT ⊢
  have hA : ∀ q : Nat, s.heap.size ≤ q → A q := fun q h => by rw [← hAe]; exact Or.inr h
  have hS : va_S A s.heap s.heap [] := va_S.rf
  replace hP : va_P G.1 vwCl [(a_o, (oc11 a_h a_im a_ke a_k a_wa a_th a_ha a_wk a_r a_x e_tl e_fd e_fpl a_wd e_wn a_rf e_lr)), (a_x, (arI G 400 f_x))] s.heap := hP
  have hl := lv_entry ([.ref a_o, .int p_v]) (n := 3) (Nat.le_of_ble_eq_true rfl)
  rw [lg_entry_eq]
  generalize (lg_sl ([.ref a_o, .int p_v]) ++ List.replicate (3 - (lg_sl ([.ref a_o, .int p_v])).length) Slot.unset).toArray = ls at hl ⊢
  replace hl : lv_has ls 3 [(0, .ref a_o), (1, .int p_v)] := hl
  refine lv_bipush (v := 24) hx hb dX11_write_0 (by decide +kernel) ?_
  refine lv_istore_n (lv' := [(2, .int 24), (0, .ref a_o), (1, .int p_v)]) hx hb dX11_write_2 rfl hl (by decide +kernel) rfl ?_
  clear hl
  intro ls hl
  refine g5_loop (α := (Int32) × (Int32) × (Nat → Int32)) (fun (q : (Int32) × (Int32) × (Nat → Int32)) (ls : Array Slot) (H : Heap) (locs : List Loc) => match q with | (k_s, k_t, k_x) => lv_has ls 3 [(2, .int k_s), (0, .ref a_o), (1, .int p_v)] ∧ va_P G.1 vwCl [(a_o, (oc11 a_h a_im a_ke a_k a_wa a_th a_ha a_wk a_r a_x k_t e_fd e_fpl a_wd e_wn a_rf e_lr)), (a_x, (arI G 400 k_x))] H ∧ va_D A [(a_o, (oc11 a_h a_im a_ke a_k a_wa a_th a_ha a_wk a_r a_x k_t e_fd e_fpl a_wd e_wn a_rf e_lr)), (a_x, (arI G 400 k_x))] ∧ va_S A s.heap H locs ∧ ((-8) ≤ k_s.toInt ∧ k_s.toInt ≤ 24) ∧ (0 ≤ k_t.toInt ∧ k_t.toInt ≤ 400) ∧ (8 * (k_t.toInt - e_tl.toInt) = 24 - k_s.toInt) ∧ (k_x = wr4 f_x e_tl.toInt.toNat p_v (k_t.toInt - e_tl.toInt).toNat)) (fun (q : (Int32) × (Int32) × (Nat → Int32)) => match q with | (k_s, k_t, k_x) => Int.toNat (k_s.toInt + 8)) (24, e_tl, f_x) ⟨lv_sub hl [0, 1, 2] rfl, hP, hD, hS, ⟨by decide, by decide⟩, h_e_tl, by have z24 : (24 : Int32).toInt = 24 := (by decide +kernel); omega, by rw [Int.sub_self]; exact rfl⟩ ?_
  rintro ⟨k_s, k_t, k_x⟩ ls H locs ⟨hl, hP, hD, hS, (i_1 : (-8) ≤ k_s.toInt ∧ k_s.toInt ≤ 24), (i_2 : 0 ≤ k_t.toInt ∧ k_t.toInt ≤ 400), (i_3 : 8 * (k_t.toInt - e_tl.toInt) = 24 - k_s.toInt), (i_4 : k_x = wr4 f_x e_tl.toInt.toNat p_v (k_t.toInt - e_tl.toInt).toNat)⟩ ih_3_5
  replace hl : lv_has ls 3 [(2, .int k_s), (0, .ref a_o), (1, .int p_v)] := hl
  refine g5_rs [(a_o, (oc11 a_h a_im a_ke a_k a_wa a_th a_ha a_wk a_r a_x k_t e_fd e_fpl a_wd e_wn a_rf e_lr)), (a_x, (arI G 400 k_x))] hP hD ?_
  clear hP hD
  intro hP hD
  refine lv_iload_n hx hb dX11_write_3 rfl (lv_at hl 0 rfl) ?_
  refine lv_if_lt (tgt := 51) hx hb dX11_write_4 (by decide +kernel) (fun c_6 => ?_) (fun c_6 => ?_)
  ·
    have i_6 : k_s.toInt < 0 := g5_lt (a := k_s.toInt) (b := 0) rfl (by decide +kernel) c_6
    exact W.vret hx hb hr (fun t ht hW => ⟨⟨[(a_o, (oc11 a_h a_im a_ke a_k a_wa a_th a_ha a_wk a_r a_x k_t e_fd e_fpl a_wd e_wn a_rf e_lr)), (a_x, (arI G 400 k_x))], rfl, ⟨k_t, k_x, by omega, by rw [i_4, show (k_t.toInt - e_tl.toInt).toNat = 4 by omega], rfl⟩, by rw [ht]; exact hP.sub [0, 1] rfl, hD.sub [0, 1] (by decide +kernel) rfl⟩, hS.F ht⟩) hS.2.2 dX11_write_51
  ·
    have i_6 : k_s.toInt ≥ 0 := g5_ltN (a := k_s.toInt) (b := 0) rfl (by decide +kernel) c_6
    refine lv_aload_n hx hb dX11_write_7 rfl (lv_at hl 1 rfl) ?_
    refine va_get (D := G.1) (ci := 11) (v := .int k_t) (C := RX11) (T := TX11) (N := 17) hx hb hts inG_X11 hown hK hP 0 rfl rfl 10 (by decide +kernel) (hts _ fl_X11_74) (fun _ h9 => h9) rfl dX11_write_8 ?_
    refine lv_aload_n hx hb dX11_write_11 rfl (lv_at hl 1 rfl) ?_
    refine va_get (D := G.1) (ci := 11) (v := .ref a_x) (C := RX11) (T := TX11) (N := 17) hx hb hts inG_X11 hown hK hP 0 rfl rfl 9 (by decide +kernel) (hts _ fl_X11_70) (fun _ h9 => h9) rfl dX11_write_12 ?_
    refine W.eq (g2 := F0 m 15 ls [.ref a_x, .int k_t]) rfl ?_
    refine va_alen hx hb hK hP 1 0 rfl rfl (v := 400) (by show Int32.ofNat 400 = 400; decide) dX11_write_15 ?_
    refine lv_icmp_ge (tgt := 51) hx hb dX11_write_16 (by decide +kernel) (fun c_7 => ?_) (fun c_7 => ?_)
    ·
      have i_7 : k_t.toInt ≥ 400 := g5_ge (a := k_t.toInt) (b := 400) rfl (by decide +kernel) c_7
      exact W.vret hx hb hr (fun t ht hW => ⟨⟨[(a_o, (oc11 a_h a_im a_ke a_k a_wa a_th a_ha a_wk a_r a_x k_t e_fd e_fpl a_wd e_wn a_rf e_lr)), (a_x, (arI G 400 k_x))], rfl, ⟨k_t, k_x, by omega, by rw [i_4, show (k_t.toInt - e_tl.toInt).toNat = 4 by omega], rfl⟩, by rw [ht]; exact hP.sub [0, 1] rfl, hD.sub [0, 1] (by decide +kernel) rfl⟩, hS.F ht⟩) hS.2.2 dX11_write_51
    ·
      have i_7 : k_t.toInt < 400 := g5_geN (a := k_t.toInt) (b := 400) rfl (by decide +kernel) c_7
      refine lv_aload_n hx hb dX11_write_19 rfl (lv_at hl 1 rfl) ?_
      refine va_get (D := G.1) (ci := 11) (v := .ref a_x) (C := RX11) (T := TX11) (N := 17) hx hb hts inG_X11 hown hK hP 0 rfl rfl 9 (by decide +kernel) (hts _ fl_X11_70) (fun _ h9 => h9) rfl dX11_write_20 ?_
      refine lv_aload_n hx hb dX11_write_23 rfl (lv_at hl 1 rfl) ?_
      refine va_get (D := G.1) (ci := 11) (v := .int k_t) (C := RX11) (T := TX11) (N := 17) hx hb hts inG_X11 hown hK hP 0 rfl rfl 10 (by decide +kernel) (hts _ fl_X11_74) (fun _ h9 => h9) rfl dX11_write_24 ?_
      refine W.eq (g2 := F0 m 27 ls [.int k_t, .ref a_x]) rfl ?_
      refine lv_iload_n hx hb dX11_write_27 rfl (lv_at hl 2 rfl) ?_
      refine lv_iload_n hx hb dX11_write_28 rfl (lv_at hl 0 rfl) ?_
      refine lv_iushr (v := ((p_v.toUInt32 >>> (k_s.toUInt32 &&& Int32.toUInt32 31)).toInt32)) hx hb dX11_write_29 rfl ?_
      refine lv_sipush (v := 255) hx hb dX11_write_30 (by decide +kernel) ?_
      refine lv_iand hx hb dX11_write_33 ?_
      refine W.eq (g2 := F0 m 34 ls [.int (((p_v.toUInt32 >>> (k_s.toUInt32 &&& Int32.toUInt32 31)).toInt32) &&& 255), .int k_t, .ref a_x]) rfl ?_
      refine va_iast hx hb hK hP hD hS 1 0 rfl rfl (i := k_t) (x := (((p_v.toUInt32 >>> (k_s.toUInt32 &&& Int32.toUInt32 31)).toInt32) &&& 255)) (vp_in_iff.mpr ⟨by omega, by omega⟩) dX11_write_34 ?_
      clear hP hD hS
      intro H locs hP hD hS
      refine g5_rs [(a_o, (oc11 a_h a_im a_ke a_k a_wa a_th a_ha a_wk a_r a_x k_t e_fd e_fpl a_wd e_wn a_rf e_lr)), (a_x, (arI G 400 (upd k_x k_t.toNatClampNeg (((p_v.toUInt32 >>> (k_s.toUInt32 &&& Int32.toUInt32 31)).toInt32) &&& 255))))] hP hD ?_
      clear hP hD
      intro hP hD
      refine lv_aload_n hx hb dX11_write_35 rfl (lv_at hl 1 rfl) ?_
      refine lv_dup hx hb dX11_write_36 rfl ?_
      refine va_get (D := G.1) (ci := 11) (v := .int k_t) (C := RX11) (T := TX11) (N := 17) hx hb hts inG_X11 hown hK hP 0 rfl rfl 10 (by decide +kernel) (hts _ fl_X11_74) (fun _ h9 => h9) rfl dX11_write_37 ?_
      refine lv_iconst (v := 1) hx hb dX11_write_40 (by decide +kernel) ?_
      refine W.eq (g2 := F0 m 41 ls [.int 1, .int k_t, .ref a_o]) rfl ?_
      refine lv_iadd hx hb dX11_write_41 ?_
      have t_8 : (k_t + 1).toInt = k_t.toInt + 1 := g5_iadd (a := k_t.toInt) (b := 1) (by rfl) (by decide +kernel) (by omega) (by omega)
      refine va_put (D := G.1) (ci := 11) (v := .int (k_t + 1)) (ty := .int) (C := RX11) (T := TX11) (N := 17) hx hb hts inG_X11 tyX11 tyX11_ok nmX11 hown hK hP hD hS 0 rfl rfl 10 (by decide +kernel) (hts _ fl_X11_74) (fun _ h9 => h9) rfl (by decide +kernel) rfl rfl (Nat.le_of_ble_eq_true rfl) dX11_write_42 ?_
      clear hP hD hS
      intro H locs hP hD hS
      refine g5_rs [(a_o, (oc11 a_h a_im a_ke a_k a_wa a_th a_ha a_wk a_r a_x (k_t + 1) e_fd e_fpl a_wd e_wn a_rf e_lr)), (a_x, (arI G 400 (upd k_x k_t.toNatClampNeg (((p_v.toUInt32 >>> (k_s.toUInt32 &&& Int32.toUInt32 31)).toInt32) &&& 255))))] hP hD ?_
      clear hP hD
      intro hP hD
      obtain ⟨y9, hy_9, t_9⟩ := g_incN k_s (-8) (by decide +kernel) (by omega) (by omega)
      have t_9 : y9.toInt = k_s.toInt + (-8) := t_9
      refine lv_iinc (v := y9) (lv' := [(2, .int y9), (0, .ref a_o), (1, .int p_v)]) hx hb dX11_write_45 hl (k := 0) rfl hy_9 (by decide +kernel) rfl ?_
      clear hl
      intro ls hl
      refine lv_goto (tgt := 3) hx hb dX11_write_48 (by decide +kernel) ?_
      exact ih_3_5 (y9, (k_t + 1), (upd k_x k_t.toNatClampNeg (((p_v.toUInt32 >>> (k_s.toUInt32 &&& Int32.toUInt32 31)).toInt32) &&& 255))) ls H locs (show Int.toNat (y9.toInt + 8) < Int.toNat (k_s.toInt + 8) by omega) ⟨lv_sub hl [0, 1, 2] rfl, hP, hD, hS, ⟨by omega, by omega⟩, ⟨by omega, by omega⟩, by omega, by rw [show ((k_t + 1).toInt - e_tl.toInt).toNat = (k_t.toInt - e_tl.toInt).toNat + 1 by omega]; exact wr_S i_4 (by have zz := g5_clamp k_t; omega) (byte_u p_v _ (by omega) (by omega))⟩
set_option maxHeartbeats 4000000 in
set_option maxRecDepth 100000 in
theorem x_feedX (l : Launch) (G : g5_G) (a_o a_x a_h a_im a_ke a_k a_wa a_th a_ha a_wk a_r a_wd a_rf : Nat) (sz : Nat) (e_tl : Int32) (e_fd : Int32) (e_fpl : Int32) (e_wn : Int32) (e_lr : Int32) (p_a : Int32) (p_b : Int32) (p_c : Int32) (p_d : Int32) (p_e : Int32) (f_x : Nat → Int32) (h_e_tl : 0 ≤ e_tl.toInt ∧ e_tl.toInt ≤ 400) (h_e_wn : 0 ≤ e_wn.toInt ∧ e_wn.toInt ≤ 1) : Met l yX11_feed (wsG yX11_feed cX11_feed 6 (some .int)) ({ frames := 1, cells := 0, slots := 0, locals := 22 }) (va_Pc [.ref a_o, .int p_a, .int p_b, .int p_c, .int p_d, .int p_e] (g5_P G [(a_o, (oc11 a_h a_im a_ke a_k a_wa a_th a_ha a_wk a_r a_x e_tl e_fd e_fpl a_wd e_wn a_rf e_lr)), (a_x, (arI G 400 f_x))] sz)) (va_Qi (fun (r : Int32) (u : va_W) => (∃ (o_r : Int32) (o_t : Int32) (o_x : Nat → Int32), (0 ≤ o_t.toInt ∧ o_t.toInt ≤ 400) ∧ (o_x = sfeedT f_x e_tl p_a p_b p_c p_d p_e) ∧ (o_t = sfeedN e_tl) ∧ (o_r = afeed e_tl) ∧ (r = o_r) ∧ (u = [(a_o, (oc11 a_h a_im a_ke a_k a_wa a_th a_ha a_wk a_r a_x o_t e_fd e_fpl a_wd e_wn a_rf e_lr)), (a_x, (arI G 400 o_x))]))) (g5_B G (va_A [(a_o, (oc11 a_h a_im a_ke a_k a_wa a_th a_ha a_wk a_r a_x e_tl e_fd e_fpl a_wd e_wn a_rf e_lr)), (a_x, (arI G 400 f_x))] sz)) (va_A [(a_o, (oc11 a_h a_im a_ke a_k a_wa a_th a_ha a_wk a_r a_x e_tl e_fd e_fpl a_wd e_wn a_rf e_lr)), (a_x, (arI G 400 f_x))] sz)) 0 0 (va_A [(a_o, (oc11 a_h a_im a_ke a_k a_wa a_th a_ha a_wk a_r a_x e_tl e_fd e_fpl a_wd e_wn a_rf e_lr)), (a_x, (arI G 400 f_x))] sz) := by
  refine Met.ofW (cc := cX11_feed) (maxL := 6) (ret := (some .int)) (by decide +kernel) rfl ?_
  intro p e s m args below meth c s₁ B hml hv
  obtain ⟨rfl, hsz, hP, hK, hD0, hN, hT⟩ := hv
  have hx := B.exec
  have hb := B.bytes
  have hr := B.returns
  have hts : ∀ w ∈ tblG, w.before _ s = true := fun w h => atoms_spec (ws := (wsG yX11_feed cX11_feed 6 (some .int))) B.pre w (List.mem_cons_of_mem _ h)
  have hown : s.vm.findClass RX11 = some m.cls := findClass_of_methodNamed B.named
  have hlocks := B.notSynchronized
  subst hsz
  have hD := hD0.self (sz := s.heap.size)
  generalize hAe : va_A [(a_o, (oc11 a_h a_im a_ke a_k a_wa a_th a_ha a_wk a_r a_x e_tl e_fd e_fpl a_wd e_wn a_rf e_lr)), (a_x, (arI G 400 f_x))] s.heap.size = A at hD hT ⊢
  have hA : ∀ q : Nat, s.heap.size ≤ q → A q := fun q h => by rw [← hAe]; exact Or.inr h
  have hS : va_S A s.heap s.heap [] := va_S.rf
  replace hP : va_P G.1 vwCl [(a_o, (oc11 a_h a_im a_ke a_k a_wa a_th a_ha a_wk a_r a_x e_tl e_fd e_fpl a_wd e_wn a_rf e_lr)), (a_x, (arI G 400 f_x))] s.heap := hP
  have hl := lv_entry ([.ref a_o, .int p_a, .int p_b, .int p_c, .int p_d, .int p_e]) (n := 6) (Nat.le_of_ble_eq_true rfl)
  rw [lg_entry_eq]
  generalize (lg_sl ([.ref a_o, .int p_a, .int p_b, .int p_c, .int p_d, .int p_e]) ++ List.replicate (6 - (lg_sl ([.ref a_o, .int p_a, .int p_b, .int p_c, .int p_d, .int p_e])).length) Slot.unset).toArray = ls at hl ⊢
  replace hl : lv_has ls 6 [(0, .ref a_o), (1, .int p_a), (2, .int p_b), (3, .int p_c), (4, .int p_d), (5, .int p_e)] := hl
  refine lv_aload_n hx hb dX11_feed_0 rfl (lv_at hl 0 rfl) ?_
  refine va_get (D := G.1) (ci := 11) (v := .int e_tl) (C := RX11) (T := TX11) (N := 17) hx hb hts inG_X11 hown hK hP 0 rfl rfl 10 (by decide +kernel) (hts _ fl_X11_74) (fun _ h9 => h9) rfl dX11_feed_1 ?_
  refine lv_bipush (v := 20) hx hb dX11_feed_4 (by decide +kernel) ?_
  refine lv_iadd hx hb dX11_feed_6 ?_
  have t_1 : (e_tl + 20).toInt = e_tl.toInt + 20 := g5_iadd (a := e_tl.toInt) (b := 20) (by rfl) (by decide +kernel) (by omega) (by omega)
  refine W.eq (g2 := F0 m 7 ls [.int (e_tl + 20)]) rfl ?_
  refine lv_sipush (v := 400) hx hb dX11_feed_7 (by decide +kernel) ?_
  refine lv_icmp_le (tgt := 15) hx hb dX11_feed_10 (by decide +kernel) (fun c_2 => ?_) (fun c_2 => ?_)
  ·
    have i_2 : (e_tl.toInt + 20) ≤ 400 := by have z := g5_le (a := (e_tl + 20).toInt) (b := 400) (by rfl) (by decide +kernel) c_2; omega
    refine lv_aload_n hx hb dX11_feed_15 rfl (lv_at hl 0 rfl) ?_
    refine lv_iload_n hx hb dX11_feed_16 rfl (lv_at hl 1 rfl) ?_
    obtain ⟨hPc, hDc, hFc⟩ := g5_sub3 (wc := [(a_o, (oc11 a_h a_im a_ke a_k a_wa a_th a_ha a_wk a_r a_x e_tl e_fd e_fpl a_wd e_wn a_rf e_lr)), (a_x, (arI G 400 f_x))]) hP hD hS hA [0, 1] (by decide +kernel) rfl
    refine va_callv (va_runV (As := [.int p_a]) (rest := []) ⟨hx, hb, hml, hown, hts⟩ (x_writeX l G a_o a_x a_h a_im a_ke a_k a_wa a_th a_ha a_wk a_r a_wd a_rf s.heap.size e_tl e_fd e_fpl e_wn e_lr p_a f_x h_e_tl h_e_wn (by omega) (by omega)) (cwV 1 hts gV_X11_185 rfl rfl rfl hv_X11_write ⟨Nat.le_of_ble_eq_true rfl, Nat.le_of_ble_eq_true rfl⟩) (g5_preV hPc hK hDc hN hT hS hFc (ci := 11) (q0 := 0) rfl rfl) rfl rfl hl.1 rfl (lv_room (Nat.le_of_ble_eq_true rfl)) dX11_feed_17 ⟨Nat.le_of_ble_eq_true rfl, Nat.le_of_ble_eq_true rfl⟩) hS (fun q _ h => hFc q h) hFc (fun u t H locs ht hvm hw hB hz1 hk1 hS => ?_)
    obtain ⟨hP1, hD1⟩ := hB
    have hP1 := g5_ht ht hP1
    obtain ⟨z5, z6, (i_3 : z5.toInt = e_tl.toInt + 4), (i_4 : z6 = wr4 f_x e_tl.toInt.toNat p_a 4), rfl⟩ := hw
    have hJ9 := va_join (wr := []) hP hD [0, 1] [] rfl rfl (by decide +kernel) (by decide +kernel) hk1 hFc hP1 hD1
    clear hP hD hPc hDc hFc ht hvm hz1 hk1 hP1 hD1
    obtain ⟨hP, hD⟩ := hJ9
    refine g5_rs [(a_o, (oc11 a_h a_im a_ke a_k a_wa a_th a_ha a_wk a_r a_x z5 e_fd e_fpl a_wd e_wn a_rf e_lr)), (a_x, (arI G 400 z6))] hP hD ?_
    clear hP hD
    intro hP hD
    refine lv_aload_n hx hb dX11_feed_20 rfl (lv_at hl 0 rfl) ?_
    refine W.eq (g2 := F0 m 21 ls [.ref a_o]) rfl ?_
    refine lv_iload_n hx hb dX11_feed_21 rfl (lv_at hl 2 rfl) ?_
    obtain ⟨hPc, hDc, hFc⟩ := g5_sub3 (wc := [(a_o, (oc11 a_h a_im a_ke a_k a_wa a_th a_ha a_wk a_r a_x z5 e_fd e_fpl a_wd e_wn a_rf e_lr)), (a_x, (arI G 400 z6))]) hP hD hS hA [0, 1] (by decide +kernel) rfl
    refine va_callv (va_runV (As := [.int p_b]) (rest := []) ⟨hx, hb, hml, hown, hts⟩ (x_writeX l G a_o a_x a_h a_im a_ke a_k a_wa a_th a_ha a_wk a_r a_wd a_rf H.size z5 e_fd e_fpl e_wn e_lr p_b z6 ⟨by omega, by omega⟩ h_e_wn (by omega) (by omega)) (cwV 1 hts gV_X11_185 rfl rfl rfl hv_X11_write ⟨Nat.le_of_ble_eq_true rfl, Nat.le_of_ble_eq_true rfl⟩) (g5_preV hPc hK hDc hN hT hS hFc (ci := 11) (q0 := 0) rfl rfl) rfl rfl hl.1 rfl (lv_room (Nat.le_of_ble_eq_true rfl)) dX11_feed_22 ⟨Nat.le_of_ble_eq_true rfl, Nat.le_of_ble_eq_true rfl⟩) hS (fun q _ h => hFc q h) hFc (fun u t H locs ht hvm hw hB hz1 hk1 hS => ?_)
    obtain ⟨hP1, hD1⟩ := hB
    have hP1 := g5_ht ht hP1
    obtain ⟨z9, z10, (i_7 : z9.toInt = z5.toInt + 4), (i_8 : z10 = wr4 z6 z5.toInt.toNat p_b 4), rfl⟩ := hw
    have hJ9 := va_join (wr := []) hP hD [0, 1] [] rfl rfl (by decide +kernel) (by decide +kernel) hk1 hFc hP1 hD1
    clear hP hD hPc hDc hFc ht hvm hz1 hk1 hP1 hD1
    obtain ⟨hP, hD⟩ := hJ9
    refine g5_rs [(a_o, (oc11 a_h a_im a_ke a_k a_wa a_th a_ha a_wk a_r a_x z9 e_fd e_fpl a_wd e_wn a_rf e_lr)), (a_x, (arI G 400 z10))] hP hD ?_
    clear hP hD
    intro hP hD
    refine lv_aload_n hx hb dX11_feed_25 rfl (lv_at hl 0 rfl) ?_
    refine lv_iload_n hx hb dX11_feed_26 rfl (lv_at hl 3 rfl) ?_
    obtain ⟨hPc, hDc, hFc⟩ := g5_sub3 (wc := [(a_o, (oc11 a_h a_im a_ke a_k a_wa a_th a_ha a_wk a_r a_x z9 e_fd e_fpl a_wd e_wn a_rf e_lr)), (a_x, (arI G 400 z10))]) hP hD hS hA [0, 1] (by decide +kernel) rfl
    refine va_callv (va_runV (As := [.int p_c]) (rest := []) ⟨hx, hb, hml, hown, hts⟩ (x_writeX l G a_o a_x a_h a_im a_ke a_k a_wa a_th a_ha a_wk a_r a_wd a_rf H.size z9 e_fd e_fpl e_wn e_lr p_c z10 ⟨by omega, by omega⟩ h_e_wn (by omega) (by omega)) (cwV 1 hts gV_X11_185 rfl rfl rfl hv_X11_write ⟨Nat.le_of_ble_eq_true rfl, Nat.le_of_ble_eq_true rfl⟩) (g5_preV hPc hK hDc hN hT hS hFc (ci := 11) (q0 := 0) rfl rfl) rfl rfl hl.1 rfl (lv_room (Nat.le_of_ble_eq_true rfl)) dX11_feed_27 ⟨Nat.le_of_ble_eq_true rfl, Nat.le_of_ble_eq_true rfl⟩) hS (fun q _ h => hFc q h) hFc (fun u t H locs ht hvm hw hB hz1 hk1 hS => ?_)
    obtain ⟨hP1, hD1⟩ := hB
    have hP1 := g5_ht ht hP1
    obtain ⟨z13, z14, (i_11 : z13.toInt = z9.toInt + 4), (i_12 : z14 = wr4 z10 z9.toInt.toNat p_c 4), rfl⟩ := hw
    have hJ9 := va_join (wr := []) hP hD [0, 1] [] rfl rfl (by decide +kernel) (by decide +kernel) hk1 hFc hP1 hD1
    clear hP hD hPc hDc hFc ht hvm hz1 hk1 hP1 hD1
    obtain ⟨hP, hD⟩ := hJ9
    refine g5_rs [(a_o, (oc11 a_h a_im a_ke a_k a_wa a_th a_ha a_wk a_r a_x z13 e_fd e_fpl a_wd e_wn a_rf e_lr)), (a_x, (arI G 400 z14))] hP hD ?_
    clear hP hD
    intro hP hD
    refine W.eq (g2 := F0 m 30 ls []) rfl ?_
    refine lv_aload_n hx hb dX11_feed_30 rfl (lv_at hl 0 rfl) ?_
    refine lv_iload hx hb dX11_feed_31 (lv_at hl 4 rfl) ?_
    obtain ⟨hPc, hDc, hFc⟩ := g5_sub3 (wc := [(a_o, (oc11 a_h a_im a_ke a_k a_wa a_th a_ha a_wk a_r a_x z13 e_fd e_fpl a_wd e_wn a_rf e_lr)), (a_x, (arI G 400 z14))]) hP hD hS hA [0, 1] (by decide +kernel) rfl
    refine va_callv (va_runV (As := [.int p_d]) (rest := []) ⟨hx, hb, hml, hown, hts⟩ (x_writeX l G a_o a_x a_h a_im a_ke a_k a_wa a_th a_ha a_wk a_r a_wd a_rf H.size z13 e_fd e_fpl e_wn e_lr p_d z14 ⟨by omega, by omega⟩ h_e_wn (by omega) (by omega)) (cwV 1 hts gV_X11_185 rfl rfl rfl hv_X11_write ⟨Nat.le_of_ble_eq_true rfl, Nat.le_of_ble_eq_true rfl⟩) (g5_preV hPc hK hDc hN hT hS hFc (ci := 11) (q0 := 0) rfl rfl) rfl rfl hl.1 rfl (lv_room (Nat.le_of_ble_eq_true rfl)) dX11_feed_33 ⟨Nat.le_of_ble_eq_true rfl, Nat.le_of_ble_eq_true rfl⟩) hS (fun q _ h => hFc q h) hFc (fun u t H locs ht hvm hw hB hz1 hk1 hS => ?_)
    obtain ⟨hP1, hD1⟩ := hB
    have hP1 := g5_ht ht hP1
    obtain ⟨z17, z18, (i_15 : z17.toInt = z13.toInt + 4), (i_16 : z18 = wr4 z14 z13.toInt.toNat p_d 4), rfl⟩ := hw
    have hJ9 := va_join (wr := []) hP hD [0, 1] [] rfl rfl (by decide +kernel) (by decide +kernel) hk1 hFc hP1 hD1
    clear hP hD hPc hDc hFc ht hvm hz1 hk1 hP1 hD1
    obtain ⟨hP, hD⟩ := hJ9
    refine g5_rs [(a_o, (oc11 a_h a_im a_ke a_k a_wa a_th a_ha a_wk a_r a_x z17 e_fd e_fpl a_wd e_wn a_rf e_lr)), (a_x, (arI G 400 z18))] hP hD ?_
    clear hP hD
    intro hP hD
    refine lv_aload_n hx hb dX11_feed_36 rfl (lv_at hl 0 rfl) ?_
    refine lv_iload hx hb dX11_feed_37 (lv_at hl 5 rfl) ?_
    refine W.eq (g2 := F0 m 39 ls [.int p_e, .ref a_o]) rfl ?_
    obtain ⟨hPc, hDc, hFc⟩ := g5_sub3 (wc := [(a_o, (oc11 a_h a_im a_ke a_k a_wa a_th a_ha a_wk a_r a_x z17 e_fd e_fpl a_wd e_wn a_rf e_lr)), (a_x, (arI G 400 z18))]) hP hD hS hA [0, 1] (by decide +kernel) rfl
    refine va_callv (va_runV (As := [.int p_e]) (rest := []) ⟨hx, hb, hml, hown, hts⟩ (x_writeX l G a_o a_x a_h a_im a_ke a_k a_wa a_th a_ha a_wk a_r a_wd a_rf H.size z17 e_fd e_fpl e_wn e_lr p_e z18 ⟨by omega, by omega⟩ h_e_wn (by omega) (by omega)) (cwV 1 hts gV_X11_185 rfl rfl rfl hv_X11_write ⟨Nat.le_of_ble_eq_true rfl, Nat.le_of_ble_eq_true rfl⟩) (g5_preV hPc hK hDc hN hT hS hFc (ci := 11) (q0 := 0) rfl rfl) rfl rfl hl.1 rfl (lv_room (Nat.le_of_ble_eq_true rfl)) dX11_feed_39 ⟨Nat.le_of_ble_eq_true rfl, Nat.le_of_ble_eq_true rfl⟩) hS (fun q _ h => hFc q h) hFc (fun u t H locs ht hvm hw hB hz1 hk1 hS => ?_)
    obtain ⟨hP1, hD1⟩ := hB
    have hP1 := g5_ht ht hP1
    obtain ⟨z21, z22, (i_19 : z21.toInt = z17.toInt + 4), (i_20 : z22 = wr4 z18 z17.toInt.toNat p_e 4), rfl⟩ := hw
    have hJ9 := va_join (wr := []) hP hD [0, 1] [] rfl rfl (by decide +kernel) (by decide +kernel) hk1 hFc hP1 hD1
    clear hP hD hPc hDc hFc ht hvm hz1 hk1 hP1 hD1
    obtain ⟨hP, hD⟩ := hJ9
    refine g5_rs [(a_o, (oc11 a_h a_im a_ke a_k a_wa a_th a_ha a_wk a_r a_x z21 e_fd e_fpl a_wd e_wn a_rf e_lr)), (a_x, (arI G 400 z22))] hP hD ?_
    clear hP hD
    intro hP hD
    refine lv_aload_n hx hb dX11_feed_42 rfl (lv_at hl 0 rfl) ?_
    refine va_get (D := G.1) (ci := 11) (v := .int z21) (C := RX11) (T := TX11) (N := 17) hx hb hts inG_X11 hown hK hP 0 rfl rfl 10 (by decide +kernel) (hts _ fl_X11_74) (fun _ h9 => h9) rfl dX11_feed_43 ?_
    exact W.iret (v := z21) hx hb hr (fun t ht hW => ⟨⟨z21, [(a_o, (oc11 a_h a_im a_ke a_k a_wa a_th a_ha a_wk a_r a_x z21 e_fd e_fpl a_wd e_wn a_rf e_lr)), (a_x, (arI G 400 z22))], rfl, ⟨z21, z21, z22, ⟨by omega, by omega⟩, by rw [(feed_0 (t := f_x) (td := e_tl) (a := p_a) (b := p_b) (c := p_c) (d := p_d) (e := p_e) (by omega)).1]; exact w20_of (by omega) i_4 i_3 i_8 i_7 i_12 i_11 i_16 i_15 i_20, by rw [(feed_0 (t := f_x) (td := e_tl) (a := p_a) (b := p_b) (c := p_c) (d := p_d) (e := p_e) (by omega)).2.1]; exact Int32.toInt_inj.mp (by rw [g5_iadd (a := e_tl.toInt) (b := 20) rfl (by decide +kernel) (by omega) (by omega)]; omega), by rw [(feed_0 (t := f_x) (td := e_tl) (a := p_a) (b := p_b) (c := p_c) (d := p_d) (e := p_e) (by omega)).2.2]; exact Int32.toInt_inj.mp (by rw [g5_iadd (a := e_tl.toInt) (b := 20) rfl (by decide +kernel) (by omega) (by omega)]; omega), rfl, rfl⟩, by rw [ht]; exact hP.sub [0, 1] rfl, hD.sub [0, 1] (by decide +kernel) rfl⟩, hS.F ht⟩) hS.2.2 dX11_feed_46
  ·
    have i_2 : (e_tl.toInt + 20) > 400 := by have z := g5_leN (a := (e_tl + 20).toInt) (b := 400) (by rfl) (by decide +kernel) c_2; omega
    refine lv_iconst (v := (-1)) hx hb dX11_feed_13 (by decide +kernel) ?_
    exact W.iret (v := (-1)) hx hb hr (fun t ht hW => ⟨⟨(-1), [(a_o, (oc11 a_h a_im a_ke a_k a_wa a_th a_ha a_wk a_r a_x e_tl e_fd e_fpl a_wd e_wn a_rf e_lr)), (a_x, (arI G 400 f_x))], rfl, ⟨(-1), e_tl, f_x, h_e_tl, (feed_1 (t := f_x) (td := e_tl) (a := p_a) (b := p_b) (c := p_c) (d := p_d) (e := p_e) (by omega)).1.symm, (feed_1 (t := f_x) (td := e_tl) (a := p_a) (b := p_b) (c := p_c) (d := p_d) (e := p_e) (by omega)).2.1.symm, (feed_1 (t := f_x) (td := e_tl) (a := p_a) (b := p_b) (c := p_c) (d := p_d) (e := p_e) (by omega)).2.2.symm, rfl, rfl⟩, by rw [ht]; exact hP.sub [0, 1] rfl, hD.sub [0, 1] (by decide +kernel) rfl⟩, hS.F ht⟩) hS.2.2 dX11_feed_14
set_option maxHeartbeats 4000000 in
set_option maxRecDepth 100000 in
theorem x_endX (l : Launch) (G : g5_G) (a_o a_h a_im a_ke a_k a_wa a_th a_ha a_wk a_r a_x a_wd a_rf : Nat) (sz : Nat) (e_tl : Int32) (e_fd : Int32) (e_fpl : Int32) (e_wn : Int32) (e_lr : Int32) (p_v : Int32) (h_e_tl : 0 ≤ e_tl.toInt ∧ e_tl.toInt ≤ 400) (h_e_wn : 0 ≤ e_wn.toInt ∧ e_wn.toInt ≤ 1) : Met l yX11_end (wsG yX11_end cX11_end 2 (some .int)) ({ frames := 0, cells := 0, slots := 0, locals := 0 }) (va_Pc [.ref a_o, .int p_v] (g5_P G [(a_o, (oc11 a_h a_im a_ke a_k a_wa a_th a_ha a_wk a_r a_x e_tl e_fd e_fpl a_wd e_wn a_rf e_lr))] sz)) (va_Qi (fun (r : Int32) (u : va_W) => (∃ (o_r : Int32) (o_t : Int32), (0 ≤ o_t.toInt ∧ o_t.toInt ≤ 400) ∧ (o_t = sendN e_tl p_v) ∧ (o_r = aend e_tl p_v) ∧ (r = o_r) ∧ (u = [(a_o, (oc11 a_h a_im a_ke a_k a_wa a_th a_ha a_wk a_r a_x o_t e_fd e_fpl a_wd e_wn a_rf e_lr))]))) (g5_B G (va_A [(a_o, (oc11 a_h a_im a_ke a_k a_wa a_th a_ha a_wk a_r a_x e_tl e_fd e_fpl a_wd e_wn a_rf e_lr))] sz)) (va_A [(a_o, (oc11 a_h a_im a_ke a_k a_wa a_th a_ha a_wk a_r a_x e_tl e_fd e_fpl a_wd e_wn a_rf e_lr))] sz)) 0 0 (va_A [(a_o, (oc11 a_h a_im a_ke a_k a_wa a_th a_ha a_wk a_r a_x e_tl e_fd e_fpl a_wd e_wn a_rf e_lr))] sz) := by
  refine Met.ofW (cc := cX11_end) (maxL := 2) (ret := (some .int)) (by decide +kernel) rfl ?_
  intro p e s m args below meth c s₁ B hml hv
  obtain ⟨rfl, hsz, hP, hK, hD0, hN, hT⟩ := hv
  have hx := B.exec
  have hb := B.bytes
  have hr := B.returns
  have hts : ∀ w ∈ tblG, w.before _ s = true := fun w h => atoms_spec (ws := (wsG yX11_end cX11_end 2 (some .int))) B.pre w (List.mem_cons_of_mem _ h)
  have hown : s.vm.findClass RX11 = some m.cls := findClass_of_methodNamed B.named
  have hlocks := B.notSynchronized
  subst hsz
  have hD := hD0.self (sz := s.heap.size)
  generalize hAe : va_A [(a_o, (oc11 a_h a_im a_ke a_k a_wa a_th a_ha a_wk a_r a_x e_tl e_fd e_fpl a_wd e_wn a_rf e_lr))] s.heap.size = A at hD hT ⊢
  have hA : ∀ q : Nat, s.heap.size ≤ q → A q := fun q h => by rw [← hAe]; exact Or.inr h
  have hS : va_S A s.heap s.heap [] := va_S.rf
  replace hP : va_P G.1 vwCl [(a_o, (oc11 a_h a_im a_ke a_k a_wa a_th a_ha a_wk a_r a_x e_tl e_fd e_fpl a_wd e_wn a_rf e_lr))] s.heap := hP
  have hl := lv_entry ([.ref a_o, .int p_v]) (n := 2) (Nat.le_of_ble_eq_true rfl)
  rw [lg_entry_eq]
  generalize (lg_sl ([.ref a_o, .int p_v]) ++ List.replicate (2 - (lg_sl ([.ref a_o, .int p_v])).length) Slot.unset).toArray = ls at hl ⊢
  replace hl : lv_has ls 2 [(0, .ref a_o), (1, .int p_v)] := hl
  refine lv_iload_n hx hb dX11_end_0 rfl (lv_at hl 1 rfl) ?_
  refine lv_if_lt (tgt := 12) hx hb dX11_end_1 (by decide +kernel) (fun c_1 => ?_) (fun c_1 => ?_)
  ·
    have i_1 : p_v.toInt < 0 := g5_lt (a := p_v.toInt) (b := 0) rfl (by decide +kernel) c_1
    refine lv_iconst (v := (-1)) hx hb dX11_end_12 (by decide +kernel) ?_
    exact W.iret (v := (-1)) hx hb hr (fun t ht hW => ⟨⟨(-1), [(a_o, (oc11 a_h a_im a_ke a_k a_wa a_th a_ha a_wk a_r a_x e_tl e_fd e_fpl a_wd e_wn a_rf e_lr))], rfl, ⟨(-1), e_tl, h_e_tl, (tend_1 (td := e_tl) (n := p_v) (by omega)).1.symm, (tend_1 (td := e_tl) (n := p_v) (by omega)).2.symm, rfl, rfl⟩, by rw [ht]; exact hP.sub [0] rfl, hD.sub [0] (by decide +kernel) rfl⟩, hS.F ht⟩) hS.2.2 dX11_end_13
  ·
    have i_1 : p_v.toInt ≥ 0 := g5_ltN (a := p_v.toInt) (b := 0) rfl (by decide +kernel) c_1
    refine lv_iload_n hx hb dX11_end_4 rfl (lv_at hl 1 rfl) ?_
    refine lv_aload_n hx hb dX11_end_5 rfl (lv_at hl 0 rfl) ?_
    refine va_get (D := G.1) (ci := 11) (v := .int e_tl) (C := RX11) (T := TX11) (N := 17) hx hb hts inG_X11 hown hK hP 0 rfl rfl 10 (by decide +kernel) (hts _ fl_X11_74) (fun _ h9 => h9) rfl dX11_end_6 ?_
    refine lv_icmp_le (tgt := 14) hx hb dX11_end_9 (by decide +kernel) (fun c_2 => ?_) (fun c_2 => ?_)
    ·
      have i_2 : p_v.toInt ≤ e_tl.toInt := g5_le (a := p_v.toInt) (b := e_tl.toInt) rfl rfl c_2
      refine lv_aload_n hx hb dX11_end_14 rfl (lv_at hl 0 rfl) ?_
      refine lv_iload_n hx hb dX11_end_15 rfl (lv_at hl 1 rfl) ?_
      refine va_put (D := G.1) (ci := 11) (v := .int p_v) (ty := .int) (C := RX11) (T := TX11) (N := 17) hx hb hts inG_X11 tyX11 tyX11_ok nmX11 hown hK hP hD hS 0 rfl rfl 10 (by decide +kernel) (hts _ fl_X11_74) (fun _ h9 => h9) rfl (by decide +kernel) rfl rfl (Nat.le_of_ble_eq_true rfl) dX11_end_16 ?_
      clear hP hD hS
      intro H locs hP hD hS
      refine g5_rs [(a_o, (oc11 a_h a_im a_ke a_k a_wa a_th a_ha a_wk a_r a_x p_v e_fd e_fpl a_wd e_wn a_rf e_lr))] hP hD ?_
      clear hP hD
      intro hP hD
      refine lv_iload_n hx hb dX11_end_19 rfl (lv_at hl 1 rfl) ?_
      refine W.eq (g2 := F0 m 20 ls [.int p_v]) rfl ?_
      exact W.iret (v := p_v) hx hb hr (fun t ht hW => ⟨⟨p_v, [(a_o, (oc11 a_h a_im a_ke a_k a_wa a_th a_ha a_wk a_r a_x p_v e_fd e_fpl a_wd e_wn a_rf e_lr))], rfl, ⟨p_v, p_v, ⟨by omega, by omega⟩, (tend_0 (td := e_tl) (n := p_v) ⟨by omega, by omega⟩).1.symm, (tend_0 (td := e_tl) (n := p_v) ⟨by omega, by omega⟩).2.symm, rfl, rfl⟩, by rw [ht]; exact hP.sub [0] rfl, hD.sub [0] (by decide +kernel) rfl⟩, hS.F ht⟩) hS.2.2 dX11_end_20
    ·
      have i_2 : p_v.toInt > e_tl.toInt := g5_leN (a := p_v.toInt) (b := e_tl.toInt) rfl rfl c_2
      refine lv_iconst (v := (-1)) hx hb dX11_end_12 (by decide +kernel) ?_
      exact W.iret (v := (-1)) hx hb hr (fun t ht hW => ⟨⟨(-1), [(a_o, (oc11 a_h a_im a_ke a_k a_wa a_th a_ha a_wk a_r a_x e_tl e_fd e_fpl a_wd e_wn a_rf e_lr))], rfl, ⟨(-1), e_tl, h_e_tl, (tend_1 (td := e_tl) (n := p_v) (by omega)).1.symm, (tend_1 (td := e_tl) (n := p_v) (by omega)).2.symm, rfl, rfl⟩, by rw [ht]; exact hP.sub [0] rfl, hD.sub [0] (by decide +kernel) rfl⟩, hS.F ht⟩) hS.2.2 dX11_end_13
set_option maxHeartbeats 4000000 in
set_option maxRecDepth 100000 in
theorem x_readStayX (l : Launch) (G : g5_G) (a_o a_h a_b a_bn a_bb a_x a_im a_ke a_k a_wa a_th a_ha a_wk a_r a_wd a_rf a_l a_g a_s a_p a_w : Nat) (sz : Nat) (e_tl : Int32) (e_fd : Int32) (e_fpl : Int32) (e_wn : Int32) (e_lr : Int32) (e_le : Int32) (e_st : Int32) (e_fo : Int32) (e_lc : Int32) (e_b : Int32) (p_a : Int32) (e_wa : Int64) (e_gb : Int64) (f_b : Nat → Int32) (f_bb : Nat → Int64) (f_x : Nat → Int32) (f_ro : Nat → Int32) (h_e_tl : 0 ≤ e_tl.toInt ∧ e_tl.toInt ≤ 400) (h_e_wn : 0 ≤ e_wn.toInt ∧ e_wn.toInt ≤ 1) (h_e_b : 0 ≤ e_b.toInt ∧ e_b.toInt ≤ 5) (h_p_a : 0 ≤ p_a.toInt ∧ p_a.toInt ≤ 400) (e_hh : QH e_wa e_le e_st f_ro) (e_hb : QB e_b f_b f_bb f_ro) (e_tp : TPI f_x) : Met l yX11_readStay (wsG yX11_readStay cX11_readStay 6 (some .boolean)) ({ frames := 3, cells := 0, slots := 0, locals := 73 }) (va_Pc [.ref a_o, .int p_a] (g5_P G [(a_o, (oc11 a_h a_im a_ke a_k a_wa a_th a_ha a_wk a_r a_x e_tl e_fd e_fpl a_wd e_wn a_rf e_lr)), (a_h, (oc1 e_wa e_le e_st e_fo e_lc a_l a_g a_b a_s a_p a_w e_gb a_bb)), (a_b, (oc6 5 24 a_bn e_b)), (a_bn, (arI G 120 f_b)), (a_bb, (arJ G 24 f_bb)), (a_x, (arI G 400 f_x))] sz)) (va_Qi (fun (r : Int32) (u : va_W) => (∃ (o_r : Int32) (o_f : Nat → Int32) (o_bb : Nat → Int64), (0 ≤ o_r.toInt ∧ o_r.toInt ≤ 1) ∧ (o_r.toInt = cif (canQ f_x e_tl.toInt f_ro p_a.toInt.toNat) 1 0) ∧ (QB e_b o_f o_bb (rw1 f_x e_tl.toInt f_ro p_a.toInt.toNat)) ∧ (r = o_r) ∧ (u = [(a_o, (oc11 a_h a_im a_ke a_k a_wa a_th a_ha a_wk a_r a_x e_tl e_fd e_fpl a_wd e_wn a_rf e_lr)), (a_h, (oc1 e_wa e_le e_st e_fo e_lc a_l a_g a_b a_s a_p a_w e_gb a_bb)), (a_b, (oc6 5 24 a_bn e_b)), (a_bn, (arI G 120 o_f)), (a_bb, (arJ G 24 o_bb)), (a_x, (arI G 400 f_x))]))) (g5_B G (va_A [(a_o, (oc11 a_h a_im a_ke a_k a_wa a_th a_ha a_wk a_r a_x e_tl e_fd e_fpl a_wd e_wn a_rf e_lr)), (a_h, (oc1 e_wa e_le e_st e_fo e_lc a_l a_g a_b a_s a_p a_w e_gb a_bb)), (a_b, (oc6 5 24 a_bn e_b)), (a_bn, (arI G 120 f_b)), (a_bb, (arJ G 24 f_bb)), (a_x, (arI G 400 f_x))] sz)) (va_A [(a_o, (oc11 a_h a_im a_ke a_k a_wa a_th a_ha a_wk a_r a_x e_tl e_fd e_fpl a_wd e_wn a_rf e_lr)), (a_h, (oc1 e_wa e_le e_st e_fo e_lc a_l a_g a_b a_s a_p a_w e_gb a_bb)), (a_b, (oc6 5 24 a_bn e_b)), (a_bn, (arI G 120 f_b)), (a_bb, (arJ G 24 f_bb)), (a_x, (arI G 400 f_x))] sz)) 0 0 (va_A [(a_o, (oc11 a_h a_im a_ke a_k a_wa a_th a_ha a_wk a_r a_x e_tl e_fd e_fpl a_wd e_wn a_rf e_lr)), (a_h, (oc1 e_wa e_le e_st e_fo e_lc a_l a_g a_b a_s a_p a_w e_gb a_bb)), (a_b, (oc6 5 24 a_bn e_b)), (a_bn, (arI G 120 f_b)), (a_bb, (arJ G 24 f_bb)), (a_x, (arI G 400 f_x))] sz) := by
  refine Met.ofW (cc := cX11_readStay) (maxL := 6) (ret := (some .boolean)) (by decide +kernel) rfl ?_
  intro p e s m args below meth c s₁ B hml hv
  obtain ⟨rfl, hsz, hP, hK, hD0, hN, hT⟩ := hv
  have hx := B.exec
  have hb := B.bytes
  have hr := B.returns
  have hts : ∀ w ∈ tblG, w.before _ s = true := fun w h => atoms_spec (ws := (wsG yX11_readStay cX11_readStay 6 (some .boolean))) B.pre w (List.mem_cons_of_mem _ h)
  have hown : s.vm.findClass RX11 = some m.cls := findClass_of_methodNamed B.named
  have hlocks := B.notSynchronized
  subst hsz
  have hD := hD0.self (sz := s.heap.size)
  generalize hAe : va_A [(a_o, (oc11 a_h a_im a_ke a_k a_wa a_th a_ha a_wk a_r a_x e_tl e_fd e_fpl a_wd e_wn a_rf e_lr)), (a_h, (oc1 e_wa e_le e_st e_fo e_lc a_l a_g a_b a_s a_p a_w e_gb a_bb)), (a_b, (oc6 5 24 a_bn e_b)), (a_bn, (arI G 120 f_b)), (a_bb, (arJ G 24 f_bb)), (a_x, (arI G 400 f_x))] s.heap.size = A at hD hT ⊢
  have hA : ∀ q : Nat, s.heap.size ≤ q → A q := fun q h => by rw [← hAe]; exact Or.inr h
  have hS : va_S A s.heap s.heap [] := va_S.rf
  replace hP : va_P G.1 vwCl [(a_o, (oc11 a_h a_im a_ke a_k a_wa a_th a_ha a_wk a_r a_x e_tl e_fd e_fpl a_wd e_wn a_rf e_lr)), (a_h, (oc1 e_wa e_le e_st e_fo e_lc a_l a_g a_b a_s a_p a_w e_gb a_bb)), (a_b, (oc6 5 24 a_bn e_b)), (a_bn, (arI G 120 f_b)), (a_bb, (arJ G 24 f_bb)), (a_x, (arI G 400 f_x))] s.heap := hP
  have hl := lv_entry ([.ref a_o, .int p_a]) (n := 6) (Nat.le_of_ble_eq_true rfl)
  rw [lg_entry_eq]
  generalize (lg_sl ([.ref a_o, .int p_a]) ++ List.replicate (6 - (lg_sl ([.ref a_o, .int p_a])).length) Slot.unset).toArray = ls at hl ⊢
  replace hl : lv_has ls 6 [(0, .ref a_o), (1, .int p_a)] := hl
  have hbb_ : ∀ c : Nat, c < 24 → f_bb c = bbd f_b e_b.toInt c e_b.toInt.toNat := e_hb.2.2.2.1
  refine lv_iload_n hx hb dX11_readStay_0 rfl (lv_at hl 1 rfl) ?_
  refine lv_iconst (v := 4) hx hb dX11_readStay_1 (by decide +kernel) ?_
  refine lv_iadd hx hb dX11_readStay_2 ?_
  have t_1 : (p_a + 4).toInt = p_a.toInt + 4 := g5_iadd (a := p_a.toInt) (b := 4) (by rfl) (by decide +kernel) (by omega) (by omega)
  refine lv_aload_n hx hb dX11_readStay_3 rfl (lv_at hl 0 rfl) ?_
  refine W.eq (g2 := F0 m 4 ls [.ref a_o, .int (p_a + 4)]) rfl ?_
  refine va_get (D := G.1) (ci := 11) (v := .int e_tl) (C := RX11) (T := TX11) (N := 17) hx hb hts inG_X11 hown hK hP 0 rfl rfl 10 (by decide +kernel) (hts _ fl_X11_74) (fun _ h9 => h9) rfl dX11_readStay_4 ?_
  refine lv_icmp_le (tgt := 12) hx hb dX11_readStay_7 (by decide +kernel) (fun c_2 => ?_) (fun c_2 => ?_)
  ·
    have i_2 : (p_a.toInt + 4) ≤ e_tl.toInt := by have z := g5_le (a := (p_a + 4).toInt) (b := e_tl.toInt) (by rfl) (by rfl) c_2; omega
    refine lv_aload_n hx hb dX11_readStay_12 rfl (lv_at hl 0 rfl) ?_
    refine va_get (D := G.1) (ci := 11) (v := .ref a_x) (C := RX11) (T := TX11) (N := 17) hx hb hts inG_X11 hown hK hP 0 rfl rfl 9 (by decide +kernel) (hts _ fl_X11_70) (fun _ h9 => h9) rfl dX11_readStay_13 ?_
    refine lv_iload_n hx hb dX11_readStay_16 rfl (lv_at hl 1 rfl) ?_
    refine va_iald hx hb hK hP 5 0 rfl rfl (i := p_a) (vp_in_iff.mpr ⟨by omega, by omega⟩) dX11_readStay_17 ?_
    obtain ⟨y3, hy_3⟩ : ∃ y : Int32, f_x p_a.toInt.toNat = y := ⟨_, rfl⟩
    have hr_3 : 0 ≤ y3.toInt ∧ y3.toInt ≤ 255 := by rw [← hy_3]; exact e_tp _
    have hq_4 : (f_x p_a.toNatClampNeg) = y3 := hy_3
    refine g5_ti (v := y3) hq_4 ?_
    refine W.eq (g2 := F0 m 18 ls [.int y3]) rfl ?_
    refine lv_istore_n (lv' := [(2, .int y3), (0, .ref a_o), (1, .int p_a)]) hx hb dX11_readStay_18 rfl hl (by decide +kernel) rfl ?_
    clear hl
    intro ls hl
    refine lv_aload_n hx hb dX11_readStay_19 rfl (lv_at hl 1 rfl) ?_
    refine va_get (D := G.1) (ci := 11) (v := .ref a_x) (C := RX11) (T := TX11) (N := 17) hx hb hts inG_X11 hown hK hP 0 rfl rfl 9 (by decide +kernel) (hts _ fl_X11_70) (fun _ h9 => h9) rfl dX11_readStay_20 ?_
    refine lv_iload_n hx hb dX11_readStay_23 rfl (lv_at hl 2 rfl) ?_
    refine lv_iconst (v := 1) hx hb dX11_readStay_24 (by decide +kernel) ?_
    refine W.eq (g2 := F0 m 25 ls [.int 1, .int p_a, .ref a_x]) rfl ?_
    refine lv_iadd hx hb dX11_readStay_25 ?_
    have t_5 : (p_a + 1).toInt = p_a.toInt + 1 := g5_iadd (a := p_a.toInt) (b := 1) (by rfl) (by decide +kernel) (by omega) (by omega)
    refine va_iald hx hb hK hP 5 0 rfl rfl (i := (p_a + 1)) (vp_in_iff.mpr ⟨by omega, by omega⟩) dX11_readStay_26 ?_
    obtain ⟨y6, hy_6⟩ : ∃ y : Int32, f_x (p_a.toInt.toNat + 1) = y := ⟨_, rfl⟩
    have hr_6 : 0 ≤ y6.toInt ∧ y6.toInt ≤ 255 := by rw [← hy_6]; exact e_tp _
    have hq_7 : (f_x (p_a + 1).toNatClampNeg) = y6 := by rw [← hy_6]; congr 1; have zz := g5_clamp (p_a + 1); omega
    refine g5_ti (v := y6) hq_7 ?_
    refine lv_istore_n (lv' := [(3, .int y6), (2, .int y3), (0, .ref a_o), (1, .int p_a)]) hx hb dX11_readStay_27 rfl hl (by decide +kernel) rfl ?_
    clear hl
    intro ls hl
    refine lv_aload_n hx hb dX11_readStay_28 rfl (lv_at hl 2 rfl) ?_
    refine va_get (D := G.1) (ci := 11) (v := .ref a_x) (C := RX11) (T := TX11) (N := 17) hx hb hts inG_X11 hown hK hP 0 rfl rfl 9 (by decide +kernel) (hts _ fl_X11_70) (fun _ h9 => h9) rfl dX11_readStay_29 ?_
    refine W.eq (g2 := F0 m 32 ls [.ref a_x]) rfl ?_
    refine lv_iload_n hx hb dX11_readStay_32 rfl (lv_at hl 3 rfl) ?_
    refine lv_iconst (v := 2) hx hb dX11_readStay_33 (by decide +kernel) ?_
    refine lv_iadd hx hb dX11_readStay_34 ?_
    have t_8 : (p_a + 2).toInt = p_a.toInt + 2 := g5_iadd (a := p_a.toInt) (b := 2) (by rfl) (by decide +kernel) (by omega) (by omega)
    refine va_iald hx hb hK hP 5 0 rfl rfl (i := (p_a + 2)) (vp_in_iff.mpr ⟨by omega, by omega⟩) dX11_readStay_35 ?_
    obtain ⟨y9, hy_9⟩ : ∃ y : Int32, f_x (p_a.toInt.toNat + 2) = y := ⟨_, rfl⟩
    have hr_9 : 0 ≤ y9.toInt ∧ y9.toInt ≤ 255 := by rw [← hy_9]; exact e_tp _
    have hq_10 : (f_x (p_a + 2).toNatClampNeg) = y9 := by rw [← hy_9]; congr 1; have zz := g5_clamp (p_a + 2); omega
    refine g5_ti (v := y9) hq_10 ?_
    refine lv_istore (lv' := [(4, .int y9), (3, .int y6), (2, .int y3), (0, .ref a_o), (1, .int p_a)]) hx hb dX11_readStay_36 hl (by decide +kernel) rfl ?_
    clear hl
    intro ls hl
    refine W.eq (g2 := F0 m 38 ls []) rfl ?_
    refine lv_aload_n hx hb dX11_readStay_38 rfl (lv_at hl 3 rfl) ?_
    refine va_get (D := G.1) (ci := 11) (v := .ref a_x) (C := RX11) (T := TX11) (N := 17) hx hb hts inG_X11 hown hK hP 0 rfl rfl 9 (by decide +kernel) (hts _ fl_X11_70) (fun _ h9 => h9) rfl dX11_readStay_39 ?_
    refine lv_iload_n hx hb dX11_readStay_42 rfl (lv_at hl 4 rfl) ?_
    refine lv_iconst (v := 3) hx hb dX11_readStay_43 (by decide +kernel) ?_
    refine lv_iadd hx hb dX11_readStay_44 ?_
    have t_11 : (p_a + 3).toInt = p_a.toInt + 3 := g5_iadd (a := p_a.toInt) (b := 3) (by rfl) (by decide +kernel) (by omega) (by omega)
    refine W.eq (g2 := F0 m 45 ls [.int (p_a + 3), .ref a_x]) rfl ?_
    refine va_iald hx hb hK hP 5 0 rfl rfl (i := (p_a + 3)) (vp_in_iff.mpr ⟨by omega, by omega⟩) dX11_readStay_45 ?_
    obtain ⟨y12, hy_12⟩ : ∃ y : Int32, f_x (p_a.toInt.toNat + 3) = y := ⟨_, rfl⟩
    have hr_12 : 0 ≤ y12.toInt ∧ y12.toInt ≤ 255 := by rw [← hy_12]; exact e_tp _
    have hq_13 : (f_x (p_a + 3).toNatClampNeg) = y12 := by rw [← hy_12]; congr 1; have zz := g5_clamp (p_a + 3); omega
    refine g5_ti (v := y12) hq_13 ?_
    refine lv_sipush (v := 255) hx hb dX11_readStay_46 (by decide +kernel) ?_
    refine lv_icmp_ne (tgt := 56) hx hb dX11_readStay_49 (by decide +kernel) (fun c_14 => ?_) (fun c_14 => ?_)
    ·
      have n_14 : gNe (y12.toInt) (255) := g5_ne (a := y12.toInt) (b := 255) rfl (by decide +kernel) c_14
      have i_14 : y12.toInt ≤ 254 := by have z := g5_ne (a := y12.toInt) (b := 255) (by rfl) (by decide +kernel) c_14; omega
      refine lv_aload_n hx hb dX11_readStay_56 rfl (lv_at hl 3 rfl) ?_
      refine va_get (D := G.1) (ci := 11) (v := .ref a_x) (C := RX11) (T := TX11) (N := 17) hx hb hts inG_X11 hown hK hP 0 rfl rfl 9 (by decide +kernel) (hts _ fl_X11_70) (fun _ h9 => h9) rfl dX11_readStay_57 ?_
      refine lv_iload_n hx hb dX11_readStay_60 rfl (lv_at hl 4 rfl) ?_
      refine lv_iconst (v := 3) hx hb dX11_readStay_61 (by decide +kernel) ?_
      refine W.eq (g2 := F0 m 62 ls [.int 3, .int p_a, .ref a_x]) rfl ?_
      refine lv_iadd hx hb dX11_readStay_62 ?_
      have t_15 : (p_a + 3).toInt = p_a.toInt + 3 := g5_iadd (a := p_a.toInt) (b := 3) (by rfl) (by decide +kernel) (by omega) (by omega)
      refine va_iald hx hb hK hP 5 0 rfl rfl (i := (p_a + 3)) (vp_in_iff.mpr ⟨by omega, by omega⟩) dX11_readStay_63 ?_
      have hq_16 : (f_x (p_a + 3).toNatClampNeg) = y12 := by rw [← hy_12]; congr 1; have zz := g5_clamp (p_a + 3); omega
      refine g5_ti (v := y12) hq_16 ?_
      refine lv_istore (lv' := [(5, .int y12), (4, .int y9), (3, .int y6), (2, .int y3), (0, .ref a_o), (1, .int p_a)]) hx hb dX11_readStay_64 hl (by decide +kernel) rfl ?_
      clear hl
      intro ls hl
      refine lv_aload_n hx hb dX11_readStay_66 rfl (lv_at hl 4 rfl) ?_
      refine va_get (D := G.1) (ci := 11) (v := .ref a_h) (C := RX11) (T := TX11) (N := 17) hx hb hts inG_X11 hown hK hP 0 rfl rfl 0 (by decide +kernel) (hts _ fl_X11_12) (fun _ h9 => h9) rfl dX11_readStay_67 ?_
      refine W.eq (g2 := F0 m 70 ls [.ref a_h]) rfl ?_
      refine va_get (D := G.1) (ci := 1) (v := .ref a_b) (C := RX1) (T := TX1) (N := 13) hx hb hts inG_X1 hown hK hP 1 rfl rfl 7 (by decide +kernel) (hts _ fl_X11_167) (fun _ h9 => h9) rfl dX11_readStay_70 ?_
      refine lv_iload_n hx hb dX11_readStay_73 rfl (lv_at hl 3 rfl) ?_
      obtain ⟨hPc, hDc, hFc⟩ := g5_sub3 (wc := [(a_b, (oc6 5 24 a_bn e_b))]) hP hD hS hA [2] (by decide +kernel) rfl
      refine va_calli (va_runV (As := [.int y3]) (rest := []) ⟨hx, hb, hml, hown, hts⟩ (t_has_B l G a_b a_bn s.heap.size e_b y3 h_e_b) (cwV 1 hts gV_X11_160 rfl rfl rfl hv_X6_has ⟨Nat.le_of_ble_eq_true rfl, Nat.le_of_ble_eq_true rfl⟩) (g5_preV hPc hK hDc hN hT hS hFc (ci := 6) (q0 := 0) rfl rfl) rfl rfl hl.1 rfl (lv_room (Nat.le_of_ble_eq_true rfl)) dX11_readStay_74 ⟨Nat.le_of_ble_eq_true rfl, Nat.le_of_ble_eq_true rfl⟩) hS (fun q _ h => hFc q h) hFc (fun r u t H locs ht hvm hw hB hz1 hk1 hS => ?_)
      obtain ⟨hP1, hD1⟩ := hB
      have hP1 := g5_ht ht hP1
      rcases hw with ⟨(i_17 : 0 ≤ y3.toInt ∧ y3.toInt < e_b.toInt), rfl, rfl⟩ | ⟨(i_18 : y3.toInt < 0 ∨ e_b.toInt ≤ y3.toInt), rfl, rfl⟩
      ·
        have hJ9 := va_join (wr := [(a_o, (oc11 a_h a_im a_ke a_k a_wa a_th a_ha a_wk a_r a_x e_tl e_fd e_fpl a_wd e_wn a_rf e_lr)), (a_h, (oc1 e_wa e_le e_st e_fo e_lc a_l a_g a_b a_s a_p a_w e_gb a_bb)), (a_bn, (arI G 120 f_b)), (a_bb, (arJ G 24 f_bb)), (a_x, (arI G 400 f_x))]) hP hD [2] [0, 1, 3, 4, 5] rfl rfl (by decide +kernel) (by decide +kernel) hk1 hFc hP1 hD1
        clear hP hD hPc hDc hFc ht hvm hz1 hk1 hP1 hD1
        obtain ⟨hP, hD⟩ := hJ9
        refine g5_rs [(a_o, (oc11 a_h a_im a_ke a_k a_wa a_th a_ha a_wk a_r a_x e_tl e_fd e_fpl a_wd e_wn a_rf e_lr)), (a_h, (oc1 e_wa e_le e_st e_fo e_lc a_l a_g a_b a_s a_p a_w e_gb a_bb)), (a_bn, (arI G 120 f_b)), (a_bb, (arJ G 24 f_bb)), (a_x, (arI G 400 f_x)), (a_b, (oc6 5 24 a_bn e_b))] hP hD ?_
        clear hP hD
        intro hP hD
        refine lv_if_eq (tgt := 103) hx hb dX11_readStay_77 (by decide +kernel) (fun c_19 => ?_) (fun c_19 => ?_)
        ·
          exact absurd c_19 (by decide +kernel)
        ·
          refine lv_iload_n hx hb dX11_readStay_80 rfl (lv_at hl 2 rfl) ?_
          refine lv_iload hx hb dX11_readStay_81 (lv_at hl 1 rfl) ?_
          refine lv_iload hx hb dX11_readStay_83 (lv_at hl 0 rfl) ?_
          obtain ⟨hPc, hDc, hFc⟩ := g5_sub3 (wc := []) hP hD hS hA [] (by decide +kernel) rfl
          refine va_calli (va_runS (As := [.int y6, .int y9, .int y12]) (rest := []) ⟨hx, hb, hml, hown, hts⟩ (x_isStayX l G H.size y6 y9 y12) (va_cwS 3 hts gS_X11_170 rfl rfl rfl hs_X11_isStay ⟨Nat.le_of_ble_eq_true rfl, Nat.le_of_ble_eq_true rfl⟩) (g5_preS hPc hK hDc hN hT hS hFc) rfl rfl hl.1 rfl (lv_room (Nat.le_of_ble_eq_true rfl)) dX11_readStay_85 ⟨Nat.le_of_ble_eq_true rfl, Nat.le_of_ble_eq_true rfl⟩) hS (fun q _ h => hFc q h) hFc (fun r u t H locs ht hvm hw hB hz1 hk1 hS => ?_)
          obtain ⟨hP1, hD1⟩ := hB
          have hP1 := g5_ht ht hP1
          rcases hw with ⟨(i_20 : 0 ≤ y6.toInt ∧ y6.toInt ≤ 23), (i_21 : 0 ≤ y9.toInt ∧ y9.toInt ≤ 23), (i_22 : -1 ≤ y12.toInt ∧ y12.toInt ≤ 63), (i_23 : y6.toInt ≤ y9.toInt), (i_24 : okS y6 y9 y12), rfl, rfl⟩ | ⟨(i_25 : ¬ okS y6 y9 y12), rfl, rfl⟩
          ·
            have hJ9 := g5_same hP hk1
            clear hP hPc hDc hFc ht hvm hz1 hk1 hP1 hD1
            have hP := hJ9
            clear hJ9
            refine lv_if_eq (tgt := 103) hx hb dX11_readStay_88 (by decide +kernel) (fun c_26 => ?_) (fun c_26 => ?_)
            ·
              exact absurd c_26 (by decide +kernel)
            ·
              refine lv_aload_n hx hb dX11_readStay_91 rfl (lv_at hl 4 rfl) ?_
              refine va_get (D := G.1) (ci := 11) (v := .ref a_h) (C := RX11) (T := TX11) (N := 17) hx hb hts inG_X11 hown hK hP 0 rfl rfl 0 (by decide +kernel) (hts _ fl_X11_12) (fun _ h9 => h9) rfl dX11_readStay_92 ?_
              refine lv_iload hx hb dX11_readStay_95 (lv_at hl 0 rfl) ?_
              obtain ⟨hPc, hDc, hFc⟩ := g5_sub3 (wc := [(a_h, (oc1 e_wa e_le e_st e_fo e_lc a_l a_g a_b a_s a_p a_w e_gb a_bb))]) hP hD hS hA [1] (by decide +kernel) rfl
              refine va_calli (va_runV (As := [.int y12]) (rest := []) ⟨hx, hb, hml, hown, hts⟩ (h_isWalled l G a_h a_l a_g a_b a_s a_p a_w a_bb H.size e_le e_st e_fo e_lc y12 e_wa e_gb ⟨by omega, by omega⟩) (cwV 1 hts gV_X11_174 rfl rfl rfl hv_X1_isWalled ⟨Nat.le_of_ble_eq_true rfl, Nat.le_of_ble_eq_true rfl⟩) (g5_preV hPc hK hDc hN hT hS hFc (ci := 1) (q0 := 0) rfl rfl) rfl rfl hl.1 rfl (lv_room (Nat.le_of_ble_eq_true rfl)) dX11_readStay_97 ⟨Nat.le_of_ble_eq_true rfl, Nat.le_of_ble_eq_true rfl⟩) hS (fun q _ h => hFc q h) hFc (fun r u t H locs ht hvm hw hB hz1 hk1 hS => ?_)
              obtain ⟨hP1, hD1⟩ := hB
              have hP1 := g5_ht ht hP1
              rcases hw with ⟨(i_27 : 0 ≤ y12.toInt ∧ onB e_wa y12.toInt = true), rfl, rfl⟩ | ⟨(i_28 : y12.toInt = -1 ∨ onB e_wa y12.toInt = false), rfl, rfl⟩
              ·
                have hJ9 := va_join (wr := [(a_o, (oc11 a_h a_im a_ke a_k a_wa a_th a_ha a_wk a_r a_x e_tl e_fd e_fpl a_wd e_wn a_rf e_lr)), (a_bn, (arI G 120 f_b)), (a_bb, (arJ G 24 f_bb)), (a_x, (arI G 400 f_x)), (a_b, (oc6 5 24 a_bn e_b))]) hP hD [1] [0, 2, 3, 4, 5] rfl rfl (by decide +kernel) (by decide +kernel) hk1 hFc hP1 hD1
                clear hP hD hPc hDc hFc ht hvm hz1 hk1 hP1 hD1
                obtain ⟨hP, hD⟩ := hJ9
                refine g5_rs [(a_o, (oc11 a_h a_im a_ke a_k a_wa a_th a_ha a_wk a_r a_x e_tl e_fd e_fpl a_wd e_wn a_rf e_lr)), (a_bn, (arI G 120 f_b)), (a_bb, (arJ G 24 f_bb)), (a_x, (arI G 400 f_x)), (a_b, (oc6 5 24 a_bn e_b)), (a_h, (oc1 e_wa e_le e_st e_fo e_lc a_l a_g a_b a_s a_p a_w e_gb a_bb))] hP hD ?_
                clear hP hD
                intro hP hD
                refine lv_if_eq (tgt := 105) hx hb dX11_readStay_100 (by decide +kernel) (fun c_29 => ?_) (fun c_29 => ?_)
                ·
                  exact absurd c_29 (by decide +kernel)
                ·
                  refine lv_iconst (v := 0) hx hb dX11_readStay_103 (by decide +kernel) ?_
                  exact W.zret (v := 0) hx hb hr rfl (fun t ht hW => ⟨⟨0, [(a_o, (oc11 a_h a_im a_ke a_k a_wa a_th a_ha a_wk a_r a_x e_tl e_fd e_fpl a_wd e_wn a_rf e_lr)), (a_h, (oc1 e_wa e_le e_st e_fo e_lc a_l a_g a_b a_s a_p a_w e_gb a_bb)), (a_b, (oc6 5 24 a_bn e_b)), (a_bn, (arI G 120 f_b)), (a_bb, (arJ G 24 f_bb)), (a_x, (arI G 400 f_x))], rfl, ⟨0, f_b, f_bb, ⟨by have zc_o_r : (0 : Int32).toInt = 0 := (by decide +kernel); omega, by have zc_o_r : (0 : Int32).toInt = 0 := (by decide +kernel); omega⟩, by rw [cif_f (fun q => by have q := (cq_mk (td := e_tl.toInt) (f := f_ro) (t := f_x) (k := p_a.toInt.toNat) hy_3 hy_6 hy_9 hy_12 (c := y12) (cq_n (by omega))).mp q; exact q.2.2.2 (wl_y e_hh (by omega) i_27))]; decide, by rw [rw_stayN (fun q => by have q := (cq_mk (td := e_tl.toInt) (f := f_ro) (t := f_x) (k := p_a.toInt.toNat) hy_3 hy_6 hy_9 hy_12 (c := y12) (cq_n (by omega))).mp q; exact q.2.2.2 (wl_y e_hh (by omega) i_27))]; exact e_hb, rfl, rfl⟩, by rw [ht]; exact hP.sub [0, 5, 4, 1, 2, 3] rfl, hD.sub [0, 5, 4, 1, 2, 3] (by decide +kernel) rfl⟩, hS.F ht⟩) hS.2.2 dX11_readStay_104
              ·
                have hJ9 := va_join (wr := [(a_o, (oc11 a_h a_im a_ke a_k a_wa a_th a_ha a_wk a_r a_x e_tl e_fd e_fpl a_wd e_wn a_rf e_lr)), (a_bn, (arI G 120 f_b)), (a_bb, (arJ G 24 f_bb)), (a_x, (arI G 400 f_x)), (a_b, (oc6 5 24 a_bn e_b))]) hP hD [1] [0, 2, 3, 4, 5] rfl rfl (by decide +kernel) (by decide +kernel) hk1 hFc hP1 hD1
                clear hP hD hPc hDc hFc ht hvm hz1 hk1 hP1 hD1
                obtain ⟨hP, hD⟩ := hJ9
                refine g5_rs [(a_o, (oc11 a_h a_im a_ke a_k a_wa a_th a_ha a_wk a_r a_x e_tl e_fd e_fpl a_wd e_wn a_rf e_lr)), (a_bn, (arI G 120 f_b)), (a_bb, (arJ G 24 f_bb)), (a_x, (arI G 400 f_x)), (a_b, (oc6 5 24 a_bn e_b)), (a_h, (oc1 e_wa e_le e_st e_fo e_lc a_l a_g a_b a_s a_p a_w e_gb a_bb))] hP hD ?_
                clear hP hD
                intro hP hD
                refine lv_if_eq (tgt := 105) hx hb dX11_readStay_100 (by decide +kernel) (fun c_30 => ?_) (fun c_30 => ?_)
                ·
                  refine lv_aload_n hx hb dX11_readStay_105 rfl (lv_at hl 4 rfl) ?_
                  refine va_get (D := G.1) (ci := 11) (v := .ref a_h) (C := RX11) (T := TX11) (N := 17) hx hb hts inG_X11 hown hK hP 0 rfl rfl 0 (by decide +kernel) (hts _ fl_X11_12) (fun _ h9 => h9) rfl dX11_readStay_106 ?_
                  refine lv_iload_n hx hb dX11_readStay_109 rfl (lv_at hl 3 rfl) ?_
                  refine lv_iload_n hx hb dX11_readStay_110 rfl (lv_at hl 2 rfl) ?_
                  refine W.eq (g2 := F0 m 111 ls [.int y6, .int y3, .ref a_h]) rfl ?_
                  refine lv_iload hx hb dX11_readStay_111 (lv_at hl 1 rfl) ?_
                  refine lv_iload hx hb dX11_readStay_113 (lv_at hl 0 rfl) ?_
                  obtain ⟨hPc, hDc, hFc⟩ := g5_sub3 (wc := [(a_h, (oc1 e_wa e_le e_st e_fo e_lc a_l a_g a_b a_s a_p a_w e_gb a_bb)), (a_b, (oc6 5 24 a_bn e_b)), (a_bn, (arI G 120 f_b)), (a_bb, (arJ G 24 f_bb))]) hP hD hS hA [5, 4, 1, 2] (by decide +kernel) rfl
                  refine va_callv (va_runV (As := [.int y3, .int y6, .int y9, .int y12]) (rest := []) ⟨hx, hb, hml, hown, hts⟩ (h_put l G a_h a_b a_bn a_bb a_l a_g a_s a_p a_w H.size e_le e_st e_fo e_lc e_b y3 y6 y9 y12 e_wa e_gb f_b f_bb h_e_b i_20 i_21 (i_23) (hbb_)) (cwV 4 hts gV_X11_177 rfl rfl rfl hv_X1_put ⟨Nat.le_of_ble_eq_true rfl, Nat.le_of_ble_eq_true rfl⟩) (g5_preV hPc hK hDc hN hT hS hFc (ci := 1) (q0 := 0) rfl rfl) rfl rfl hl.1 rfl (lv_room (Nat.le_of_ble_eq_true rfl)) dX11_readStay_115 ⟨Nat.le_of_ble_eq_true rfl, Nat.le_of_ble_eq_true rfl⟩) hS (fun q _ h => hFc q h) hFc (fun u t H locs ht hvm hw hB hz1 hk1 hS => ?_)
                  obtain ⟨hP1, hD1⟩ := hB
                  have hP1 := g5_ht ht hP1
                  obtain ⟨z33, z34, (i_31 : z33 = bput f_b e_b.toInt y3.toInt y6.toInt (y9.toInt + 1) y12), (i_32 : ∀ c : Nat, c < 24 → z34 c = bbd z33 e_b.toInt c e_b.toInt.toNat), rfl⟩ := hw
                  have hJ9 := va_join (wr := [(a_o, (oc11 a_h a_im a_ke a_k a_wa a_th a_ha a_wk a_r a_x e_tl e_fd e_fpl a_wd e_wn a_rf e_lr)), (a_x, (arI G 400 f_x))]) hP hD [5, 4, 1, 2] [0, 3] rfl rfl (by decide +kernel) (by decide +kernel) hk1 hFc hP1 hD1
                  clear hP hD hPc hDc hFc ht hvm hz1 hk1 hP1 hD1
                  obtain ⟨hP, hD⟩ := hJ9
                  refine g5_rs [(a_o, (oc11 a_h a_im a_ke a_k a_wa a_th a_ha a_wk a_r a_x e_tl e_fd e_fpl a_wd e_wn a_rf e_lr)), (a_x, (arI G 400 f_x)), (a_h, (oc1 e_wa e_le e_st e_fo e_lc a_l a_g a_b a_s a_p a_w e_gb a_bb)), (a_b, (oc6 5 24 a_bn e_b)), (a_bn, (arI G 120 z33)), (a_bb, (arJ G 24 z34))] hP hD ?_
                  clear hP hD
                  intro hP hD
                  refine lv_iconst (v := 1) hx hb dX11_readStay_118 (by decide +kernel) ?_
                  exact W.zret (v := 1) hx hb hr rfl (fun t ht hW => ⟨⟨1, [(a_o, (oc11 a_h a_im a_ke a_k a_wa a_th a_ha a_wk a_r a_x e_tl e_fd e_fpl a_wd e_wn a_rf e_lr)), (a_h, (oc1 e_wa e_le e_st e_fo e_lc a_l a_g a_b a_s a_p a_w e_gb a_bb)), (a_b, (oc6 5 24 a_bn e_b)), (a_bn, (arI G 120 z33)), (a_bb, (arJ G 24 z34)), (a_x, (arI G 400 f_x))], rfl, ⟨1, z33, z34, ⟨by have zc_o_r : (1 : Int32).toInt = 1 := (by decide +kernel); omega, by have zc_o_r : (1 : Int32).toInt = 1 := (by decide +kernel); omega⟩, by rw [cif_t ((cq_mk (td := e_tl.toInt) (f := f_ro) (t := f_x) (k := p_a.toInt.toNat) hy_3 hy_6 hy_9 hy_12 (c := y12) (cq_n (by omega))).mpr ⟨by omega, isb_y e_hb ⟨by omega, by omega⟩, i_24, wl_n e_hh (by omega) i_28⟩)]; decide, by rw [rw_stayY ((cq_mk (td := e_tl.toInt) (f := f_ro) (t := f_x) (k := p_a.toInt.toNat) hy_3 hy_6 hy_9 hy_12 (c := y12) (cq_n (by omega))).mpr ⟨by omega, isb_y e_hb ⟨by omega, by omega⟩, i_24, wl_n e_hh (by omega) i_28⟩), hy_3, hy_6, hy_9, hy_12, cq_n (by omega)]; exact hb_put e_hb ⟨by omega, by omega⟩ (by omega) (by omega) ⟨by omega, by omega⟩ i_31 i_32, rfl, rfl⟩, by rw [ht]; exact hP.sub [0, 2, 3, 4, 5, 1] rfl, hD.sub [0, 2, 3, 4, 5, 1] (by decide +kernel) rfl⟩, hS.F ht⟩) hS.2.2 dX11_readStay_119
                ·
                  exact absurd c_30 (by decide +kernel)
          ·
            have hJ9 := g5_same hP hk1
            clear hP hPc hDc hFc ht hvm hz1 hk1 hP1 hD1
            have hP := hJ9
            clear hJ9
            refine lv_if_eq (tgt := 103) hx hb dX11_readStay_88 (by decide +kernel) (fun c_35 => ?_) (fun c_35 => ?_)
            ·
              refine lv_iconst (v := 0) hx hb dX11_readStay_103 (by decide +kernel) ?_
              exact W.zret (v := 0) hx hb hr rfl (fun t ht hW => ⟨⟨0, [(a_o, (oc11 a_h a_im a_ke a_k a_wa a_th a_ha a_wk a_r a_x e_tl e_fd e_fpl a_wd e_wn a_rf e_lr)), (a_h, (oc1 e_wa e_le e_st e_fo e_lc a_l a_g a_b a_s a_p a_w e_gb a_bb)), (a_b, (oc6 5 24 a_bn e_b)), (a_bn, (arI G 120 f_b)), (a_bb, (arJ G 24 f_bb)), (a_x, (arI G 400 f_x))], rfl, ⟨0, f_b, f_bb, ⟨by have zc_o_r : (0 : Int32).toInt = 0 := (by decide +kernel); omega, by have zc_o_r : (0 : Int32).toInt = 0 := (by decide +kernel); omega⟩, by rw [cif_f (fun q => by have q := (cq_mk (td := e_tl.toInt) (f := f_ro) (t := f_x) (k := p_a.toInt.toNat) hy_3 hy_6 hy_9 hy_12 (c := y12) (cq_n (by omega))).mp q; exact i_25 q.2.2.1)]; decide, by rw [rw_stayN (fun q => by have q := (cq_mk (td := e_tl.toInt) (f := f_ro) (t := f_x) (k := p_a.toInt.toNat) hy_3 hy_6 hy_9 hy_12 (c := y12) (cq_n (by omega))).mp q; exact i_25 q.2.2.1)]; exact e_hb, rfl, rfl⟩, by rw [ht]; exact hP.sub [0, 1, 5, 2, 3, 4] rfl, hD.sub [0, 1, 5, 2, 3, 4] (by decide +kernel) rfl⟩, hS.F ht⟩) hS.2.2 dX11_readStay_104
            ·
              exact absurd c_35 (by decide +kernel)
      ·
        have hJ9 := va_join (wr := [(a_o, (oc11 a_h a_im a_ke a_k a_wa a_th a_ha a_wk a_r a_x e_tl e_fd e_fpl a_wd e_wn a_rf e_lr)), (a_h, (oc1 e_wa e_le e_st e_fo e_lc a_l a_g a_b a_s a_p a_w e_gb a_bb)), (a_bn, (arI G 120 f_b)), (a_bb, (arJ G 24 f_bb)), (a_x, (arI G 400 f_x))]) hP hD [2] [0, 1, 3, 4, 5] rfl rfl (by decide +kernel) (by decide +kernel) hk1 hFc hP1 hD1
        clear hP hD hPc hDc hFc ht hvm hz1 hk1 hP1 hD1
        obtain ⟨hP, hD⟩ := hJ9
        refine g5_rs [(a_o, (oc11 a_h a_im a_ke a_k a_wa a_th a_ha a_wk a_r a_x e_tl e_fd e_fpl a_wd e_wn a_rf e_lr)), (a_h, (oc1 e_wa e_le e_st e_fo e_lc a_l a_g a_b a_s a_p a_w e_gb a_bb)), (a_bn, (arI G 120 f_b)), (a_bb, (arJ G 24 f_bb)), (a_x, (arI G 400 f_x)), (a_b, (oc6 5 24 a_bn e_b))] hP hD ?_
        clear hP hD
        intro hP hD
        refine lv_if_eq (tgt := 103) hx hb dX11_readStay_77 (by decide +kernel) (fun c_36 => ?_) (fun c_36 => ?_)
        ·
          refine lv_iconst (v := 0) hx hb dX11_readStay_103 (by decide +kernel) ?_
          exact W.zret (v := 0) hx hb hr rfl (fun t ht hW => ⟨⟨0, [(a_o, (oc11 a_h a_im a_ke a_k a_wa a_th a_ha a_wk a_r a_x e_tl e_fd e_fpl a_wd e_wn a_rf e_lr)), (a_h, (oc1 e_wa e_le e_st e_fo e_lc a_l a_g a_b a_s a_p a_w e_gb a_bb)), (a_b, (oc6 5 24 a_bn e_b)), (a_bn, (arI G 120 f_b)), (a_bb, (arJ G 24 f_bb)), (a_x, (arI G 400 f_x))], rfl, ⟨0, f_b, f_bb, ⟨by have zc_o_r : (0 : Int32).toInt = 0 := (by decide +kernel); omega, by have zc_o_r : (0 : Int32).toInt = 0 := (by decide +kernel); omega⟩, by rw [cif_f (fun q => by have q := (cq_mk (td := e_tl.toInt) (f := f_ro) (t := f_x) (k := p_a.toInt.toNat) hy_3 hy_6 hy_9 hy_12 (c := y12) (cq_n (by omega))).mp q; exact isb_n e_hb (by omega) q.2.1)]; decide, by rw [rw_stayN (fun q => by have q := (cq_mk (td := e_tl.toInt) (f := f_ro) (t := f_x) (k := p_a.toInt.toNat) hy_3 hy_6 hy_9 hy_12 (c := y12) (cq_n (by omega))).mp q; exact isb_n e_hb (by omega) q.2.1)]; exact e_hb, rfl, rfl⟩, by rw [ht]; exact hP.sub [0, 1, 5, 2, 3, 4] rfl, hD.sub [0, 1, 5, 2, 3, 4] (by decide +kernel) rfl⟩, hS.F ht⟩) hS.2.2 dX11_readStay_104
        ·
          exact absurd c_36 (by decide +kernel)
    ·
      have i_14 : y12.toInt = 255 := g5_neN (a := y12.toInt) (b := 255) rfl (by decide +kernel) c_14
      refine lv_iconst (v := (-1)) hx hb dX11_readStay_52 (by decide +kernel) ?_
      refine lv_goto (tgt := 64) hx hb dX11_readStay_53 (by decide +kernel) ?_
      refine lv_istore (lv' := [(5, .int (-1)), (4, .int y9), (3, .int y6), (2, .int y3), (0, .ref a_o), (1, .int p_a)]) hx hb dX11_readStay_64 hl (by decide +kernel) rfl ?_
      clear hl
      intro ls hl
      refine lv_aload_n hx hb dX11_readStay_66 rfl (lv_at hl 4 rfl) ?_
      refine W.eq (g2 := F0 m 67 ls [.ref a_o]) rfl ?_
      refine va_get (D := G.1) (ci := 11) (v := .ref a_h) (C := RX11) (T := TX11) (N := 17) hx hb hts inG_X11 hown hK hP 0 rfl rfl 0 (by decide +kernel) (hts _ fl_X11_12) (fun _ h9 => h9) rfl dX11_readStay_67 ?_
      refine va_get (D := G.1) (ci := 1) (v := .ref a_b) (C := RX1) (T := TX1) (N := 13) hx hb hts inG_X1 hown hK hP 1 rfl rfl 7 (by decide +kernel) (hts _ fl_X11_167) (fun _ h9 => h9) rfl dX11_readStay_70 ?_
      refine lv_iload_n hx hb dX11_readStay_73 rfl (lv_at hl 3 rfl) ?_
      obtain ⟨hPc, hDc, hFc⟩ := g5_sub3 (wc := [(a_b, (oc6 5 24 a_bn e_b))]) hP hD hS hA [2] (by decide +kernel) rfl
      refine va_calli (va_runV (As := [.int y3]) (rest := []) ⟨hx, hb, hml, hown, hts⟩ (t_has_B l G a_b a_bn s.heap.size e_b y3 h_e_b) (cwV 1 hts gV_X11_160 rfl rfl rfl hv_X6_has ⟨Nat.le_of_ble_eq_true rfl, Nat.le_of_ble_eq_true rfl⟩) (g5_preV hPc hK hDc hN hT hS hFc (ci := 6) (q0 := 0) rfl rfl) rfl rfl hl.1 rfl (lv_room (Nat.le_of_ble_eq_true rfl)) dX11_readStay_74 ⟨Nat.le_of_ble_eq_true rfl, Nat.le_of_ble_eq_true rfl⟩) hS (fun q _ h => hFc q h) hFc (fun r u t H locs ht hvm hw hB hz1 hk1 hS => ?_)
      obtain ⟨hP1, hD1⟩ := hB
      have hP1 := g5_ht ht hP1
      rcases hw with ⟨(i_37 : 0 ≤ y3.toInt ∧ y3.toInt < e_b.toInt), rfl, rfl⟩ | ⟨(i_38 : y3.toInt < 0 ∨ e_b.toInt ≤ y3.toInt), rfl, rfl⟩
      ·
        have hJ9 := va_join (wr := [(a_o, (oc11 a_h a_im a_ke a_k a_wa a_th a_ha a_wk a_r a_x e_tl e_fd e_fpl a_wd e_wn a_rf e_lr)), (a_h, (oc1 e_wa e_le e_st e_fo e_lc a_l a_g a_b a_s a_p a_w e_gb a_bb)), (a_bn, (arI G 120 f_b)), (a_bb, (arJ G 24 f_bb)), (a_x, (arI G 400 f_x))]) hP hD [2] [0, 1, 3, 4, 5] rfl rfl (by decide +kernel) (by decide +kernel) hk1 hFc hP1 hD1
        clear hP hD hPc hDc hFc ht hvm hz1 hk1 hP1 hD1
        obtain ⟨hP, hD⟩ := hJ9
        refine g5_rs [(a_o, (oc11 a_h a_im a_ke a_k a_wa a_th a_ha a_wk a_r a_x e_tl e_fd e_fpl a_wd e_wn a_rf e_lr)), (a_h, (oc1 e_wa e_le e_st e_fo e_lc a_l a_g a_b a_s a_p a_w e_gb a_bb)), (a_bn, (arI G 120 f_b)), (a_bb, (arJ G 24 f_bb)), (a_x, (arI G 400 f_x)), (a_b, (oc6 5 24 a_bn e_b))] hP hD ?_
        clear hP hD
        intro hP hD
        refine lv_if_eq (tgt := 103) hx hb dX11_readStay_77 (by decide +kernel) (fun c_39 => ?_) (fun c_39 => ?_)
        ·
          exact absurd c_39 (by decide +kernel)
        ·
          refine lv_iload_n hx hb dX11_readStay_80 rfl (lv_at hl 2 rfl) ?_
          refine lv_iload hx hb dX11_readStay_81 (lv_at hl 1 rfl) ?_
          refine lv_iload hx hb dX11_readStay_83 (lv_at hl 0 rfl) ?_
          obtain ⟨hPc, hDc, hFc⟩ := g5_sub3 (wc := []) hP hD hS hA [] (by decide +kernel) rfl
          refine va_calli (va_runS (As := [.int y6, .int y9, .int (-1)]) (rest := []) ⟨hx, hb, hml, hown, hts⟩ (x_isStayX l G H.size y6 y9 (-1)) (va_cwS 3 hts gS_X11_170 rfl rfl rfl hs_X11_isStay ⟨Nat.le_of_ble_eq_true rfl, Nat.le_of_ble_eq_true rfl⟩) (g5_preS hPc hK hDc hN hT hS hFc) rfl rfl hl.1 rfl (lv_room (Nat.le_of_ble_eq_true rfl)) dX11_readStay_85 ⟨Nat.le_of_ble_eq_true rfl, Nat.le_of_ble_eq_true rfl⟩) hS (fun q _ h => hFc q h) hFc (fun r u t H locs ht hvm hw hB hz1 hk1 hS => ?_)
          obtain ⟨hP1, hD1⟩ := hB
          have hP1 := g5_ht ht hP1
          rcases hw with ⟨(i_40 : 0 ≤ y6.toInt ∧ y6.toInt ≤ 23), (i_41 : 0 ≤ y9.toInt ∧ y9.toInt ≤ 23), (i_42 : -1 ≤ ((-1) : Int32).toInt ∧ ((-1) : Int32).toInt ≤ 63), (i_43 : y6.toInt ≤ y9.toInt), (i_44 : okS y6 y9 ((-1) : Int32)), rfl, rfl⟩ | ⟨(i_45 : ¬ okS y6 y9 ((-1) : Int32)), rfl, rfl⟩
          ·
            have hJ9 := g5_same hP hk1
            clear hP hPc hDc hFc ht hvm hz1 hk1 hP1 hD1
            have hP := hJ9
            clear hJ9
            refine lv_if_eq (tgt := 103) hx hb dX11_readStay_88 (by decide +kernel) (fun c_46 => ?_) (fun c_46 => ?_)
            ·
              exact absurd c_46 (by decide +kernel)
            ·
              refine lv_aload_n hx hb dX11_readStay_91 rfl (lv_at hl 4 rfl) ?_
              refine va_get (D := G.1) (ci := 11) (v := .ref a_h) (C := RX11) (T := TX11) (N := 17) hx hb hts inG_X11 hown hK hP 0 rfl rfl 0 (by decide +kernel) (hts _ fl_X11_12) (fun _ h9 => h9) rfl dX11_readStay_92 ?_
              refine lv_iload hx hb dX11_readStay_95 (lv_at hl 0 rfl) ?_
              obtain ⟨hPc, hDc, hFc⟩ := g5_sub3 (wc := [(a_h, (oc1 e_wa e_le e_st e_fo e_lc a_l a_g a_b a_s a_p a_w e_gb a_bb))]) hP hD hS hA [1] (by decide +kernel) rfl
              refine va_calli (va_runV (As := [.int (-1)]) (rest := []) ⟨hx, hb, hml, hown, hts⟩ (h_isWalled l G a_h a_l a_g a_b a_s a_p a_w a_bb H.size e_le e_st e_fo e_lc (-1) e_wa e_gb ⟨by decide, by decide⟩) (cwV 1 hts gV_X11_174 rfl rfl rfl hv_X1_isWalled ⟨Nat.le_of_ble_eq_true rfl, Nat.le_of_ble_eq_true rfl⟩) (g5_preV hPc hK hDc hN hT hS hFc (ci := 1) (q0 := 0) rfl rfl) rfl rfl hl.1 rfl (lv_room (Nat.le_of_ble_eq_true rfl)) dX11_readStay_97 ⟨Nat.le_of_ble_eq_true rfl, Nat.le_of_ble_eq_true rfl⟩) hS (fun q _ h => hFc q h) hFc (fun r u t H locs ht hvm hw hB hz1 hk1 hS => ?_)
              obtain ⟨hP1, hD1⟩ := hB
              have hP1 := g5_ht ht hP1
              rcases hw with ⟨(i_47 : 0 ≤ ((-1) : Int32).toInt ∧ onB e_wa ((-1) : Int32).toInt = true), rfl, rfl⟩ | ⟨(i_48 : ((-1) : Int32).toInt = -1 ∨ onB e_wa ((-1) : Int32).toInt = false), rfl, rfl⟩
              ·
                have hJ9 := va_join (wr := [(a_o, (oc11 a_h a_im a_ke a_k a_wa a_th a_ha a_wk a_r a_x e_tl e_fd e_fpl a_wd e_wn a_rf e_lr)), (a_bn, (arI G 120 f_b)), (a_bb, (arJ G 24 f_bb)), (a_x, (arI G 400 f_x)), (a_b, (oc6 5 24 a_bn e_b))]) hP hD [1] [0, 2, 3, 4, 5] rfl rfl (by decide +kernel) (by decide +kernel) hk1 hFc hP1 hD1
                clear hP hD hPc hDc hFc ht hvm hz1 hk1 hP1 hD1
                obtain ⟨hP, hD⟩ := hJ9
                refine g5_rs [(a_o, (oc11 a_h a_im a_ke a_k a_wa a_th a_ha a_wk a_r a_x e_tl e_fd e_fpl a_wd e_wn a_rf e_lr)), (a_bn, (arI G 120 f_b)), (a_bb, (arJ G 24 f_bb)), (a_x, (arI G 400 f_x)), (a_b, (oc6 5 24 a_bn e_b)), (a_h, (oc1 e_wa e_le e_st e_fo e_lc a_l a_g a_b a_s a_p a_w e_gb a_bb))] hP hD ?_
                clear hP hD
                intro hP hD
                refine lv_if_eq (tgt := 105) hx hb dX11_readStay_100 (by decide +kernel) (fun c_49 => ?_) (fun c_49 => ?_)
                ·
                  exact absurd c_49 (by decide +kernel)
                ·
                  refine lv_iconst (v := 0) hx hb dX11_readStay_103 (by decide +kernel) ?_
                  exact W.zret (v := 0) hx hb hr rfl (fun t ht hW => ⟨⟨0, [(a_o, (oc11 a_h a_im a_ke a_k a_wa a_th a_ha a_wk a_r a_x e_tl e_fd e_fpl a_wd e_wn a_rf e_lr)), (a_h, (oc1 e_wa e_le e_st e_fo e_lc a_l a_g a_b a_s a_p a_w e_gb a_bb)), (a_b, (oc6 5 24 a_bn e_b)), (a_bn, (arI G 120 f_b)), (a_bb, (arJ G 24 f_bb)), (a_x, (arI G 400 f_x))], rfl, ⟨0, f_b, f_bb, ⟨by have zc_o_r : (0 : Int32).toInt = 0 := (by decide +kernel); omega, by have zc_o_r : (0 : Int32).toInt = 0 := (by decide +kernel); omega⟩, by rw [cif_f (fun q => by have q := (cq_mk (td := e_tl.toInt) (f := f_ro) (t := f_x) (k := p_a.toInt.toNat) hy_3 hy_6 hy_9 hy_12 (c := (-1)) (cq_255 (by omega))).mp q; exact q.2.2.2 (wl_y e_hh (by omega) i_47))]; decide, by rw [rw_stayN (fun q => by have q := (cq_mk (td := e_tl.toInt) (f := f_ro) (t := f_x) (k := p_a.toInt.toNat) hy_3 hy_6 hy_9 hy_12 (c := (-1)) (cq_255 (by omega))).mp q; exact q.2.2.2 (wl_y e_hh (by omega) i_47))]; exact e_hb, rfl, rfl⟩, by rw [ht]; exact hP.sub [0, 5, 4, 1, 2, 3] rfl, hD.sub [0, 5, 4, 1, 2, 3] (by decide +kernel) rfl⟩, hS.F ht⟩) hS.2.2 dX11_readStay_104
              ·
                have hJ9 := va_join (wr := [(a_o, (oc11 a_h a_im a_ke a_k a_wa a_th a_ha a_wk a_r a_x e_tl e_fd e_fpl a_wd e_wn a_rf e_lr)), (a_bn, (arI G 120 f_b)), (a_bb, (arJ G 24 f_bb)), (a_x, (arI G 400 f_x)), (a_b, (oc6 5 24 a_bn e_b))]) hP hD [1] [0, 2, 3, 4, 5] rfl rfl (by decide +kernel) (by decide +kernel) hk1 hFc hP1 hD1
                clear hP hD hPc hDc hFc ht hvm hz1 hk1 hP1 hD1
                obtain ⟨hP, hD⟩ := hJ9
                refine g5_rs [(a_o, (oc11 a_h a_im a_ke a_k a_wa a_th a_ha a_wk a_r a_x e_tl e_fd e_fpl a_wd e_wn a_rf e_lr)), (a_bn, (arI G 120 f_b)), (a_bb, (arJ G 24 f_bb)), (a_x, (arI G 400 f_x)), (a_b, (oc6 5 24 a_bn e_b)), (a_h, (oc1 e_wa e_le e_st e_fo e_lc a_l a_g a_b a_s a_p a_w e_gb a_bb))] hP hD ?_
                clear hP hD
                intro hP hD
                refine lv_if_eq (tgt := 105) hx hb dX11_readStay_100 (by decide +kernel) (fun c_50 => ?_) (fun c_50 => ?_)
                ·
                  refine lv_aload_n hx hb dX11_readStay_105 rfl (lv_at hl 4 rfl) ?_
                  refine va_get (D := G.1) (ci := 11) (v := .ref a_h) (C := RX11) (T := TX11) (N := 17) hx hb hts inG_X11 hown hK hP 0 rfl rfl 0 (by decide +kernel) (hts _ fl_X11_12) (fun _ h9 => h9) rfl dX11_readStay_106 ?_
                  refine lv_iload_n hx hb dX11_readStay_109 rfl (lv_at hl 3 rfl) ?_
                  refine lv_iload_n hx hb dX11_readStay_110 rfl (lv_at hl 2 rfl) ?_
                  refine W.eq (g2 := F0 m 111 ls [.int y6, .int y3, .ref a_h]) rfl ?_
                  refine lv_iload hx hb dX11_readStay_111 (lv_at hl 1 rfl) ?_
                  refine lv_iload hx hb dX11_readStay_113 (lv_at hl 0 rfl) ?_
                  obtain ⟨hPc, hDc, hFc⟩ := g5_sub3 (wc := [(a_h, (oc1 e_wa e_le e_st e_fo e_lc a_l a_g a_b a_s a_p a_w e_gb a_bb)), (a_b, (oc6 5 24 a_bn e_b)), (a_bn, (arI G 120 f_b)), (a_bb, (arJ G 24 f_bb))]) hP hD hS hA [5, 4, 1, 2] (by decide +kernel) rfl
                  refine va_callv (va_runV (As := [.int y3, .int y6, .int y9, .int (-1)]) (rest := []) ⟨hx, hb, hml, hown, hts⟩ (h_put l G a_h a_b a_bn a_bb a_l a_g a_s a_p a_w H.size e_le e_st e_fo e_lc e_b y3 y6 y9 (-1) e_wa e_gb f_b f_bb h_e_b i_40 i_41 (i_43) (hbb_)) (cwV 4 hts gV_X11_177 rfl rfl rfl hv_X1_put ⟨Nat.le_of_ble_eq_true rfl, Nat.le_of_ble_eq_true rfl⟩) (g5_preV hPc hK hDc hN hT hS hFc (ci := 1) (q0 := 0) rfl rfl) rfl rfl hl.1 rfl (lv_room (Nat.le_of_ble_eq_true rfl)) dX11_readStay_115 ⟨Nat.le_of_ble_eq_true rfl, Nat.le_of_ble_eq_true rfl⟩) hS (fun q _ h => hFc q h) hFc (fun u t H locs ht hvm hw hB hz1 hk1 hS => ?_)
                  obtain ⟨hP1, hD1⟩ := hB
                  have hP1 := g5_ht ht hP1
                  obtain ⟨z53, z54, (i_51 : z53 = bput f_b e_b.toInt y3.toInt y6.toInt (y9.toInt + 1) ((-1) : Int32)), (i_52 : ∀ c : Nat, c < 24 → z54 c = bbd z53 e_b.toInt c e_b.toInt.toNat), rfl⟩ := hw
                  have hJ9 := va_join (wr := [(a_o, (oc11 a_h a_im a_ke a_k a_wa a_th a_ha a_wk a_r a_x e_tl e_fd e_fpl a_wd e_wn a_rf e_lr)), (a_x, (arI G 400 f_x))]) hP hD [5, 4, 1, 2] [0, 3] rfl rfl (by decide +kernel) (by decide +kernel) hk1 hFc hP1 hD1
                  clear hP hD hPc hDc hFc ht hvm hz1 hk1 hP1 hD1
                  obtain ⟨hP, hD⟩ := hJ9
                  refine g5_rs [(a_o, (oc11 a_h a_im a_ke a_k a_wa a_th a_ha a_wk a_r a_x e_tl e_fd e_fpl a_wd e_wn a_rf e_lr)), (a_x, (arI G 400 f_x)), (a_h, (oc1 e_wa e_le e_st e_fo e_lc a_l a_g a_b a_s a_p a_w e_gb a_bb)), (a_b, (oc6 5 24 a_bn e_b)), (a_bn, (arI G 120 z53)), (a_bb, (arJ G 24 z54))] hP hD ?_
                  clear hP hD
                  intro hP hD
                  refine lv_iconst (v := 1) hx hb dX11_readStay_118 (by decide +kernel) ?_
                  exact W.zret (v := 1) hx hb hr rfl (fun t ht hW => ⟨⟨1, [(a_o, (oc11 a_h a_im a_ke a_k a_wa a_th a_ha a_wk a_r a_x e_tl e_fd e_fpl a_wd e_wn a_rf e_lr)), (a_h, (oc1 e_wa e_le e_st e_fo e_lc a_l a_g a_b a_s a_p a_w e_gb a_bb)), (a_b, (oc6 5 24 a_bn e_b)), (a_bn, (arI G 120 z53)), (a_bb, (arJ G 24 z54)), (a_x, (arI G 400 f_x))], rfl, ⟨1, z53, z54, ⟨by have zc_o_r : (1 : Int32).toInt = 1 := (by decide +kernel); omega, by have zc_o_r : (1 : Int32).toInt = 1 := (by decide +kernel); omega⟩, by rw [cif_t ((cq_mk (td := e_tl.toInt) (f := f_ro) (t := f_x) (k := p_a.toInt.toNat) hy_3 hy_6 hy_9 hy_12 (c := (-1)) (cq_255 (by omega))).mpr ⟨by omega, isb_y e_hb ⟨by omega, by omega⟩, i_44, wl_n e_hh (by omega) i_48⟩)]; decide, by rw [rw_stayY ((cq_mk (td := e_tl.toInt) (f := f_ro) (t := f_x) (k := p_a.toInt.toNat) hy_3 hy_6 hy_9 hy_12 (c := (-1)) (cq_255 (by omega))).mpr ⟨by omega, isb_y e_hb ⟨by omega, by omega⟩, i_44, wl_n e_hh (by omega) i_48⟩), hy_3, hy_6, hy_9, hy_12, cq_255 (by omega)]; exact hb_put e_hb ⟨by omega, by omega⟩ (by omega) (by omega) ⟨by have zm : (-1 : Int32).toInt = -1 := (by decide +kernel); omega, by have zm : (-1 : Int32).toInt = -1 := (by decide +kernel); omega⟩ i_51 i_52, rfl, rfl⟩, by rw [ht]; exact hP.sub [0, 2, 3, 4, 5, 1] rfl, hD.sub [0, 2, 3, 4, 5, 1] (by decide +kernel) rfl⟩, hS.F ht⟩) hS.2.2 dX11_readStay_119
                ·
                  exact absurd c_50 (by decide +kernel)
          ·
            have hJ9 := g5_same hP hk1
            clear hP hPc hDc hFc ht hvm hz1 hk1 hP1 hD1
            have hP := hJ9
            clear hJ9
            refine lv_if_eq (tgt := 103) hx hb dX11_readStay_88 (by decide +kernel) (fun c_55 => ?_) (fun c_55 => ?_)
            ·
              refine lv_iconst (v := 0) hx hb dX11_readStay_103 (by decide +kernel) ?_
              exact W.zret (v := 0) hx hb hr rfl (fun t ht hW => ⟨⟨0, [(a_o, (oc11 a_h a_im a_ke a_k a_wa a_th a_ha a_wk a_r a_x e_tl e_fd e_fpl a_wd e_wn a_rf e_lr)), (a_h, (oc1 e_wa e_le e_st e_fo e_lc a_l a_g a_b a_s a_p a_w e_gb a_bb)), (a_b, (oc6 5 24 a_bn e_b)), (a_bn, (arI G 120 f_b)), (a_bb, (arJ G 24 f_bb)), (a_x, (arI G 400 f_x))], rfl, ⟨0, f_b, f_bb, ⟨by have zc_o_r : (0 : Int32).toInt = 0 := (by decide +kernel); omega, by have zc_o_r : (0 : Int32).toInt = 0 := (by decide +kernel); omega⟩, by rw [cif_f (fun q => by have q := (cq_mk (td := e_tl.toInt) (f := f_ro) (t := f_x) (k := p_a.toInt.toNat) hy_3 hy_6 hy_9 hy_12 (c := (-1)) (cq_255 (by omega))).mp q; exact i_45 q.2.2.1)]; decide, by rw [rw_stayN (fun q => by have q := (cq_mk (td := e_tl.toInt) (f := f_ro) (t := f_x) (k := p_a.toInt.toNat) hy_3 hy_6 hy_9 hy_12 (c := (-1)) (cq_255 (by omega))).mp q; exact i_45 q.2.2.1)]; exact e_hb, rfl, rfl⟩, by rw [ht]; exact hP.sub [0, 1, 5, 2, 3, 4] rfl, hD.sub [0, 1, 5, 2, 3, 4] (by decide +kernel) rfl⟩, hS.F ht⟩) hS.2.2 dX11_readStay_104
            ·
              exact absurd c_55 (by decide +kernel)
      ·
        have hJ9 := va_join (wr := [(a_o, (oc11 a_h a_im a_ke a_k a_wa a_th a_ha a_wk a_r a_x e_tl e_fd e_fpl a_wd e_wn a_rf e_lr)), (a_h, (oc1 e_wa e_le e_st e_fo e_lc a_l a_g a_b a_s a_p a_w e_gb a_bb)), (a_bn, (arI G 120 f_b)), (a_bb, (arJ G 24 f_bb)), (a_x, (arI G 400 f_x))]) hP hD [2] [0, 1, 3, 4, 5] rfl rfl (by decide +kernel) (by decide +kernel) hk1 hFc hP1 hD1
        clear hP hD hPc hDc hFc ht hvm hz1 hk1 hP1 hD1
        obtain ⟨hP, hD⟩ := hJ9
        refine g5_rs [(a_o, (oc11 a_h a_im a_ke a_k a_wa a_th a_ha a_wk a_r a_x e_tl e_fd e_fpl a_wd e_wn a_rf e_lr)), (a_h, (oc1 e_wa e_le e_st e_fo e_lc a_l a_g a_b a_s a_p a_w e_gb a_bb)), (a_bn, (arI G 120 f_b)), (a_bb, (arJ G 24 f_bb)), (a_x, (arI G 400 f_x)), (a_b, (oc6 5 24 a_bn e_b))] hP hD ?_
        clear hP hD
        intro hP hD
        refine lv_if_eq (tgt := 103) hx hb dX11_readStay_77 (by decide +kernel) (fun c_56 => ?_) (fun c_56 => ?_)
        ·
          refine lv_iconst (v := 0) hx hb dX11_readStay_103 (by decide +kernel) ?_
          exact W.zret (v := 0) hx hb hr rfl (fun t ht hW => ⟨⟨0, [(a_o, (oc11 a_h a_im a_ke a_k a_wa a_th a_ha a_wk a_r a_x e_tl e_fd e_fpl a_wd e_wn a_rf e_lr)), (a_h, (oc1 e_wa e_le e_st e_fo e_lc a_l a_g a_b a_s a_p a_w e_gb a_bb)), (a_b, (oc6 5 24 a_bn e_b)), (a_bn, (arI G 120 f_b)), (a_bb, (arJ G 24 f_bb)), (a_x, (arI G 400 f_x))], rfl, ⟨0, f_b, f_bb, ⟨by have zc_o_r : (0 : Int32).toInt = 0 := (by decide +kernel); omega, by have zc_o_r : (0 : Int32).toInt = 0 := (by decide +kernel); omega⟩, by rw [cif_f (fun q => by have q := (cq_mk (td := e_tl.toInt) (f := f_ro) (t := f_x) (k := p_a.toInt.toNat) hy_3 hy_6 hy_9 hy_12 (c := (-1)) (cq_255 (by omega))).mp q; exact isb_n e_hb (by omega) q.2.1)]; decide, by rw [rw_stayN (fun q => by have q := (cq_mk (td := e_tl.toInt) (f := f_ro) (t := f_x) (k := p_a.toInt.toNat) hy_3 hy_6 hy_9 hy_12 (c := (-1)) (cq_255 (by omega))).mp q; exact isb_n e_hb (by omega) q.2.1)]; exact e_hb, rfl, rfl⟩, by rw [ht]; exact hP.sub [0, 1, 5, 2, 3, 4] rfl, hD.sub [0, 1, 5, 2, 3, 4] (by decide +kernel) rfl⟩, hS.F ht⟩) hS.2.2 dX11_readStay_104
        ·
          exact absurd c_56 (by decide +kernel)
  ·
    have i_2 : (p_a.toInt + 4) > e_tl.toInt := by have z := g5_leN (a := (p_a + 4).toInt) (b := e_tl.toInt) (by rfl) (by rfl) c_2; omega
    refine lv_iconst (v := 0) hx hb dX11_readStay_10 (by decide +kernel) ?_
    exact W.zret (v := 0) hx hb hr rfl (fun t ht hW => ⟨⟨0, [(a_o, (oc11 a_h a_im a_ke a_k a_wa a_th a_ha a_wk a_r a_x e_tl e_fd e_fpl a_wd e_wn a_rf e_lr)), (a_h, (oc1 e_wa e_le e_st e_fo e_lc a_l a_g a_b a_s a_p a_w e_gb a_bb)), (a_b, (oc6 5 24 a_bn e_b)), (a_bn, (arI G 120 f_b)), (a_bb, (arJ G 24 f_bb)), (a_x, (arI G 400 f_x))], rfl, ⟨0, f_b, f_bb, ⟨by have zc_o_r : (0 : Int32).toInt = 0 := (by decide +kernel); omega, by have zc_o_r : (0 : Int32).toInt = 0 := (by decide +kernel); omega⟩, by rw [cif_f (fun q => by have q1 := q.1; omega)]; decide, by rw [rw_stayN (fun q => by have q1 := q.1; omega)]; exact e_hb, rfl, rfl⟩, by rw [ht]; exact hP.sub [0, 1, 2, 3, 4, 5] rfl, hD.sub [0, 1, 2, 3, 4, 5] (by decide +kernel) rfl⟩, hS.F ht⟩) hS.2.2 dX11_readStay_11
set_option maxHeartbeats 4000000 in
set_option maxRecDepth 100000 in
theorem x_rowX (l : Launch) (G : g5_G) (a_o a_rf a_h a_b a_bn a_bb a_x a_im a_ke a_k a_wa a_th a_ha a_wk a_r a_wd a_l a_g a_s a_p a_w : Nat) (sz : Nat) (e_tl : Int32) (e_fd : Int32) (e_fpl : Int32) (e_wn : Int32) (e_lr : Int32) (e_le : Int32) (e_st : Int32) (e_fo : Int32) (e_lc : Int32) (e_b : Int32) (e_wa : Int64) (e_gb : Int64) (f_rf : Nat → Int32) (f_b : Nat → Int32) (f_bb : Nat → Int64) (f_x : Nat → Int32) (f_ro : Nat → Int32) (h_e_tl : 0 ≤ e_tl.toInt ∧ e_tl.toInt ≤ 400) (h_e_wn : 0 ≤ e_wn.toInt ∧ e_wn.toInt ≤ 1) (h_e_b : 0 ≤ e_b.toInt ∧ e_b.toInt ≤ 5) (e_hh : QH e_wa e_le e_st f_ro) (e_hb : QB e_b f_b f_bb f_ro) (e_tp : TPI f_x) : Met l yX11_row (wsG yX11_row cX11_row 4 (some .int)) ({ frames := 4, cells := 0, slots := 0, locals := 98 }) (va_Pc [.ref a_o] (g5_P G [(a_o, (oc11 a_h a_im a_ke a_k a_wa a_th a_ha a_wk a_r a_x e_tl e_fd e_fpl a_wd e_wn a_rf e_lr)), (a_rf, (arI G 5 f_rf)), (a_h, (oc1 e_wa e_le e_st e_fo e_lc a_l a_g a_b a_s a_p a_w e_gb a_bb)), (a_b, (oc6 5 24 a_bn e_b)), (a_bn, (arI G 120 f_b)), (a_bb, (arJ G 24 f_bb)), (a_x, (arI G 400 f_x))] sz)) (va_Qi (fun (r : Int32) (u : va_W) => (∃ (o_r : Int32) (o_lr : Int32) (o_rf : Nat → Int32) (o_t : Int32) (o_fd : Int32) (o_f : Nat → Int32) (o_bb : Nat → Int64), (0 ≤ o_t.toInt ∧ o_t.toInt ≤ 400) ∧ (o_t = 0) ∧ (o_r = arow f_x e_tl f_ro) ∧ (QB e_b o_f o_bb (srow f_x e_tl f_ro)) ∧ (o_fd = srowF f_x e_tl e_fd f_ro) ∧ (r = o_r) ∧ (u = [(a_o, (oc11 a_h a_im a_ke a_k a_wa a_th a_ha a_wk a_r a_x o_t o_fd e_fpl a_wd e_wn a_rf o_lr)), (a_rf, (arI G 5 o_rf)), (a_h, (oc1 e_wa e_le e_st e_fo e_lc a_l a_g a_b a_s a_p a_w e_gb a_bb)), (a_b, (oc6 5 24 a_bn e_b)), (a_bn, (arI G 120 o_f)), (a_bb, (arJ G 24 o_bb)), (a_x, (arI G 400 f_x))]))) (g5_B G (va_A [(a_o, (oc11 a_h a_im a_ke a_k a_wa a_th a_ha a_wk a_r a_x e_tl e_fd e_fpl a_wd e_wn a_rf e_lr)), (a_rf, (arI G 5 f_rf)), (a_h, (oc1 e_wa e_le e_st e_fo e_lc a_l a_g a_b a_s a_p a_w e_gb a_bb)), (a_b, (oc6 5 24 a_bn e_b)), (a_bn, (arI G 120 f_b)), (a_bb, (arJ G 24 f_bb)), (a_x, (arI G 400 f_x))] sz)) (va_A [(a_o, (oc11 a_h a_im a_ke a_k a_wa a_th a_ha a_wk a_r a_x e_tl e_fd e_fpl a_wd e_wn a_rf e_lr)), (a_rf, (arI G 5 f_rf)), (a_h, (oc1 e_wa e_le e_st e_fo e_lc a_l a_g a_b a_s a_p a_w e_gb a_bb)), (a_b, (oc6 5 24 a_bn e_b)), (a_bn, (arI G 120 f_b)), (a_bb, (arJ G 24 f_bb)), (a_x, (arI G 400 f_x))] sz)) 0 0 (va_A [(a_o, (oc11 a_h a_im a_ke a_k a_wa a_th a_ha a_wk a_r a_x e_tl e_fd e_fpl a_wd e_wn a_rf e_lr)), (a_rf, (arI G 5 f_rf)), (a_h, (oc1 e_wa e_le e_st e_fo e_lc a_l a_g a_b a_s a_p a_w e_gb a_bb)), (a_b, (oc6 5 24 a_bn e_b)), (a_bn, (arI G 120 f_b)), (a_bb, (arJ G 24 f_bb)), (a_x, (arI G 400 f_x))] sz) := by
  refine Met.ofW (cc := cX11_row) (maxL := 4) (ret := (some .int)) (by decide +kernel) rfl ?_
  intro p e s m args below meth c s₁ B hml hv
  obtain ⟨rfl, hsz, hP, hK, hD0, hN, hT⟩ := hv
  have hx := B.exec
  have hb := B.bytes
  have hr := B.returns
  have hts : ∀ w ∈ tblG, w.before _ s = true := fun w h => atoms_spec (ws := (wsG yX11_row cX11_row 4 (some .int))) B.pre w (List.mem_cons_of_mem _ h)
  have hown : s.vm.findClass RX11 = some m.cls := findClass_of_methodNamed B.named
  have hlocks := B.notSynchronized
  subst hsz
  have hD := hD0.self (sz := s.heap.size)
  generalize hAe : va_A [(a_o, (oc11 a_h a_im a_ke a_k a_wa a_th a_ha a_wk a_r a_x e_tl e_fd e_fpl a_wd e_wn a_rf e_lr)), (a_rf, (arI G 5 f_rf)), (a_h, (oc1 e_wa e_le e_st e_fo e_lc a_l a_g a_b a_s a_p a_w e_gb a_bb)), (a_b, (oc6 5 24 a_bn e_b)), (a_bn, (arI G 120 f_b)), (a_bb, (arJ G 24 f_bb)), (a_x, (arI G 400 f_x))] s.heap.size = A at hD hT ⊢
  have hA : ∀ q : Nat, s.heap.size ≤ q → A q := fun q h => by rw [← hAe]; exact Or.inr h
  have hS : va_S A s.heap s.heap [] := va_S.rf
  replace hP : va_P G.1 vwCl [(a_o, (oc11 a_h a_im a_ke a_k a_wa a_th a_ha a_wk a_r a_x e_tl e_fd e_fpl a_wd e_wn a_rf e_lr)), (a_rf, (arI G 5 f_rf)), (a_h, (oc1 e_wa e_le e_st e_fo e_lc a_l a_g a_b a_s a_p a_w e_gb a_bb)), (a_b, (oc6 5 24 a_bn e_b)), (a_bn, (arI G 120 f_b)), (a_bb, (arJ G 24 f_bb)), (a_x, (arI G 400 f_x))] s.heap := hP
  have hl := lv_entry ([.ref a_o]) (n := 4) (Nat.le_of_ble_eq_true rfl)
  rw [lg_entry_eq]
  generalize (lg_sl ([.ref a_o]) ++ List.replicate (4 - (lg_sl ([.ref a_o])).length) Slot.unset).toArray = ls at hl ⊢
  replace hl : lv_has ls 4 [(0, .ref a_o)] := hl
  refine lv_aload_n hx hb dX11_row_0 rfl (lv_at hl 0 rfl) ?_
  refine va_get (D := G.1) (ci := 11) (v := .int e_tl) (C := RX11) (T := TX11) (N := 17) hx hb hts inG_X11 hown hK hP 0 rfl rfl 10 (by decide +kernel) (hts _ fl_X11_74) (fun _ h9 => h9) rfl dX11_row_1 ?_
  refine lv_if_ne (tgt := 14) hx hb dX11_row_4 (by decide +kernel) (fun c_1 => ?_) (fun c_1 => ?_)
  ·
    have n_1 : gNe (e_tl.toInt) (0) := g5_ne (a := e_tl.toInt) (b := 0) rfl (by decide +kernel) c_1
    have i_1 : e_tl.toInt ≥ 1 := by have z := g5_ne (a := e_tl.toInt) (b := 0) (by rfl) (by decide +kernel) c_1; omega
    refine lv_iconst (v := 0) hx hb dX11_row_14 (by decide +kernel) ?_
    refine lv_istore_n (lv' := [(1, .int 0), (0, .ref a_o)]) hx hb dX11_row_15 rfl hl (by decide +kernel) rfl ?_
    clear hl
    intro ls hl
    refine lv_iconst (v := 0) hx hb dX11_row_16 (by decide +kernel) ?_
    refine lv_istore_n (lv' := [(2, .int 0), (1, .int 0), (0, .ref a_o)]) hx hb dX11_row_17 rfl hl (by decide +kernel) rfl ?_
    clear hl
    intro ls hl
    refine W.eq (g2 := F0 m 18 ls []) rfl ?_
    refine lv_iconst (v := 0) hx hb dX11_row_18 (by decide +kernel) ?_
    refine lv_istore_n (lv' := [(3, .int 0), (2, .int 0), (1, .int 0), (0, .ref a_o)]) hx hb dX11_row_19 rfl hl (by decide +kernel) rfl ?_
    clear hl
    intro ls hl
    refine g5_loop (α := (Int32) × (Int32) × (Int32) × (Nat → Int32) × (Nat → Int64)) (fun (q : (Int32) × (Int32) × (Int32) × (Nat → Int32) × (Nat → Int64)) (ls : Array Slot) (H : Heap) (locs : List Loc) => match q with | (k_a, k_b, k_c, k_f, k_bb) => lv_has ls 4 [(1, .int k_b), (2, .int k_c), (3, .int k_a), (0, .ref a_o)] ∧ va_P G.1 vwCl [(a_o, (oc11 a_h a_im a_ke a_k a_wa a_th a_ha a_wk a_r a_x e_tl e_fd e_fpl a_wd e_wn a_rf e_lr)), (a_rf, (arI G 5 f_rf)), (a_h, (oc1 e_wa e_le e_st e_fo e_lc a_l a_g a_b a_s a_p a_w e_gb a_bb)), (a_b, (oc6 5 24 a_bn e_b)), (a_bn, (arI G 120 k_f)), (a_bb, (arJ G 24 k_bb)), (a_x, (arI G 400 f_x))] H ∧ va_D A [(a_o, (oc11 a_h a_im a_ke a_k a_wa a_th a_ha a_wk a_r a_x e_tl e_fd e_fpl a_wd e_wn a_rf e_lr)), (a_rf, (arI G 5 f_rf)), (a_h, (oc1 e_wa e_le e_st e_fo e_lc a_l a_g a_b a_s a_p a_w e_gb a_bb)), (a_b, (oc6 5 24 a_bn e_b)), (a_bn, (arI G 120 k_f)), (a_bb, (arJ G 24 k_bb)), (a_x, (arI G 400 f_x))] ∧ va_S A s.heap H locs ∧ (0 ≤ k_a.toInt ∧ k_a.toInt ≤ 403) ∧ (0 ≤ k_b.toInt ∧ k_b.toInt ≤ 101) ∧ (0 ≤ k_c.toInt ∧ k_c.toInt ≤ 101) ∧ (k_a.toInt % 4 = 0) ∧ (k_a.toInt ≤ e_tl.toInt + 3) ∧ (k_b.toInt + k_c.toInt = k_a.toInt / 4) ∧ (k_b.toInt = rwC f_x e_tl.toInt f_ro (k_a.toInt / 4).toNat) ∧ (QB e_b k_f k_bb (rwS f_x e_tl.toInt f_ro (k_a.toInt / 4).toNat))) (fun (q : (Int32) × (Int32) × (Int32) × (Nat → Int32) × (Nat → Int64)) => match q with | (k_a, k_b, k_c, k_f, k_bb) => Int.toNat (404 - k_a.toInt)) (0, 0, 0, f_b, f_bb) ⟨lv_sub hl [2, 1, 0, 3] rfl, hP, hD, hS, ⟨by decide, by decide⟩, ⟨by decide, by decide⟩, ⟨by decide, by decide⟩, by decide, by have z0 : (0 : Int32).toInt = 0 := (by decide +kernel); omega, by decide, by rw [show ((0 : Int32).toInt / 4).toNat = 0 from by decide]; exact (show (0 : Int32).toInt = 0 by decide), e_hb⟩ ?_
    rintro ⟨k_a, k_b, k_c, k_f, k_bb⟩ ls H locs ⟨hl, hP, hD, hS, (i_2 : 0 ≤ k_a.toInt ∧ k_a.toInt ≤ 403), (i_3 : 0 ≤ k_b.toInt ∧ k_b.toInt ≤ 101), (i_4 : 0 ≤ k_c.toInt ∧ k_c.toInt ≤ 101), (i_5 : k_a.toInt % 4 = 0), (i_6 : k_a.toInt ≤ e_tl.toInt + 3), (i_7 : k_b.toInt + k_c.toInt = k_a.toInt / 4), (i_8 : k_b.toInt = rwC f_x e_tl.toInt f_ro (k_a.toInt / 4).toNat), (i_9 : QB e_b k_f k_bb (rwS f_x e_tl.toInt f_ro (k_a.toInt / 4).toNat))⟩ ih_20_10
    replace hl : lv_has ls 4 [(1, .int k_b), (2, .int k_c), (3, .int k_a), (0, .ref a_o)] := hl
    refine g5_rs [(a_o, (oc11 a_h a_im a_ke a_k a_wa a_th a_ha a_wk a_r a_x e_tl e_fd e_fpl a_wd e_wn a_rf e_lr)), (a_rf, (arI G 5 f_rf)), (a_h, (oc1 e_wa e_le e_st e_fo e_lc a_l a_g a_b a_s a_p a_w e_gb a_bb)), (a_b, (oc6 5 24 a_bn e_b)), (a_bn, (arI G 120 k_f)), (a_bb, (arJ G 24 k_bb)), (a_x, (arI G 400 f_x))] hP hD ?_
    clear hP hD
    intro hP hD
    refine lv_iload_n hx hb dX11_row_20 rfl (lv_at hl 2 rfl) ?_
    refine lv_aload_n hx hb dX11_row_21 rfl (lv_at hl 3 rfl) ?_
    refine va_get (D := G.1) (ci := 11) (v := .int e_tl) (C := RX11) (T := TX11) (N := 17) hx hb hts inG_X11 hown hK hP 0 rfl rfl 10 (by decide +kernel) (hts _ fl_X11_74) (fun _ h9 => h9) rfl dX11_row_22 ?_
    refine lv_icmp_ge (tgt := 51) hx hb dX11_row_25 (by decide +kernel) (fun c_11 => ?_) (fun c_11 => ?_)
    ·
      have i_11 : k_a.toInt ≥ e_tl.toInt := g5_ge (a := k_a.toInt) (b := e_tl.toInt) rfl rfl c_11
      refine lv_aload_n hx hb dX11_row_51 rfl (lv_at hl 3 rfl) ?_
      refine lv_iload_n hx hb dX11_row_52 rfl (lv_at hl 1 rfl) ?_
      refine va_put (D := G.1) (ci := 11) (v := .int k_c) (ty := .int) (C := RX11) (T := TX11) (N := 17) hx hb hts inG_X11 tyX11 tyX11_ok nmX11 hown hK hP hD hS 0 rfl rfl 11 (by decide +kernel) (hts _ fl_X11_78) (fun _ h9 => h9) rfl (by decide +kernel) rfl rfl (Nat.le_of_ble_eq_true rfl) dX11_row_53 ?_
      clear hP hD hS
      intro H locs hP hD hS
      refine g5_rs [(a_o, (oc11 a_h a_im a_ke a_k a_wa a_th a_ha a_wk a_r a_x e_tl k_c e_fpl a_wd e_wn a_rf e_lr)), (a_rf, (arI G 5 f_rf)), (a_h, (oc1 e_wa e_le e_st e_fo e_lc a_l a_g a_b a_s a_p a_w e_gb a_bb)), (a_b, (oc6 5 24 a_bn e_b)), (a_bn, (arI G 120 k_f)), (a_bb, (arJ G 24 k_bb)), (a_x, (arI G 400 f_x))] hP hD ?_
      clear hP hD
      intro hP hD
      refine lv_aload_n hx hb dX11_row_56 rfl (lv_at hl 3 rfl) ?_
      refine W.eq (g2 := F0 m 57 ls [.ref a_o]) rfl ?_
      refine lv_iconst (v := 0) hx hb dX11_row_57 (by decide +kernel) ?_
      refine va_put (D := G.1) (ci := 11) (v := .int 0) (ty := .int) (C := RX11) (T := TX11) (N := 17) hx hb hts inG_X11 tyX11 tyX11_ok nmX11 hown hK hP hD hS 0 rfl rfl 10 (by decide +kernel) (hts _ fl_X11_74) (fun _ h9 => h9) rfl (by decide +kernel) rfl rfl (Nat.le_of_ble_eq_true rfl) dX11_row_58 ?_
      clear hP hD hS
      intro H locs hP hD hS
      refine g5_rs [(a_o, (oc11 a_h a_im a_ke a_k a_wa a_th a_ha a_wk a_r a_x 0 k_c e_fpl a_wd e_wn a_rf e_lr)), (a_rf, (arI G 5 f_rf)), (a_h, (oc1 e_wa e_le e_st e_fo e_lc a_l a_g a_b a_s a_p a_w e_gb a_bb)), (a_b, (oc6 5 24 a_bn e_b)), (a_bn, (arI G 120 k_f)), (a_bb, (arJ G 24 k_bb)), (a_x, (arI G 400 f_x))] hP hD ?_
      clear hP hD
      intro hP hD
      refine lv_aload_n hx hb dX11_row_61 rfl (lv_at hl 3 rfl) ?_
      refine lv_iload_n hx hb dX11_row_62 rfl (lv_at hl 0 rfl) ?_
      obtain ⟨hPc, hDc, hFc⟩ := g5_sub3 (wc := [(a_o, (oc11 a_h a_im a_ke a_k a_wa a_th a_ha a_wk a_r a_x 0 k_c e_fpl a_wd e_wn a_rf e_lr))]) hP hD hS hA [0] (by decide +kernel) rfl
      refine va_calli (va_runV (As := [.int k_b]) (rest := []) ⟨hx, hb, hml, hown, hts⟩ (x_done l G a_o a_h a_im a_ke a_k a_wa a_th a_ha a_wk a_r a_x a_wd a_rf H.size 0 k_c e_fpl e_wn e_lr k_b ⟨by decide, by decide⟩ h_e_wn) (cwV 1 hts gV_X11_121 rfl rfl rfl hv_X11_done ⟨Nat.le_of_ble_eq_true rfl, Nat.le_of_ble_eq_true rfl⟩) (g5_preV hPc hK hDc hN hT hS hFc (ci := 11) (q0 := 0) rfl rfl) rfl rfl hl.1 rfl (lv_room (Nat.le_of_ble_eq_true rfl)) dX11_row_63 ⟨Nat.le_of_ble_eq_true rfl, Nat.le_of_ble_eq_true rfl⟩) hS (fun q _ h => hFc q h) hFc (fun r u t H locs ht hvm hw hB hz1 hk1 hS => ?_)
      obtain ⟨hP1, hD1⟩ := hB
      have hP1 := g5_ht ht hP1
      obtain ⟨y12, rfl⟩ := hw
      have hJ9 := va_join (wr := [(a_rf, (arI G 5 f_rf)), (a_h, (oc1 e_wa e_le e_st e_fo e_lc a_l a_g a_b a_s a_p a_w e_gb a_bb)), (a_b, (oc6 5 24 a_bn e_b)), (a_bn, (arI G 120 k_f)), (a_bb, (arJ G 24 k_bb)), (a_x, (arI G 400 f_x))]) hP hD [0] [1, 2, 3, 4, 5, 6] rfl rfl (by decide +kernel) (by decide +kernel) hk1 hFc hP1 hD1
      clear hP hD hPc hDc hFc ht hvm hz1 hk1 hP1 hD1
      obtain ⟨hP, hD⟩ := hJ9
      refine g5_rs [(a_rf, (arI G 5 f_rf)), (a_h, (oc1 e_wa e_le e_st e_fo e_lc a_l a_g a_b a_s a_p a_w e_gb a_bb)), (a_b, (oc6 5 24 a_bn e_b)), (a_bn, (arI G 120 k_f)), (a_bb, (arJ G 24 k_bb)), (a_x, (arI G 400 f_x)), (a_o, (oc11 a_h a_im a_ke a_k a_wa a_th a_ha a_wk a_r a_x 0 k_c e_fpl a_wd e_wn a_rf 0))] hP hD ?_
      clear hP hD
      intro hP hD
      refine g5_ti (v := k_b) y12 ?_
      refine W.eq (g2 := F0 m 66 ls [.int k_b]) rfl ?_
      exact W.iret (v := k_b) hx hb hr (fun t ht hW => ⟨⟨k_b, [(a_o, (oc11 a_h a_im a_ke a_k a_wa a_th a_ha a_wk a_r a_x 0 k_c e_fpl a_wd e_wn a_rf 0)), (a_rf, (arI G 5 f_rf)), (a_h, (oc1 e_wa e_le e_st e_fo e_lc a_l a_g a_b a_s a_p a_w e_gb a_bb)), (a_b, (oc6 5 24 a_bn e_b)), (a_bn, (arI G 120 k_f)), (a_bb, (arJ G 24 k_bb)), (a_x, (arI G 400 f_x))], rfl, ⟨k_b, 0, f_rf, 0, k_c, k_f, k_bb, ⟨by have zc_o_t : (0 : Int32).toInt = 0 := (by decide +kernel); omega, by have zc_o_t : (0 : Int32).toInt = 0 := (by decide +kernel); omega⟩, rfl, (row_0 (t := f_x) (td := e_tl) (fd := e_fd) (f := f_ro) (a := k_a) (c := k_b) (g := k_c) (by omega) (by omega) (by omega) (by omega) (by omega) i_8 (by omega)).1, by rw [← (row_0 (t := f_x) (td := e_tl) (fd := e_fd) (f := f_ro) (a := k_a) (c := k_b) (g := k_c) (by omega) (by omega) (by omega) (by omega) (by omega) i_8 (by omega)).2.1]; exact i_9, (row_0 (t := f_x) (td := e_tl) (fd := e_fd) (f := f_ro) (a := k_a) (c := k_b) (g := k_c) (by omega) (by omega) (by omega) (by omega) (by omega) i_8 (by omega)).2.2, rfl, rfl⟩, by rw [ht]; exact hP.sub [6, 0, 1, 2, 3, 4, 5] rfl, hD.sub [6, 0, 1, 2, 3, 4, 5] (by decide +kernel) rfl⟩, hS.F ht⟩) hS.2.2 dX11_row_66
    ·
      have i_11 : k_a.toInt < e_tl.toInt := g5_geN (a := k_a.toInt) (b := e_tl.toInt) rfl rfl c_11
      refine lv_aload_n hx hb dX11_row_28 rfl (lv_at hl 3 rfl) ?_
      refine lv_iload_n hx hb dX11_row_29 rfl (lv_at hl 2 rfl) ?_
      obtain ⟨hPc, hDc, hFc⟩ := g5_sub3 (wc := [(a_o, (oc11 a_h a_im a_ke a_k a_wa a_th a_ha a_wk a_r a_x e_tl e_fd e_fpl a_wd e_wn a_rf e_lr)), (a_h, (oc1 e_wa e_le e_st e_fo e_lc a_l a_g a_b a_s a_p a_w e_gb a_bb)), (a_b, (oc6 5 24 a_bn e_b)), (a_bn, (arI G 120 k_f)), (a_bb, (arJ G 24 k_bb)), (a_x, (arI G 400 f_x))]) hP hD hS hA [0, 2, 3, 4, 5, 6] (by decide +kernel) rfl
      refine va_calli (va_runV (As := [.int k_a]) (rest := []) ⟨hx, hb, hml, hown, hts⟩ (x_readStayX l G a_o a_h a_b a_bn a_bb a_x a_im a_ke a_k a_wa a_th a_ha a_wk a_r a_wd a_rf a_l a_g a_s a_p a_w H.size e_tl e_fd e_fpl e_wn e_lr e_le e_st e_fo e_lc e_b k_a e_wa e_gb k_f k_bb f_x (rwS f_x e_tl.toInt f_ro (k_a.toInt / 4).toNat) h_e_tl h_e_wn h_e_b ⟨by omega, by omega⟩ (hh_c e_hh (fun j hj => kp_rwS (by rw [e_hb.2.1]; exact e_hb.1.2) _ j (by omega))) (i_9) (e_tp)) (cwV 1 hts gV_X11_189 rfl rfl rfl hv_X11_readStay ⟨Nat.le_of_ble_eq_true rfl, Nat.le_of_ble_eq_true rfl⟩) (g5_preV hPc hK hDc hN hT hS hFc (ci := 11) (q0 := 0) rfl rfl) rfl rfl hl.1 rfl (lv_room (Nat.le_of_ble_eq_true rfl)) dX11_row_30 ⟨Nat.le_of_ble_eq_true rfl, Nat.le_of_ble_eq_true rfl⟩) hS (fun q _ h => hFc q h) hFc (fun r u t H locs ht hvm hw hB hz1 hk1 hS => ?_)
      obtain ⟨hP1, hD1⟩ := hB
      have hP1 := g5_ht ht hP1
      obtain ⟨z16, z17, z18, (i_13 : 0 ≤ z16.toInt ∧ z16.toInt ≤ 1), (i_14 : z16.toInt = cif (canQ f_x e_tl.toInt (rwS f_x e_tl.toInt f_ro (k_a.toInt / 4).toNat) k_a.toInt.toNat) 1 0), (i_15 : QB e_b z17 z18 (rw1 f_x e_tl.toInt (rwS f_x e_tl.toInt f_ro (k_a.toInt / 4).toNat) k_a.toInt.toNat)), y19, rfl⟩ := hw
      have hJ9 := va_join (wr := [(a_rf, (arI G 5 f_rf))]) hP hD [0, 2, 3, 4, 5, 6] [1] rfl rfl (by decide +kernel) (by decide +kernel) hk1 hFc hP1 hD1
      clear hP hD hPc hDc hFc ht hvm hz1 hk1 hP1 hD1
      obtain ⟨hP, hD⟩ := hJ9
      refine g5_rs [(a_rf, (arI G 5 f_rf)), (a_o, (oc11 a_h a_im a_ke a_k a_wa a_th a_ha a_wk a_r a_x e_tl e_fd e_fpl a_wd e_wn a_rf e_lr)), (a_h, (oc1 e_wa e_le e_st e_fo e_lc a_l a_g a_b a_s a_p a_w e_gb a_bb)), (a_b, (oc6 5 24 a_bn e_b)), (a_bn, (arI G 120 z17)), (a_bb, (arJ G 24 z18)), (a_x, (arI G 400 f_x))] hP hD ?_
      clear hP hD
      intro hP hD
      refine g5_ti (v := z16) y19 ?_
      refine lv_if_eq (tgt := 42) hx hb dX11_row_33 (by decide +kernel) (fun c_20 => ?_) (fun c_20 => ?_)
      ·
        have i_20 : z16.toInt = 0 := g5_eq (a := z16.toInt) (b := 0) rfl (by decide +kernel) c_20
        refine lv_iinc (v := (k_c + 1)) (lv' := [(2, .int (k_c + 1)), (1, .int k_b), (3, .int k_a), (0, .ref a_o)]) hx hb dX11_row_42 hl (k := 1) rfl rfl (by decide +kernel) rfl ?_
        clear hl
        intro ls hl
        have t_21 : (k_c + 1).toInt = k_c.toInt + 1 := g5_iadd (a := k_c.toInt) (b := 1) rfl (by decide +kernel) (by omega) (by omega)
        refine lv_iinc (v := (k_a + 4)) (lv' := [(3, .int (k_a + 4)), (2, .int (k_c + 1)), (1, .int k_b), (0, .ref a_o)]) hx hb dX11_row_45 hl (k := 2) rfl rfl (by decide +kernel) rfl ?_
        clear hl
        intro ls hl
        have t_22 : (k_a + 4).toInt = k_a.toInt + 4 := g5_iadd (a := k_a.toInt) (b := 4) rfl (by decide +kernel) (by omega) (by omega)
        refine lv_goto (tgt := 20) hx hb dX11_row_48 (by decide +kernel) ?_
        exact ih_20_10 ((k_a + 4), k_b, (k_c + 1), z17, z18) ls H locs (show Int.toNat (404 - (k_a + 4).toInt) < Int.toNat (404 - k_a.toInt) from g_up (show k_a.toInt < (k_a + 4).toInt by omega) (show k_a.toInt < 404 by omega)) ⟨lv_sub hl [2, 1, 0, 3] rfl, hP.sub [1, 0, 2, 3, 4, 5, 6] rfl, hD.sub [1, 0, 2, 3, 4, 5, 6] (by decide +kernel) rfl, hS, ⟨by omega, by omega⟩, i_3, ⟨by omega, by omega⟩, by omega, by omega, by omega, by rw [show ((k_a + 4).toInt / 4).toNat = (k_a.toInt / 4).toNat + 1 by omega, rwC_S (k := k_a.toInt.toNat) (by omega), ← i_8, ← i_14]; omega, by rw [show ((k_a + 4).toInt / 4).toNat = (k_a.toInt / 4).toNat + 1 by omega, rwS_S (k := k_a.toInt.toNat) (by omega)]; exact i_15⟩
      ·
        have n_20 : gNe (z16.toInt) (0) := g5_eqN (a := z16.toInt) (b := 0) rfl (by decide +kernel) c_20
        have i_20 : z16.toInt ≥ 1 := by have z := g5_eqN (a := z16.toInt) (b := 0) (by rfl) (by decide +kernel) c_20; omega
        refine lv_iinc (v := (k_b + 1)) (lv' := [(1, .int (k_b + 1)), (2, .int k_c), (3, .int k_a), (0, .ref a_o)]) hx hb dX11_row_36 hl (k := 0) rfl rfl (by decide +kernel) rfl ?_
        clear hl
        intro ls hl
        have t_23 : (k_b + 1).toInt = k_b.toInt + 1 := g5_iadd (a := k_b.toInt) (b := 1) rfl (by decide +kernel) (by omega) (by omega)
        refine lv_goto (tgt := 45) hx hb dX11_row_39 (by decide +kernel) ?_
        refine lv_iinc (v := (k_a + 4)) (lv' := [(3, .int (k_a + 4)), (1, .int (k_b + 1)), (2, .int k_c), (0, .ref a_o)]) hx hb dX11_row_45 hl (k := 2) rfl rfl (by decide +kernel) rfl ?_
        clear hl
        intro ls hl
        have t_24 : (k_a + 4).toInt = k_a.toInt + 4 := g5_iadd (a := k_a.toInt) (b := 4) rfl (by decide +kernel) (by omega) (by omega)
        refine lv_goto (tgt := 20) hx hb dX11_row_48 (by decide +kernel) ?_
        exact ih_20_10 ((k_a + 4), (k_b + 1), k_c, z17, z18) ls H locs (show Int.toNat (404 - (k_a + 4).toInt) < Int.toNat (404 - k_a.toInt) from g_up (show k_a.toInt < (k_a + 4).toInt by omega) (show k_a.toInt < 404 by omega)) ⟨lv_sub hl [1, 2, 0, 3] rfl, hP.sub [1, 0, 2, 3, 4, 5, 6] rfl, hD.sub [1, 0, 2, 3, 4, 5, 6] (by decide +kernel) rfl, hS, ⟨by omega, by omega⟩, ⟨by omega, by omega⟩, i_4, by omega, by omega, by omega, by rw [show ((k_a + 4).toInt / 4).toNat = (k_a.toInt / 4).toNat + 1 by omega, rwC_S (k := k_a.toInt.toNat) (by omega), ← i_8, ← i_14]; omega, by rw [show ((k_a + 4).toInt / 4).toNat = (k_a.toInt / 4).toNat + 1 by omega, rwS_S (k := k_a.toInt.toNat) (by omega)]; exact i_15⟩
  ·
    have i_1 : e_tl.toInt = 0 := g5_neN (a := e_tl.toInt) (b := 0) rfl (by decide +kernel) c_1
    refine lv_aload_n hx hb dX11_row_7 rfl (lv_at hl 0 rfl) ?_
    refine lv_bipush (v := (-6)) hx hb dX11_row_8 (by decide +kernel) ?_
    obtain ⟨hPc, hDc, hFc⟩ := g5_sub3 (wc := [(a_o, (oc11 a_h a_im a_ke a_k a_wa a_th a_ha a_wk a_r a_x e_tl e_fd e_fpl a_wd e_wn a_rf e_lr)), (a_rf, (arI G 5 f_rf))]) hP hD hS hA [0, 1] (by decide +kernel) rfl
    refine va_calli (va_runV (As := [.int (-6)]) (rest := []) ⟨hx, hb, hml, hown, hts⟩ (x_refuse6 l G a_o a_rf a_h a_im a_ke a_k a_wa a_th a_ha a_wk a_r a_x a_wd s.heap.size e_tl e_fd e_fpl e_wn e_lr f_rf h_e_tl h_e_wn) (cwV 1 hts gV_X11_104 rfl rfl rfl hv_X11_refuse ⟨Nat.le_of_ble_eq_true rfl, Nat.le_of_ble_eq_true rfl⟩) (g5_preV hPc hK hDc hN hT hS hFc (ci := 11) (q0 := 0) rfl rfl) rfl rfl hl.1 rfl (lv_room (Nat.le_of_ble_eq_true rfl)) dX11_row_10 ⟨Nat.le_of_ble_eq_true rfl, Nat.le_of_ble_eq_true rfl⟩) hS (fun q _ h => hFc q h) hFc (fun r u t H locs ht hvm hw hB hz1 hk1 hS => ?_)
    obtain ⟨hP1, hD1⟩ := hB
    have hP1 := g5_ht ht hP1
    obtain ⟨z25, rfl, rfl⟩ := hw
    have hJ9 := va_join (wr := [(a_h, (oc1 e_wa e_le e_st e_fo e_lc a_l a_g a_b a_s a_p a_w e_gb a_bb)), (a_b, (oc6 5 24 a_bn e_b)), (a_bn, (arI G 120 f_b)), (a_bb, (arJ G 24 f_bb)), (a_x, (arI G 400 f_x))]) hP hD [0, 1] [2, 3, 4, 5, 6] rfl rfl (by decide +kernel) (by decide +kernel) hk1 hFc hP1 hD1
    clear hP hD hPc hDc hFc ht hvm hz1 hk1 hP1 hD1
    obtain ⟨hP, hD⟩ := hJ9
    refine g5_rs [(a_h, (oc1 e_wa e_le e_st e_fo e_lc a_l a_g a_b a_s a_p a_w e_gb a_bb)), (a_b, (oc6 5 24 a_bn e_b)), (a_bn, (arI G 120 f_b)), (a_bb, (arJ G 24 f_bb)), (a_x, (arI G 400 f_x)), (a_o, (oc11 a_h a_im a_ke a_k a_wa a_th a_ha a_wk a_r a_x e_tl e_fd e_fpl a_wd e_wn a_rf (-6))), (a_rf, (arI G 5 z25))] hP hD ?_
    clear hP hD
    intro hP hD
    exact W.iret (v := (-6)) hx hb hr (fun t ht hW => ⟨⟨(-6), [(a_o, (oc11 a_h a_im a_ke a_k a_wa a_th a_ha a_wk a_r a_x e_tl e_fd e_fpl a_wd e_wn a_rf (-6))), (a_rf, (arI G 5 z25)), (a_h, (oc1 e_wa e_le e_st e_fo e_lc a_l a_g a_b a_s a_p a_w e_gb a_bb)), (a_b, (oc6 5 24 a_bn e_b)), (a_bn, (arI G 120 f_b)), (a_bb, (arJ G 24 f_bb)), (a_x, (arI G 400 f_x))], rfl, ⟨(-6), (-6), z25, e_tl, e_fd, f_b, f_bb, h_e_tl, g5_toc (n := 0) (by decide +kernel) (by omega), (row_6 (t := f_x) (td := e_tl) (fd := e_fd) (f := f_ro) (by omega)).1.symm, by rw [(row_6 (t := f_x) (td := e_tl) (fd := e_fd) (f := f_ro) (by omega)).2.1]; exact e_hb, (row_6 (t := f_x) (td := e_tl) (fd := e_fd) (f := f_ro) (by omega)).2.2.symm, rfl, rfl⟩, by rw [ht]; exact hP.sub [5, 6, 0, 1, 2, 3, 4] rfl, hD.sub [5, 6, 0, 1, 2, 3, 4] (by decide +kernel) rfl⟩, hS.F ht⟩) hS.2.2 dX11_row_13
set_option maxHeartbeats 4000000 in
set_option maxRecDepth 100000 in
theorem x_sightingX (l : Launch) (G : g5_G) (a_o a_rf a_h a_s a_sn a_im a_ke a_k a_wa a_th a_ha a_wk a_r a_x a_wd a_l a_g a_b a_p a_w a_bb : Nat) (sz : Nat) (e_tl : Int32) (e_fd : Int32) (e_fpl : Int32) (e_wn : Int32) (e_lr : Int32) (e_le : Int32) (e_st : Int32) (e_fo : Int32) (e_lc : Int32) (e_s : Int32) (p_c : Int32) (p_w : Int32) (p_h : Int32) (p_s : Int32) (e_wa : Int64) (e_gb : Int64) (f_rf : Nat → Int32) (f_s : Nat → Int32) (f_ro : Nat → Int32) (h_e_tl : 0 ≤ e_tl.toInt ∧ e_tl.toInt ≤ 400) (h_e_wn : 0 ≤ e_wn.toInt ∧ e_wn.toInt ≤ 1) (h_e_s : 0 ≤ e_s.toInt ∧ e_s.toInt ≤ 10) (e_sh : ∀ r : Int, 0 ≤ r → r < e_s.toInt → 0 ≤ (tget f_s e_s.toInt 4 r (3 : Int32).toInt).toInt ∧ (tget f_s e_s.toInt 4 r (3 : Int32).toInt).toInt ≤ 1) (e_s5 : snS f_s e_s.toInt e_s.toInt.toNat ≤ 5) (e_hs : QS e_s f_s f_ro) : Met l yX11_sighting (wsG yX11_sighting cX11_sighting 6 (some .int)) ({ frames := 3, cells := 0, slots := 0, locals := 68 }) (va_Pc [.ref a_o, .int p_c, .int p_w, .int p_h, .int p_s] (g5_P G [(a_o, (oc11 a_h a_im a_ke a_k a_wa a_th a_ha a_wk a_r a_x e_tl e_fd e_fpl a_wd e_wn a_rf e_lr)), (a_rf, (arI G 5 f_rf)), (a_h, (oc1 e_wa e_le e_st e_fo e_lc a_l a_g a_b a_s a_p a_w e_gb a_bb)), (a_s, (oc6 10 4 a_sn e_s)), (a_sn, (arI G 40 f_s))] sz)) (va_Qi (fun (r : Int32) (u : va_W) => (∃ (o_r : Int32) (o_lr : Int32) (o_rf : Nat → Int32) (o_n : Int32) (o_f : Nat → Int32), (0 ≤ o_n.toInt ∧ o_n.toInt ≤ 10) ∧ (∀ r : Int, 0 ≤ r → r < o_n.toInt → 0 ≤ (tget o_f o_n.toInt 4 r (3 : Int32).toInt).toInt ∧ (tget o_f o_n.toInt 4 r (3 : Int32).toInt).toInt ≤ 1) ∧ (snS o_f o_n.toInt o_n.toInt.toNat ≤ 5) ∧ (o_r = asight f_ro p_c p_w p_h p_s) ∧ (QS o_n o_f (ssight f_ro p_c p_w p_h p_s)) ∧ (r = o_r) ∧ (u = [(a_o, (oc11 a_h a_im a_ke a_k a_wa a_th a_ha a_wk a_r a_x e_tl e_fd e_fpl a_wd e_wn a_rf o_lr)), (a_rf, (arI G 5 o_rf)), (a_h, (oc1 e_wa e_le e_st e_fo e_lc a_l a_g a_b a_s a_p a_w e_gb a_bb)), (a_s, (oc6 10 4 a_sn o_n)), (a_sn, (arI G 40 o_f))]))) (g5_B G (va_A [(a_o, (oc11 a_h a_im a_ke a_k a_wa a_th a_ha a_wk a_r a_x e_tl e_fd e_fpl a_wd e_wn a_rf e_lr)), (a_rf, (arI G 5 f_rf)), (a_h, (oc1 e_wa e_le e_st e_fo e_lc a_l a_g a_b a_s a_p a_w e_gb a_bb)), (a_s, (oc6 10 4 a_sn e_s)), (a_sn, (arI G 40 f_s))] sz)) (va_A [(a_o, (oc11 a_h a_im a_ke a_k a_wa a_th a_ha a_wk a_r a_x e_tl e_fd e_fpl a_wd e_wn a_rf e_lr)), (a_rf, (arI G 5 f_rf)), (a_h, (oc1 e_wa e_le e_st e_fo e_lc a_l a_g a_b a_s a_p a_w e_gb a_bb)), (a_s, (oc6 10 4 a_sn e_s)), (a_sn, (arI G 40 f_s))] sz)) 0 0 (va_A [(a_o, (oc11 a_h a_im a_ke a_k a_wa a_th a_ha a_wk a_r a_x e_tl e_fd e_fpl a_wd e_wn a_rf e_lr)), (a_rf, (arI G 5 f_rf)), (a_h, (oc1 e_wa e_le e_st e_fo e_lc a_l a_g a_b a_s a_p a_w e_gb a_bb)), (a_s, (oc6 10 4 a_sn e_s)), (a_sn, (arI G 40 f_s))] sz) := by
  refine Met.ofW (cc := cX11_sighting) (maxL := 6) (ret := (some .int)) (by decide +kernel) rfl ?_
  intro p e s m args below meth c s₁ B hml hv
  obtain ⟨rfl, hsz, hP, hK, hD0, hN, hT⟩ := hv
  have hx := B.exec
  have hb := B.bytes
  have hr := B.returns
  have hts : ∀ w ∈ tblG, w.before _ s = true := fun w h => atoms_spec (ws := (wsG yX11_sighting cX11_sighting 6 (some .int))) B.pre w (List.mem_cons_of_mem _ h)
  have hown : s.vm.findClass RX11 = some m.cls := findClass_of_methodNamed B.named
  have hlocks := B.notSynchronized
  subst hsz
  have hD := hD0.self (sz := s.heap.size)
  generalize hAe : va_A [(a_o, (oc11 a_h a_im a_ke a_k a_wa a_th a_ha a_wk a_r a_x e_tl e_fd e_fpl a_wd e_wn a_rf e_lr)), (a_rf, (arI G 5 f_rf)), (a_h, (oc1 e_wa e_le e_st e_fo e_lc a_l a_g a_b a_s a_p a_w e_gb a_bb)), (a_s, (oc6 10 4 a_sn e_s)), (a_sn, (arI G 40 f_s))] s.heap.size = A at hD hT ⊢
  have hA : ∀ q : Nat, s.heap.size ≤ q → A q := fun q h => by rw [← hAe]; exact Or.inr h
  have hS : va_S A s.heap s.heap [] := va_S.rf
  replace hP : va_P G.1 vwCl [(a_o, (oc11 a_h a_im a_ke a_k a_wa a_th a_ha a_wk a_r a_x e_tl e_fd e_fpl a_wd e_wn a_rf e_lr)), (a_rf, (arI G 5 f_rf)), (a_h, (oc1 e_wa e_le e_st e_fo e_lc a_l a_g a_b a_s a_p a_w e_gb a_bb)), (a_s, (oc6 10 4 a_sn e_s)), (a_sn, (arI G 40 f_s))] s.heap := hP
  have hl := lv_entry ([.ref a_o, .int p_c, .int p_w, .int p_h, .int p_s]) (n := 6) (Nat.le_of_ble_eq_true rfl)
  rw [lg_entry_eq]
  generalize (lg_sl ([.ref a_o, .int p_c, .int p_w, .int p_h, .int p_s]) ++ List.replicate (6 - (lg_sl ([.ref a_o, .int p_c, .int p_w, .int p_h, .int p_s])).length) Slot.unset).toArray = ls at hl ⊢
  replace hl : lv_has ls 6 [(0, .ref a_o), (1, .int p_c), (2, .int p_w), (3, .int p_h), (4, .int p_s)] := hl
  refine lv_iload_n hx hb dX11_sighting_0 rfl (lv_at hl 1 rfl) ?_
  refine lv_iload_n hx hb dX11_sighting_1 rfl (lv_at hl 2 rfl) ?_
  refine lv_iload_n hx hb dX11_sighting_2 rfl (lv_at hl 3 rfl) ?_
  obtain ⟨hPc, hDc, hFc⟩ := g5_sub3 (wc := []) hP hD hS hA [] (by decide +kernel) rfl
  refine va_calli (va_runS (As := [.int p_c, .int p_w, .int p_h]) (rest := []) ⟨hx, hb, hml, hown, hts⟩ (x_isLookX l G s.heap.size p_c p_w p_h) (va_cwS 3 hts gS_X11_207 rfl rfl rfl hs_X11_isLook ⟨Nat.le_of_ble_eq_true rfl, Nat.le_of_ble_eq_true rfl⟩) (g5_preS hPc hK hDc hN hT hS hFc) rfl rfl hl.1 rfl (lv_room (Nat.le_of_ble_eq_true rfl)) dX11_sighting_3 ⟨Nat.le_of_ble_eq_true rfl, Nat.le_of_ble_eq_true rfl⟩) hS (fun q _ h => hFc q h) hFc (fun r u t H locs ht hvm hw hB hz1 hk1 hS => ?_)
  obtain ⟨hP1, hD1⟩ := hB
  have hP1 := g5_ht ht hP1
  rcases hw with ⟨(i_1 : okL p_c p_w p_h), (i_2 : 0 ≤ p_c.toInt ∧ p_c.toInt ≤ 63), (i_3 : 0 ≤ p_w.toInt ∧ p_w.toInt ≤ 3), (i_4 : 0 ≤ p_h.toInt ∧ p_h.toInt ≤ 23), rfl, rfl⟩ | ⟨(i_5 : ¬ okL p_c p_w p_h), rfl, rfl⟩
  ·
    have hJ9 := g5_same hP hk1
    clear hP hPc hDc hFc ht hvm hz1 hk1 hP1 hD1
    have hP := hJ9
    clear hJ9
    refine lv_if_eq (tgt := 17) hx hb dX11_sighting_6 (by decide +kernel) (fun c_6 => ?_) (fun c_6 => ?_)
    ·
      exact absurd c_6 (by decide +kernel)
    ·
      refine lv_iload hx hb dX11_sighting_9 (lv_at hl 4 rfl) ?_
      obtain ⟨hPc, hDc, hFc⟩ := g5_sub3 (wc := []) hP hD hS hA [] (by decide +kernel) rfl
      refine va_calli (va_runS (As := [.int p_s]) (rest := []) ⟨hx, hb, hml, hown, hts⟩ (x_isFlagX l G H.size p_s) (va_cwS 1 hts gS_X11_101 rfl rfl rfl hs_X11_isFlag ⟨Nat.le_of_ble_eq_true rfl, Nat.le_of_ble_eq_true rfl⟩) (g5_preS hPc hK hDc hN hT hS hFc) rfl rfl hl.1 rfl (lv_room (Nat.le_of_ble_eq_true rfl)) dX11_sighting_11 ⟨Nat.le_of_ble_eq_true rfl, Nat.le_of_ble_eq_true rfl⟩) hS (fun q _ h => hFc q h) hFc (fun r u t H locs ht hvm hw hB hz1 hk1 hS => ?_)
      obtain ⟨hP1, hD1⟩ := hB
      have hP1 := g5_ht ht hP1
      rcases hw with ⟨(i_7 : 0 ≤ p_s.toInt ∧ p_s.toInt ≤ 1), rfl, rfl⟩ | ⟨(i_8 : p_s.toInt < 0 ∨ 1 < p_s.toInt), rfl, rfl⟩
      ·
        have hJ9 := g5_same hP hk1
        clear hP hPc hDc hFc ht hvm hz1 hk1 hP1 hD1
        have hP := hJ9
        clear hJ9
        refine lv_if_ne (tgt := 23) hx hb dX11_sighting_14 (by decide +kernel) (fun c_9 => ?_) (fun c_9 => ?_)
        ·
          refine lv_aload_n hx hb dX11_sighting_23 rfl (lv_at hl 0 rfl) ?_
          refine va_get (D := G.1) (ci := 11) (v := .ref a_h) (C := RX11) (T := TX11) (N := 17) hx hb hts inG_X11 hown hK hP 0 rfl rfl 0 (by decide +kernel) (hts _ fl_X11_12) (fun _ h9 => h9) rfl dX11_sighting_24 ?_
          refine va_get (D := G.1) (ci := 1) (v := .ref a_s) (C := RX1) (T := TX1) (N := 13) hx hb hts inG_X1 hown hK hP 2 rfl rfl 8 (by decide +kernel) (hts _ fl_X11_261) (fun _ h9 => h9) rfl dX11_sighting_27 ?_
          obtain ⟨hPc, hDc, hFc⟩ := g5_sub3 (wc := [(a_s, (oc6 10 4 a_sn e_s))]) hP hD hS hA [3] (by decide +kernel) rfl
          refine va_calli (va_runV (As := []) (rest := []) ⟨hx, hb, hml, hown, hts⟩ (t_isFull_S l G a_s a_sn H.size e_s h_e_s) (cwV 0 hts gV_X11_140 rfl rfl rfl hv_X6_isFull ⟨Nat.le_of_ble_eq_true rfl, Nat.le_of_ble_eq_true rfl⟩) (g5_preV hPc hK hDc hN hT hS hFc (ci := 6) (q0 := 0) rfl rfl) rfl rfl hl.1 rfl (lv_room (Nat.le_of_ble_eq_true rfl)) dX11_sighting_30 ⟨Nat.le_of_ble_eq_true rfl, Nat.le_of_ble_eq_true rfl⟩) hS (fun q _ h => hFc q h) hFc (fun r u t H locs ht hvm hw hB hz1 hk1 hS => ?_)
          obtain ⟨hP1, hD1⟩ := hB
          have hP1 := g5_ht ht hP1
          rcases hw with ⟨(i_10 : e_s.toInt = 10), rfl, rfl⟩ | ⟨(i_11 : e_s.toInt < 10), rfl, rfl⟩
          ·
            have hJ9 := va_join (wr := [(a_o, (oc11 a_h a_im a_ke a_k a_wa a_th a_ha a_wk a_r a_x e_tl e_fd e_fpl a_wd e_wn a_rf e_lr)), (a_rf, (arI G 5 f_rf)), (a_h, (oc1 e_wa e_le e_st e_fo e_lc a_l a_g a_b a_s a_p a_w e_gb a_bb)), (a_sn, (arI G 40 f_s))]) hP hD [3] [0, 1, 2, 4] rfl rfl (by decide +kernel) (by decide +kernel) hk1 hFc hP1 hD1
            clear hP hD hPc hDc hFc ht hvm hz1 hk1 hP1 hD1
            obtain ⟨hP, hD⟩ := hJ9
            refine g5_rs [(a_o, (oc11 a_h a_im a_ke a_k a_wa a_th a_ha a_wk a_r a_x e_tl e_fd e_fpl a_wd e_wn a_rf e_lr)), (a_rf, (arI G 5 f_rf)), (a_h, (oc1 e_wa e_le e_st e_fo e_lc a_l a_g a_b a_s a_p a_w e_gb a_bb)), (a_sn, (arI G 40 f_s)), (a_s, (oc6 10 4 a_sn e_s))] hP hD ?_
            clear hP hD
            intro hP hD
            refine lv_if_ne (tgt := 53) hx hb dX11_sighting_33 (by decide +kernel) (fun c_12 => ?_) (fun c_12 => ?_)
            ·
              refine lv_aload_n hx hb dX11_sighting_53 rfl (lv_at hl 0 rfl) ?_
              refine lv_bipush (v := (-5)) hx hb dX11_sighting_54 (by decide +kernel) ?_
              obtain ⟨hPc, hDc, hFc⟩ := g5_sub3 (wc := [(a_o, (oc11 a_h a_im a_ke a_k a_wa a_th a_ha a_wk a_r a_x e_tl e_fd e_fpl a_wd e_wn a_rf e_lr)), (a_rf, (arI G 5 f_rf))]) hP hD hS hA [0, 1] (by decide +kernel) rfl
              refine va_calli (va_runV (As := [.int (-5)]) (rest := []) ⟨hx, hb, hml, hown, hts⟩ (x_refuse5 l G a_o a_rf a_h a_im a_ke a_k a_wa a_th a_ha a_wk a_r a_x a_wd H.size e_tl e_fd e_fpl e_wn e_lr f_rf h_e_tl h_e_wn) (cwV 1 hts gV_X11_104 rfl rfl rfl hv_X11_refuse ⟨Nat.le_of_ble_eq_true rfl, Nat.le_of_ble_eq_true rfl⟩) (g5_preV hPc hK hDc hN hT hS hFc (ci := 11) (q0 := 0) rfl rfl) rfl rfl hl.1 rfl (lv_room (Nat.le_of_ble_eq_true rfl)) dX11_sighting_56 ⟨Nat.le_of_ble_eq_true rfl, Nat.le_of_ble_eq_true rfl⟩) hS (fun q _ h => hFc q h) hFc (fun r u t H locs ht hvm hw hB hz1 hk1 hS => ?_)
              obtain ⟨hP1, hD1⟩ := hB
              have hP1 := g5_ht ht hP1
              obtain ⟨z13, rfl, rfl⟩ := hw
              have hJ9 := va_join (wr := [(a_h, (oc1 e_wa e_le e_st e_fo e_lc a_l a_g a_b a_s a_p a_w e_gb a_bb)), (a_sn, (arI G 40 f_s)), (a_s, (oc6 10 4 a_sn e_s))]) hP hD [0, 1] [2, 3, 4] rfl rfl (by decide +kernel) (by decide +kernel) hk1 hFc hP1 hD1
              clear hP hD hPc hDc hFc ht hvm hz1 hk1 hP1 hD1
              obtain ⟨hP, hD⟩ := hJ9
              refine g5_rs [(a_h, (oc1 e_wa e_le e_st e_fo e_lc a_l a_g a_b a_s a_p a_w e_gb a_bb)), (a_sn, (arI G 40 f_s)), (a_s, (oc6 10 4 a_sn e_s)), (a_o, (oc11 a_h a_im a_ke a_k a_wa a_th a_ha a_wk a_r a_x e_tl e_fd e_fpl a_wd e_wn a_rf (-5))), (a_rf, (arI G 5 z13))] hP hD ?_
              clear hP hD
              intro hP hD
              exact W.iret (v := (-5)) hx hb hr (fun t ht hW => ⟨⟨(-5), [(a_o, (oc11 a_h a_im a_ke a_k a_wa a_th a_ha a_wk a_r a_x e_tl e_fd e_fpl a_wd e_wn a_rf (-5))), (a_rf, (arI G 5 z13)), (a_h, (oc1 e_wa e_le e_st e_fo e_lc a_l a_g a_b a_s a_p a_w e_gb a_bb)), (a_s, (oc6 10 4 a_sn e_s)), (a_sn, (arI G 40 f_s))], rfl, ⟨(-5), (-5), z13, e_s, f_s, h_e_s, e_sh, e_s5, (sight_5 (f := f_ro) (c := p_c) (w := p_w) (h := p_h) (s := p_s) ⟨i_1, ⟨by omega, by omega⟩⟩ (rm_n1 e_hs (by omega))).1.symm, by rw [(sight_5 (f := f_ro) (c := p_c) (w := p_w) (h := p_h) (s := p_s) ⟨i_1, ⟨by omega, by omega⟩⟩ (rm_n1 e_hs (by omega))).2]; exact e_hs, rfl, rfl⟩, by rw [ht]; exact hP.sub [3, 4, 0, 2, 1] rfl, hD.sub [3, 4, 0, 2, 1] (by decide +kernel) rfl⟩, hS.F ht⟩) hS.2.2 dX11_sighting_59
            ·
              exact absurd c_12 (by decide +kernel)
          ·
            have hJ9 := va_join (wr := [(a_o, (oc11 a_h a_im a_ke a_k a_wa a_th a_ha a_wk a_r a_x e_tl e_fd e_fpl a_wd e_wn a_rf e_lr)), (a_rf, (arI G 5 f_rf)), (a_h, (oc1 e_wa e_le e_st e_fo e_lc a_l a_g a_b a_s a_p a_w e_gb a_bb)), (a_sn, (arI G 40 f_s))]) hP hD [3] [0, 1, 2, 4] rfl rfl (by decide +kernel) (by decide +kernel) hk1 hFc hP1 hD1
            clear hP hD hPc hDc hFc ht hvm hz1 hk1 hP1 hD1
            obtain ⟨hP, hD⟩ := hJ9
            refine g5_rs [(a_o, (oc11 a_h a_im a_ke a_k a_wa a_th a_ha a_wk a_r a_x e_tl e_fd e_fpl a_wd e_wn a_rf e_lr)), (a_rf, (arI G 5 f_rf)), (a_h, (oc1 e_wa e_le e_st e_fo e_lc a_l a_g a_b a_s a_p a_w e_gb a_bb)), (a_sn, (arI G 40 f_s)), (a_s, (oc6 10 4 a_sn e_s))] hP hD ?_
            clear hP hD
            intro hP hD
            refine lv_if_ne (tgt := 53) hx hb dX11_sighting_33 (by decide +kernel) (fun c_14 => ?_) (fun c_14 => ?_)
            ·
              exact absurd c_14 (by decide +kernel)
            ·
              refine lv_iload hx hb dX11_sighting_36 (lv_at hl 4 rfl) ?_
              refine lv_iconst (v := 1) hx hb dX11_sighting_38 (by decide +kernel) ?_
              refine lv_icmp_ne (tgt := 60) hx hb dX11_sighting_39 (by decide +kernel) (fun c_15 => ?_) (fun c_15 => ?_)
              ·
                have n_15 : gNe (p_s.toInt) (1) := g5_ne (a := p_s.toInt) (b := 1) rfl (by decide +kernel) c_15
                have i_15 : p_s.toInt ≤ 0 := by have z := g5_ne (a := p_s.toInt) (b := 1) (by rfl) (by decide +kernel) c_15; omega
                refine lv_aload_n hx hb dX11_sighting_60 rfl (lv_at hl 0 rfl) ?_
                refine va_get (D := G.1) (ci := 11) (v := .ref a_h) (C := RX11) (T := TX11) (N := 17) hx hb hts inG_X11 hown hK hP 0 rfl rfl 0 (by decide +kernel) (hts _ fl_X11_12) (fun _ h9 => h9) rfl dX11_sighting_61 ?_
                refine va_get (D := G.1) (ci := 1) (v := .ref a_s) (C := RX1) (T := TX1) (N := 13) hx hb hts inG_X1 hown hK hP 2 rfl rfl 8 (by decide +kernel) (hts _ fl_X11_261) (fun _ h9 => h9) rfl dX11_sighting_64 ?_
                refine lv_iconst (v := 0) hx hb dX11_sighting_67 (by decide +kernel) ?_
                refine W.eq (g2 := F0 m 68 ls [.int 0, .ref a_s]) rfl ?_
                obtain ⟨hPc, hDc, hFc⟩ := g5_sub3 (wc := [(a_s, (oc6 10 4 a_sn e_s)), (a_sn, (arI G 40 f_s))]) hP hD hS hA [4, 3] (by decide +kernel) rfl
                refine va_calli (va_runV (As := [.int 0]) (rest := []) ⟨hx, hb, hml, hown, hts⟩ (t_open_S l G a_s a_sn H.size e_s 0 f_s h_e_s) (cwV 1 hts gV_X11_146 rfl rfl rfl hv_X6_open ⟨Nat.le_of_ble_eq_true rfl, Nat.le_of_ble_eq_true rfl⟩) (g5_preV hPc hK hDc hN hT hS hFc (ci := 6) (q0 := 0) rfl rfl) rfl rfl hl.1 rfl (lv_room (Nat.le_of_ble_eq_true rfl)) dX11_sighting_68 ⟨Nat.le_of_ble_eq_true rfl, Nat.le_of_ble_eq_true rfl⟩) hS (fun q _ h => hFc q h) hFc (fun r u t H locs ht hvm hw hB hz1 hk1 hS => ?_)
                obtain ⟨hP1, hD1⟩ := hB
                have hP1 := g5_ht ht hP1
                rcases hw with ⟨(i_16 : e_s.toInt = 10), rfl, rfl⟩ | ⟨z20, (i_17 : e_s.toInt < 10), (i_18 : (e_s + 1).toInt = e_s.toInt + 1), (i_19 : z20 = tfil f_s e_s.toInt 4 (0 : Int32) 4), y21, rfl⟩
                ·
                  omega
                ·
                  have hJ9 := va_join (wr := [(a_o, (oc11 a_h a_im a_ke a_k a_wa a_th a_ha a_wk a_r a_x e_tl e_fd e_fpl a_wd e_wn a_rf e_lr)), (a_rf, (arI G 5 f_rf)), (a_h, (oc1 e_wa e_le e_st e_fo e_lc a_l a_g a_b a_s a_p a_w e_gb a_bb))]) hP hD [4, 3] [0, 1, 2] rfl rfl (by decide +kernel) (by decide +kernel) hk1 hFc hP1 hD1
                  clear hP hD hPc hDc hFc ht hvm hz1 hk1 hP1 hD1
                  obtain ⟨hP, hD⟩ := hJ9
                  refine g5_rs [(a_o, (oc11 a_h a_im a_ke a_k a_wa a_th a_ha a_wk a_r a_x e_tl e_fd e_fpl a_wd e_wn a_rf e_lr)), (a_rf, (arI G 5 f_rf)), (a_h, (oc1 e_wa e_le e_st e_fo e_lc a_l a_g a_b a_s a_p a_w e_gb a_bb)), (a_s, (oc6 10 4 a_sn (e_s + 1))), (a_sn, (arI G 40 z20))] hP hD ?_
                  clear hP hD
                  intro hP hD
                  refine g5_ti (v := e_s) y21 ?_
                  refine lv_istore (lv' := [(5, .int e_s), (0, .ref a_o), (1, .int p_c), (2, .int p_w), (3, .int p_h), (4, .int p_s)]) hx hb dX11_sighting_71 hl (by decide +kernel) rfl ?_
                  clear hl
                  intro ls hl
                  refine lv_aload_n hx hb dX11_sighting_73 rfl (lv_at hl 1 rfl) ?_
                  refine va_get (D := G.1) (ci := 11) (v := .ref a_h) (C := RX11) (T := TX11) (N := 17) hx hb hts inG_X11 hown hK hP 0 rfl rfl 0 (by decide +kernel) (hts _ fl_X11_12) (fun _ h9 => h9) rfl dX11_sighting_74 ?_
                  refine va_get (D := G.1) (ci := 1) (v := .ref a_s) (C := RX1) (T := TX1) (N := 13) hx hb hts inG_X1 hown hK hP 2 rfl rfl 8 (by decide +kernel) (hts _ fl_X11_261) (fun _ h9 => h9) rfl dX11_sighting_77 ?_
                  refine W.eq (g2 := F0 m 80 ls [.ref a_s]) rfl ?_
                  refine lv_iload hx hb dX11_sighting_80 (lv_at hl 0 rfl) ?_
                  refine lv_iload_n hx hb dX11_sighting_82 rfl (lv_at hl 2 rfl) ?_
                  refine lv_iload_n hx hb dX11_sighting_83 rfl (lv_at hl 3 rfl) ?_
                  refine lv_iload_n hx hb dX11_sighting_84 rfl (lv_at hl 4 rfl) ?_
                  obtain ⟨hPc, hDc, hFc⟩ := g5_sub3 (wc := [(a_s, (oc6 10 4 a_sn (e_s + 1))), (a_sn, (arI G 40 z20))]) hP hD hS hA [3, 4] (by decide +kernel) rfl
                  refine va_callv (va_runV (As := [.int e_s, .int p_c, .int p_w, .int p_h]) (rest := []) ⟨hx, hb, hml, hown, hts⟩ (t_setLook_S l G a_s a_sn H.size (e_s + 1) e_s p_c p_w p_h z20 ⟨by omega, by omega⟩) (cwV 4 hts gV_X11_268 rfl rfl rfl hv_X6_setLook ⟨Nat.le_of_ble_eq_true rfl, Nat.le_of_ble_eq_true rfl⟩) (g5_preV hPc hK hDc hN hT hS hFc (ci := 6) (q0 := 0) rfl rfl) rfl rfl hl.1 rfl (lv_room (Nat.le_of_ble_eq_true rfl)) dX11_sighting_85 ⟨Nat.le_of_ble_eq_true rfl, Nat.le_of_ble_eq_true rfl⟩) hS (fun q _ h => hFc q h) hFc (fun u t H locs ht hvm hw hB hz1 hk1 hS => ?_)
                  obtain ⟨hP1, hD1⟩ := hB
                  have hP1 := g5_ht ht hP1
                  obtain ⟨z23, (i_22 : z23 = tset (tset (tset z20 (e_s + 1).toInt 4 e_s.toInt (0 : Int32).toInt p_c) (e_s + 1).toInt 4 e_s.toInt (1 : Int32).toInt p_w) (e_s + 1).toInt 4 e_s.toInt (2 : Int32).toInt p_h), rfl⟩ := hw
                  have hJ9 := va_join (wr := [(a_o, (oc11 a_h a_im a_ke a_k a_wa a_th a_ha a_wk a_r a_x e_tl e_fd e_fpl a_wd e_wn a_rf e_lr)), (a_rf, (arI G 5 f_rf)), (a_h, (oc1 e_wa e_le e_st e_fo e_lc a_l a_g a_b a_s a_p a_w e_gb a_bb))]) hP hD [3, 4] [0, 1, 2] rfl rfl (by decide +kernel) (by decide +kernel) hk1 hFc hP1 hD1
                  clear hP hD hPc hDc hFc ht hvm hz1 hk1 hP1 hD1
                  obtain ⟨hP, hD⟩ := hJ9
                  refine g5_rs [(a_o, (oc11 a_h a_im a_ke a_k a_wa a_th a_ha a_wk a_r a_x e_tl e_fd e_fpl a_wd e_wn a_rf e_lr)), (a_rf, (arI G 5 f_rf)), (a_h, (oc1 e_wa e_le e_st e_fo e_lc a_l a_g a_b a_s a_p a_w e_gb a_bb)), (a_s, (oc6 10 4 a_sn (e_s + 1))), (a_sn, (arI G 40 z23))] hP hD ?_
                  clear hP hD
                  intro hP hD
                  refine W.eq (g2 := F0 m 88 ls []) rfl ?_
                  refine lv_aload_n hx hb dX11_sighting_88 rfl (lv_at hl 1 rfl) ?_
                  refine va_get (D := G.1) (ci := 11) (v := .ref a_h) (C := RX11) (T := TX11) (N := 17) hx hb hts inG_X11 hown hK hP 0 rfl rfl 0 (by decide +kernel) (hts _ fl_X11_12) (fun _ h9 => h9) rfl dX11_sighting_89 ?_
                  refine va_get (D := G.1) (ci := 1) (v := .ref a_s) (C := RX1) (T := TX1) (N := 13) hx hb hts inG_X1 hown hK hP 2 rfl rfl 8 (by decide +kernel) (hts _ fl_X11_261) (fun _ h9 => h9) rfl dX11_sighting_92 ?_
                  refine lv_iload hx hb dX11_sighting_95 (lv_at hl 0 rfl) ?_
                  refine lv_iconst (v := 3) hx hb dX11_sighting_97 (by decide +kernel) ?_
                  refine W.eq (g2 := F0 m 98 ls [.int 3, .int e_s, .ref a_s]) rfl ?_
                  refine lv_iload hx hb dX11_sighting_98 (lv_at hl 5 rfl) ?_
                  obtain ⟨hPc, hDc, hFc⟩ := g5_sub3 (wc := [(a_s, (oc6 10 4 a_sn (e_s + 1))), (a_sn, (arI G 40 z23))]) hP hD hS hA [3, 4] (by decide +kernel) rfl
                  refine va_callv (va_runV (As := [.int e_s, .int 3, .int p_s]) (rest := []) ⟨hx, hb, hml, hown, hts⟩ (t_set_S l G a_s a_sn H.size (e_s + 1) e_s 3 p_s z23 ⟨by omega, by omega⟩) (cwV 3 hts gV_X11_149 rfl rfl rfl hv_X6_set ⟨Nat.le_of_ble_eq_true rfl, Nat.le_of_ble_eq_true rfl⟩) (g5_preV hPc hK hDc hN hT hS hFc (ci := 6) (q0 := 0) rfl rfl) rfl rfl hl.1 rfl (lv_room (Nat.le_of_ble_eq_true rfl)) dX11_sighting_100 ⟨Nat.le_of_ble_eq_true rfl, Nat.le_of_ble_eq_true rfl⟩) hS (fun q _ h => hFc q h) hFc (fun u t H locs ht hvm hw hB hz1 hk1 hS => ?_)
                  obtain ⟨hP1, hD1⟩ := hB
                  have hP1 := g5_ht ht hP1
                  obtain ⟨z25, (i_24 : z25 = tset z23 (e_s + 1).toInt 4 e_s.toInt (3 : Int32).toInt p_s), rfl⟩ := hw
                  have hJ9 := va_join (wr := [(a_o, (oc11 a_h a_im a_ke a_k a_wa a_th a_ha a_wk a_r a_x e_tl e_fd e_fpl a_wd e_wn a_rf e_lr)), (a_rf, (arI G 5 f_rf)), (a_h, (oc1 e_wa e_le e_st e_fo e_lc a_l a_g a_b a_s a_p a_w e_gb a_bb))]) hP hD [3, 4] [0, 1, 2] rfl rfl (by decide +kernel) (by decide +kernel) hk1 hFc hP1 hD1
                  clear hP hD hPc hDc hFc ht hvm hz1 hk1 hP1 hD1
                  obtain ⟨hP, hD⟩ := hJ9
                  refine g5_rs [(a_o, (oc11 a_h a_im a_ke a_k a_wa a_th a_ha a_wk a_r a_x e_tl e_fd e_fpl a_wd e_wn a_rf e_lr)), (a_rf, (arI G 5 f_rf)), (a_h, (oc1 e_wa e_le e_st e_fo e_lc a_l a_g a_b a_s a_p a_w e_gb a_bb)), (a_s, (oc6 10 4 a_sn (e_s + 1))), (a_sn, (arI G 40 z25))] hP hD ?_
                  clear hP hD
                  intro hP hD
                  refine lv_aload_n hx hb dX11_sighting_103 rfl (lv_at hl 1 rfl) ?_
                  refine lv_aload_n hx hb dX11_sighting_104 rfl (lv_at hl 1 rfl) ?_
                  refine va_get (D := G.1) (ci := 11) (v := .ref a_h) (C := RX11) (T := TX11) (N := 17) hx hb hts inG_X11 hown hK hP 0 rfl rfl 0 (by decide +kernel) (hts _ fl_X11_12) (fun _ h9 => h9) rfl dX11_sighting_105 ?_
                  refine W.eq (g2 := F0 m 108 ls [.ref a_h, .ref a_o]) rfl ?_
                  refine va_get (D := G.1) (ci := 1) (v := .ref a_s) (C := RX1) (T := TX1) (N := 13) hx hb hts inG_X1 hown hK hP 2 rfl rfl 8 (by decide +kernel) (hts _ fl_X11_261) (fun _ h9 => h9) rfl dX11_sighting_108 ?_
                  refine va_get (D := G.1) (ci := 6) (v := .int (e_s + 1)) (C := RX6) (T := TX6) (N := 4) hx hb hts inG_X6 hown hK hP 3 rfl rfl 3 (by decide +kernel) (hts _ fl_X11_238) (fun _ h9 => h9) rfl dX11_sighting_111 ?_
                  obtain ⟨hPc, hDc, hFc⟩ := g5_sub3 (wc := [(a_o, (oc11 a_h a_im a_ke a_k a_wa a_th a_ha a_wk a_r a_x e_tl e_fd e_fpl a_wd e_wn a_rf e_lr))]) hP hD hS hA [0] (by decide +kernel) rfl
                  refine va_calli (va_runV (As := [.int (e_s + 1)]) (rest := []) ⟨hx, hb, hml, hown, hts⟩ (x_done l G a_o a_h a_im a_ke a_k a_wa a_th a_ha a_wk a_r a_x a_wd a_rf H.size e_tl e_fd e_fpl e_wn e_lr (e_s + 1) h_e_tl h_e_wn) (cwV 1 hts gV_X11_121 rfl rfl rfl hv_X11_done ⟨Nat.le_of_ble_eq_true rfl, Nat.le_of_ble_eq_true rfl⟩) (g5_preV hPc hK hDc hN hT hS hFc (ci := 11) (q0 := 0) rfl rfl) rfl rfl hl.1 rfl (lv_room (Nat.le_of_ble_eq_true rfl)) dX11_sighting_114 ⟨Nat.le_of_ble_eq_true rfl, Nat.le_of_ble_eq_true rfl⟩) hS (fun q _ h => hFc q h) hFc (fun r u t H locs ht hvm hw hB hz1 hk1 hS => ?_)
                  obtain ⟨hP1, hD1⟩ := hB
                  have hP1 := g5_ht ht hP1
                  obtain ⟨rfl, rfl⟩ := hw
                  have hJ9 := va_join (wr := [(a_rf, (arI G 5 f_rf)), (a_h, (oc1 e_wa e_le e_st e_fo e_lc a_l a_g a_b a_s a_p a_w e_gb a_bb)), (a_s, (oc6 10 4 a_sn (e_s + 1))), (a_sn, (arI G 40 z25))]) hP hD [0] [1, 2, 3, 4] rfl rfl (by decide +kernel) (by decide +kernel) hk1 hFc hP1 hD1
                  clear hP hD hPc hDc hFc ht hvm hz1 hk1 hP1 hD1
                  obtain ⟨hP, hD⟩ := hJ9
                  refine g5_rs [(a_rf, (arI G 5 f_rf)), (a_h, (oc1 e_wa e_le e_st e_fo e_lc a_l a_g a_b a_s a_p a_w e_gb a_bb)), (a_s, (oc6 10 4 a_sn (e_s + 1))), (a_sn, (arI G 40 z25)), (a_o, (oc11 a_h a_im a_ke a_k a_wa a_th a_ha a_wk a_r a_x e_tl e_fd e_fpl a_wd e_wn a_rf 0))] hP hD ?_
                  clear hP hD
                  intro hP hD
                  exact W.iret (v := (e_s + 1)) hx hb hr (fun t ht hW => ⟨⟨(e_s + 1), [(a_o, (oc11 a_h a_im a_ke a_k a_wa a_th a_ha a_wk a_r a_x e_tl e_fd e_fpl a_wd e_wn a_rf 0)), (a_rf, (arI G 5 f_rf)), (a_h, (oc1 e_wa e_le e_st e_fo e_lc a_l a_g a_b a_s a_p a_w e_gb a_bb)), (a_s, (oc6 10 4 a_sn (e_s + 1))), (a_sn, (arI G 40 z25))], rfl, ⟨(e_s + 1), 0, f_rf, (e_s + 1), z25, ⟨by omega, by omega⟩, by rw [i_24, i_22, i_19]; exact sg_01 e_sh (by omega) (by omega) (by omega), by rw [i_24, i_22, i_19]; exact sg_5 (by omega) (by omega) (by omega), by rw [(sight_0 (f := f_ro) (c := p_c) (w := p_w) (h := p_h) (s := p_s) ⟨i_1, ⟨by omega, by omega⟩⟩ (rm_y e_hs (by omega) (fun q => by omega))).1, e_hs.2.1], by rw [i_24, i_22, i_19]; exact hs_sight e_hs (by omega) (by omega) ⟨i_1, ⟨by omega, by omega⟩⟩ (rm_y e_hs (by omega) (fun q => by omega)), rfl, rfl⟩, by rw [ht]; exact hP.sub [4, 0, 1, 2, 3] rfl, hD.sub [4, 0, 1, 2, 3] (by decide +kernel) rfl⟩, hS.F ht⟩) hS.2.2 dX11_sighting_117
              ·
                have i_15 : p_s.toInt = 1 := g5_neN (a := p_s.toInt) (b := 1) rfl (by decide +kernel) c_15
                refine lv_aload_n hx hb dX11_sighting_42 rfl (lv_at hl 0 rfl) ?_
                refine va_get (D := G.1) (ci := 11) (v := .ref a_h) (C := RX11) (T := TX11) (N := 17) hx hb hts inG_X11 hown hK hP 0 rfl rfl 0 (by decide +kernel) (hts _ fl_X11_12) (fun _ h9 => h9) rfl dX11_sighting_43 ?_
                obtain ⟨hPc, hDc, hFc⟩ := g5_sub3 (wc := [(a_h, (oc1 e_wa e_le e_st e_fo e_lc a_l a_g a_b a_s a_p a_w e_gb a_bb)), (a_s, (oc6 10 4 a_sn e_s)), (a_sn, (arI G 40 f_s))]) hP hD hS hA [2, 4, 3] (by decide +kernel) rfl
                refine va_calli (va_runV (As := []) (rest := []) ⟨hx, hb, hml, hown, hts⟩ (h_countSeen l G a_h a_s a_sn a_l a_g a_b a_p a_w a_bb H.size e_le e_st e_fo e_lc e_s e_wa e_gb f_s h_e_s (e_sh)) (cwV 0 hts gV_X11_264 rfl rfl rfl hv_X1_countSeen ⟨Nat.le_of_ble_eq_true rfl, Nat.le_of_ble_eq_true rfl⟩) (g5_preV hPc hK hDc hN hT hS hFc (ci := 1) (q0 := 0) rfl rfl) rfl rfl hl.1 rfl (lv_room (Nat.le_of_ble_eq_true rfl)) dX11_sighting_46 ⟨Nat.le_of_ble_eq_true rfl, Nat.le_of_ble_eq_true rfl⟩) hS (fun q _ h => hFc q h) hFc (fun r u t H locs ht hvm hw hB hz1 hk1 hS => ?_)
                obtain ⟨hP1, hD1⟩ := hB
                have hP1 := g5_ht ht hP1
                obtain ⟨z28, (i_26 : 0 ≤ z28.toInt ∧ z28.toInt ≤ 10), (i_27 : z28.toInt = snS f_s e_s.toInt e_s.toInt.toNat), y29, rfl⟩ := hw
                have hJ9 := va_join (wr := [(a_o, (oc11 a_h a_im a_ke a_k a_wa a_th a_ha a_wk a_r a_x e_tl e_fd e_fpl a_wd e_wn a_rf e_lr)), (a_rf, (arI G 5 f_rf))]) hP hD [2, 4, 3] [0, 1] rfl rfl (by decide +kernel) (by decide +kernel) hk1 hFc hP1 hD1
                clear hP hD hPc hDc hFc ht hvm hz1 hk1 hP1 hD1
                obtain ⟨hP, hD⟩ := hJ9
                refine g5_rs [(a_o, (oc11 a_h a_im a_ke a_k a_wa a_th a_ha a_wk a_r a_x e_tl e_fd e_fpl a_wd e_wn a_rf e_lr)), (a_rf, (arI G 5 f_rf)), (a_h, (oc1 e_wa e_le e_st e_fo e_lc a_l a_g a_b a_s a_p a_w e_gb a_bb)), (a_s, (oc6 10 4 a_sn e_s)), (a_sn, (arI G 40 f_s))] hP hD ?_
                clear hP hD
                intro hP hD
                refine g5_ti (v := z28) y29 ?_
                refine lv_iconst (v := 5) hx hb dX11_sighting_49 (by decide +kernel) ?_
                refine W.eq (g2 := F0 m 50 ls [.int 5, .int z28]) rfl ?_
                refine lv_icmp_lt (tgt := 60) hx hb dX11_sighting_50 (by decide +kernel) (fun c_30 => ?_) (fun c_30 => ?_)
                ·
                  have i_30 : z28.toInt < 5 := g5_lt (a := z28.toInt) (b := 5) rfl (by decide +kernel) c_30
                  refine lv_aload_n hx hb dX11_sighting_60 rfl (lv_at hl 0 rfl) ?_
                  refine va_get (D := G.1) (ci := 11) (v := .ref a_h) (C := RX11) (T := TX11) (N := 17) hx hb hts inG_X11 hown hK hP 0 rfl rfl 0 (by decide +kernel) (hts _ fl_X11_12) (fun _ h9 => h9) rfl dX11_sighting_61 ?_
                  refine va_get (D := G.1) (ci := 1) (v := .ref a_s) (C := RX1) (T := TX1) (N := 13) hx hb hts inG_X1 hown hK hP 2 rfl rfl 8 (by decide +kernel) (hts _ fl_X11_261) (fun _ h9 => h9) rfl dX11_sighting_64 ?_
                  refine lv_iconst (v := 0) hx hb dX11_sighting_67 (by decide +kernel) ?_
                  refine W.eq (g2 := F0 m 68 ls [.int 0, .ref a_s]) rfl ?_
                  obtain ⟨hPc, hDc, hFc⟩ := g5_sub3 (wc := [(a_s, (oc6 10 4 a_sn e_s)), (a_sn, (arI G 40 f_s))]) hP hD hS hA [3, 4] (by decide +kernel) rfl
                  refine va_calli (va_runV (As := [.int 0]) (rest := []) ⟨hx, hb, hml, hown, hts⟩ (t_open_S l G a_s a_sn H.size e_s 0 f_s h_e_s) (cwV 1 hts gV_X11_146 rfl rfl rfl hv_X6_open ⟨Nat.le_of_ble_eq_true rfl, Nat.le_of_ble_eq_true rfl⟩) (g5_preV hPc hK hDc hN hT hS hFc (ci := 6) (q0 := 0) rfl rfl) rfl rfl hl.1 rfl (lv_room (Nat.le_of_ble_eq_true rfl)) dX11_sighting_68 ⟨Nat.le_of_ble_eq_true rfl, Nat.le_of_ble_eq_true rfl⟩) hS (fun q _ h => hFc q h) hFc (fun r u t H locs ht hvm hw hB hz1 hk1 hS => ?_)
                  obtain ⟨hP1, hD1⟩ := hB
                  have hP1 := g5_ht ht hP1
                  rcases hw with ⟨(i_31 : e_s.toInt = 10), rfl, rfl⟩ | ⟨z35, (i_32 : e_s.toInt < 10), (i_33 : (e_s + 1).toInt = e_s.toInt + 1), (i_34 : z35 = tfil f_s e_s.toInt 4 (0 : Int32) 4), y36, rfl⟩
                  ·
                    omega
                  ·
                    have hJ9 := va_join (wr := [(a_o, (oc11 a_h a_im a_ke a_k a_wa a_th a_ha a_wk a_r a_x e_tl e_fd e_fpl a_wd e_wn a_rf e_lr)), (a_rf, (arI G 5 f_rf)), (a_h, (oc1 e_wa e_le e_st e_fo e_lc a_l a_g a_b a_s a_p a_w e_gb a_bb))]) hP hD [3, 4] [0, 1, 2] rfl rfl (by decide +kernel) (by decide +kernel) hk1 hFc hP1 hD1
                    clear hP hD hPc hDc hFc ht hvm hz1 hk1 hP1 hD1
                    obtain ⟨hP, hD⟩ := hJ9
                    refine g5_rs [(a_o, (oc11 a_h a_im a_ke a_k a_wa a_th a_ha a_wk a_r a_x e_tl e_fd e_fpl a_wd e_wn a_rf e_lr)), (a_rf, (arI G 5 f_rf)), (a_h, (oc1 e_wa e_le e_st e_fo e_lc a_l a_g a_b a_s a_p a_w e_gb a_bb)), (a_s, (oc6 10 4 a_sn (e_s + 1))), (a_sn, (arI G 40 z35))] hP hD ?_
                    clear hP hD
                    intro hP hD
                    refine g5_ti (v := e_s) y36 ?_
                    refine lv_istore (lv' := [(5, .int e_s), (0, .ref a_o), (1, .int p_c), (2, .int p_w), (3, .int p_h), (4, .int p_s)]) hx hb dX11_sighting_71 hl (by decide +kernel) rfl ?_
                    clear hl
                    intro ls hl
                    refine lv_aload_n hx hb dX11_sighting_73 rfl (lv_at hl 1 rfl) ?_
                    refine va_get (D := G.1) (ci := 11) (v := .ref a_h) (C := RX11) (T := TX11) (N := 17) hx hb hts inG_X11 hown hK hP 0 rfl rfl 0 (by decide +kernel) (hts _ fl_X11_12) (fun _ h9 => h9) rfl dX11_sighting_74 ?_
                    refine va_get (D := G.1) (ci := 1) (v := .ref a_s) (C := RX1) (T := TX1) (N := 13) hx hb hts inG_X1 hown hK hP 2 rfl rfl 8 (by decide +kernel) (hts _ fl_X11_261) (fun _ h9 => h9) rfl dX11_sighting_77 ?_
                    refine W.eq (g2 := F0 m 80 ls [.ref a_s]) rfl ?_
                    refine lv_iload hx hb dX11_sighting_80 (lv_at hl 0 rfl) ?_
                    refine lv_iload_n hx hb dX11_sighting_82 rfl (lv_at hl 2 rfl) ?_
                    refine lv_iload_n hx hb dX11_sighting_83 rfl (lv_at hl 3 rfl) ?_
                    refine lv_iload_n hx hb dX11_sighting_84 rfl (lv_at hl 4 rfl) ?_
                    obtain ⟨hPc, hDc, hFc⟩ := g5_sub3 (wc := [(a_s, (oc6 10 4 a_sn (e_s + 1))), (a_sn, (arI G 40 z35))]) hP hD hS hA [3, 4] (by decide +kernel) rfl
                    refine va_callv (va_runV (As := [.int e_s, .int p_c, .int p_w, .int p_h]) (rest := []) ⟨hx, hb, hml, hown, hts⟩ (t_setLook_S l G a_s a_sn H.size (e_s + 1) e_s p_c p_w p_h z35 ⟨by omega, by omega⟩) (cwV 4 hts gV_X11_268 rfl rfl rfl hv_X6_setLook ⟨Nat.le_of_ble_eq_true rfl, Nat.le_of_ble_eq_true rfl⟩) (g5_preV hPc hK hDc hN hT hS hFc (ci := 6) (q0 := 0) rfl rfl) rfl rfl hl.1 rfl (lv_room (Nat.le_of_ble_eq_true rfl)) dX11_sighting_85 ⟨Nat.le_of_ble_eq_true rfl, Nat.le_of_ble_eq_true rfl⟩) hS (fun q _ h => hFc q h) hFc (fun u t H locs ht hvm hw hB hz1 hk1 hS => ?_)
                    obtain ⟨hP1, hD1⟩ := hB
                    have hP1 := g5_ht ht hP1
                    obtain ⟨z38, (i_37 : z38 = tset (tset (tset z35 (e_s + 1).toInt 4 e_s.toInt (0 : Int32).toInt p_c) (e_s + 1).toInt 4 e_s.toInt (1 : Int32).toInt p_w) (e_s + 1).toInt 4 e_s.toInt (2 : Int32).toInt p_h), rfl⟩ := hw
                    have hJ9 := va_join (wr := [(a_o, (oc11 a_h a_im a_ke a_k a_wa a_th a_ha a_wk a_r a_x e_tl e_fd e_fpl a_wd e_wn a_rf e_lr)), (a_rf, (arI G 5 f_rf)), (a_h, (oc1 e_wa e_le e_st e_fo e_lc a_l a_g a_b a_s a_p a_w e_gb a_bb))]) hP hD [3, 4] [0, 1, 2] rfl rfl (by decide +kernel) (by decide +kernel) hk1 hFc hP1 hD1
                    clear hP hD hPc hDc hFc ht hvm hz1 hk1 hP1 hD1
                    obtain ⟨hP, hD⟩ := hJ9
                    refine g5_rs [(a_o, (oc11 a_h a_im a_ke a_k a_wa a_th a_ha a_wk a_r a_x e_tl e_fd e_fpl a_wd e_wn a_rf e_lr)), (a_rf, (arI G 5 f_rf)), (a_h, (oc1 e_wa e_le e_st e_fo e_lc a_l a_g a_b a_s a_p a_w e_gb a_bb)), (a_s, (oc6 10 4 a_sn (e_s + 1))), (a_sn, (arI G 40 z38))] hP hD ?_
                    clear hP hD
                    intro hP hD
                    refine W.eq (g2 := F0 m 88 ls []) rfl ?_
                    refine lv_aload_n hx hb dX11_sighting_88 rfl (lv_at hl 1 rfl) ?_
                    refine va_get (D := G.1) (ci := 11) (v := .ref a_h) (C := RX11) (T := TX11) (N := 17) hx hb hts inG_X11 hown hK hP 0 rfl rfl 0 (by decide +kernel) (hts _ fl_X11_12) (fun _ h9 => h9) rfl dX11_sighting_89 ?_
                    refine va_get (D := G.1) (ci := 1) (v := .ref a_s) (C := RX1) (T := TX1) (N := 13) hx hb hts inG_X1 hown hK hP 2 rfl rfl 8 (by decide +kernel) (hts _ fl_X11_261) (fun _ h9 => h9) rfl dX11_sighting_92 ?_
                    refine lv_iload hx hb dX11_sighting_95 (lv_at hl 0 rfl) ?_
                    refine lv_iconst (v := 3) hx hb dX11_sighting_97 (by decide +kernel) ?_
                    refine W.eq (g2 := F0 m 98 ls [.int 3, .int e_s, .ref a_s]) rfl ?_
                    refine lv_iload hx hb dX11_sighting_98 (lv_at hl 5 rfl) ?_
                    obtain ⟨hPc, hDc, hFc⟩ := g5_sub3 (wc := [(a_s, (oc6 10 4 a_sn (e_s + 1))), (a_sn, (arI G 40 z38))]) hP hD hS hA [3, 4] (by decide +kernel) rfl
                    refine va_callv (va_runV (As := [.int e_s, .int 3, .int p_s]) (rest := []) ⟨hx, hb, hml, hown, hts⟩ (t_set_S l G a_s a_sn H.size (e_s + 1) e_s 3 p_s z38 ⟨by omega, by omega⟩) (cwV 3 hts gV_X11_149 rfl rfl rfl hv_X6_set ⟨Nat.le_of_ble_eq_true rfl, Nat.le_of_ble_eq_true rfl⟩) (g5_preV hPc hK hDc hN hT hS hFc (ci := 6) (q0 := 0) rfl rfl) rfl rfl hl.1 rfl (lv_room (Nat.le_of_ble_eq_true rfl)) dX11_sighting_100 ⟨Nat.le_of_ble_eq_true rfl, Nat.le_of_ble_eq_true rfl⟩) hS (fun q _ h => hFc q h) hFc (fun u t H locs ht hvm hw hB hz1 hk1 hS => ?_)
                    obtain ⟨hP1, hD1⟩ := hB
                    have hP1 := g5_ht ht hP1
                    obtain ⟨z40, (i_39 : z40 = tset z38 (e_s + 1).toInt 4 e_s.toInt (3 : Int32).toInt p_s), rfl⟩ := hw
                    have hJ9 := va_join (wr := [(a_o, (oc11 a_h a_im a_ke a_k a_wa a_th a_ha a_wk a_r a_x e_tl e_fd e_fpl a_wd e_wn a_rf e_lr)), (a_rf, (arI G 5 f_rf)), (a_h, (oc1 e_wa e_le e_st e_fo e_lc a_l a_g a_b a_s a_p a_w e_gb a_bb))]) hP hD [3, 4] [0, 1, 2] rfl rfl (by decide +kernel) (by decide +kernel) hk1 hFc hP1 hD1
                    clear hP hD hPc hDc hFc ht hvm hz1 hk1 hP1 hD1
                    obtain ⟨hP, hD⟩ := hJ9
                    refine g5_rs [(a_o, (oc11 a_h a_im a_ke a_k a_wa a_th a_ha a_wk a_r a_x e_tl e_fd e_fpl a_wd e_wn a_rf e_lr)), (a_rf, (arI G 5 f_rf)), (a_h, (oc1 e_wa e_le e_st e_fo e_lc a_l a_g a_b a_s a_p a_w e_gb a_bb)), (a_s, (oc6 10 4 a_sn (e_s + 1))), (a_sn, (arI G 40 z40))] hP hD ?_
                    clear hP hD
                    intro hP hD
                    refine lv_aload_n hx hb dX11_sighting_103 rfl (lv_at hl 1 rfl) ?_
                    refine lv_aload_n hx hb dX11_sighting_104 rfl (lv_at hl 1 rfl) ?_
                    refine va_get (D := G.1) (ci := 11) (v := .ref a_h) (C := RX11) (T := TX11) (N := 17) hx hb hts inG_X11 hown hK hP 0 rfl rfl 0 (by decide +kernel) (hts _ fl_X11_12) (fun _ h9 => h9) rfl dX11_sighting_105 ?_
                    refine W.eq (g2 := F0 m 108 ls [.ref a_h, .ref a_o]) rfl ?_
                    refine va_get (D := G.1) (ci := 1) (v := .ref a_s) (C := RX1) (T := TX1) (N := 13) hx hb hts inG_X1 hown hK hP 2 rfl rfl 8 (by decide +kernel) (hts _ fl_X11_261) (fun _ h9 => h9) rfl dX11_sighting_108 ?_
                    refine va_get (D := G.1) (ci := 6) (v := .int (e_s + 1)) (C := RX6) (T := TX6) (N := 4) hx hb hts inG_X6 hown hK hP 3 rfl rfl 3 (by decide +kernel) (hts _ fl_X11_238) (fun _ h9 => h9) rfl dX11_sighting_111 ?_
                    obtain ⟨hPc, hDc, hFc⟩ := g5_sub3 (wc := [(a_o, (oc11 a_h a_im a_ke a_k a_wa a_th a_ha a_wk a_r a_x e_tl e_fd e_fpl a_wd e_wn a_rf e_lr))]) hP hD hS hA [0] (by decide +kernel) rfl
                    refine va_calli (va_runV (As := [.int (e_s + 1)]) (rest := []) ⟨hx, hb, hml, hown, hts⟩ (x_done l G a_o a_h a_im a_ke a_k a_wa a_th a_ha a_wk a_r a_x a_wd a_rf H.size e_tl e_fd e_fpl e_wn e_lr (e_s + 1) h_e_tl h_e_wn) (cwV 1 hts gV_X11_121 rfl rfl rfl hv_X11_done ⟨Nat.le_of_ble_eq_true rfl, Nat.le_of_ble_eq_true rfl⟩) (g5_preV hPc hK hDc hN hT hS hFc (ci := 11) (q0 := 0) rfl rfl) rfl rfl hl.1 rfl (lv_room (Nat.le_of_ble_eq_true rfl)) dX11_sighting_114 ⟨Nat.le_of_ble_eq_true rfl, Nat.le_of_ble_eq_true rfl⟩) hS (fun q _ h => hFc q h) hFc (fun r u t H locs ht hvm hw hB hz1 hk1 hS => ?_)
                    obtain ⟨hP1, hD1⟩ := hB
                    have hP1 := g5_ht ht hP1
                    obtain ⟨rfl, rfl⟩ := hw
                    have hJ9 := va_join (wr := [(a_rf, (arI G 5 f_rf)), (a_h, (oc1 e_wa e_le e_st e_fo e_lc a_l a_g a_b a_s a_p a_w e_gb a_bb)), (a_s, (oc6 10 4 a_sn (e_s + 1))), (a_sn, (arI G 40 z40))]) hP hD [0] [1, 2, 3, 4] rfl rfl (by decide +kernel) (by decide +kernel) hk1 hFc hP1 hD1
                    clear hP hD hPc hDc hFc ht hvm hz1 hk1 hP1 hD1
                    obtain ⟨hP, hD⟩ := hJ9
                    refine g5_rs [(a_rf, (arI G 5 f_rf)), (a_h, (oc1 e_wa e_le e_st e_fo e_lc a_l a_g a_b a_s a_p a_w e_gb a_bb)), (a_s, (oc6 10 4 a_sn (e_s + 1))), (a_sn, (arI G 40 z40)), (a_o, (oc11 a_h a_im a_ke a_k a_wa a_th a_ha a_wk a_r a_x e_tl e_fd e_fpl a_wd e_wn a_rf 0))] hP hD ?_
                    clear hP hD
                    intro hP hD
                    exact W.iret (v := (e_s + 1)) hx hb hr (fun t ht hW => ⟨⟨(e_s + 1), [(a_o, (oc11 a_h a_im a_ke a_k a_wa a_th a_ha a_wk a_r a_x e_tl e_fd e_fpl a_wd e_wn a_rf 0)), (a_rf, (arI G 5 f_rf)), (a_h, (oc1 e_wa e_le e_st e_fo e_lc a_l a_g a_b a_s a_p a_w e_gb a_bb)), (a_s, (oc6 10 4 a_sn (e_s + 1))), (a_sn, (arI G 40 z40))], rfl, ⟨(e_s + 1), 0, f_rf, (e_s + 1), z40, ⟨by omega, by omega⟩, by rw [i_39, i_37, i_34]; exact sg_01 e_sh (by omega) (by omega) (by omega), by rw [i_39, i_37, i_34]; exact sg_5 (by omega) (by omega) (by omega), by rw [(sight_0 (f := f_ro) (c := p_c) (w := p_w) (h := p_h) (s := p_s) ⟨i_1, ⟨by omega, by omega⟩⟩ (rm_y e_hs (by omega) (fun q => by omega))).1, e_hs.2.1], by rw [i_39, i_37, i_34]; exact hs_sight e_hs (by omega) (by omega) ⟨i_1, ⟨by omega, by omega⟩⟩ (rm_y e_hs (by omega) (fun q => by omega)), rfl, rfl⟩, by rw [ht]; exact hP.sub [4, 0, 1, 2, 3] rfl, hD.sub [4, 0, 1, 2, 3] (by decide +kernel) rfl⟩, hS.F ht⟩) hS.2.2 dX11_sighting_117
                ·
                  have i_30 : z28.toInt ≥ 5 := g5_ltN (a := z28.toInt) (b := 5) rfl (by decide +kernel) c_30
                  refine lv_aload_n hx hb dX11_sighting_53 rfl (lv_at hl 0 rfl) ?_
                  refine lv_bipush (v := (-5)) hx hb dX11_sighting_54 (by decide +kernel) ?_
                  obtain ⟨hPc, hDc, hFc⟩ := g5_sub3 (wc := [(a_o, (oc11 a_h a_im a_ke a_k a_wa a_th a_ha a_wk a_r a_x e_tl e_fd e_fpl a_wd e_wn a_rf e_lr)), (a_rf, (arI G 5 f_rf))]) hP hD hS hA [0, 1] (by decide +kernel) rfl
                  refine va_calli (va_runV (As := [.int (-5)]) (rest := []) ⟨hx, hb, hml, hown, hts⟩ (x_refuse5 l G a_o a_rf a_h a_im a_ke a_k a_wa a_th a_ha a_wk a_r a_x a_wd H.size e_tl e_fd e_fpl e_wn e_lr f_rf h_e_tl h_e_wn) (cwV 1 hts gV_X11_104 rfl rfl rfl hv_X11_refuse ⟨Nat.le_of_ble_eq_true rfl, Nat.le_of_ble_eq_true rfl⟩) (g5_preV hPc hK hDc hN hT hS hFc (ci := 11) (q0 := 0) rfl rfl) rfl rfl hl.1 rfl (lv_room (Nat.le_of_ble_eq_true rfl)) dX11_sighting_56 ⟨Nat.le_of_ble_eq_true rfl, Nat.le_of_ble_eq_true rfl⟩) hS (fun q _ h => hFc q h) hFc (fun r u t H locs ht hvm hw hB hz1 hk1 hS => ?_)
                  obtain ⟨hP1, hD1⟩ := hB
                  have hP1 := g5_ht ht hP1
                  obtain ⟨z41, rfl, rfl⟩ := hw
                  have hJ9 := va_join (wr := [(a_h, (oc1 e_wa e_le e_st e_fo e_lc a_l a_g a_b a_s a_p a_w e_gb a_bb)), (a_s, (oc6 10 4 a_sn e_s)), (a_sn, (arI G 40 f_s))]) hP hD [0, 1] [2, 3, 4] rfl rfl (by decide +kernel) (by decide +kernel) hk1 hFc hP1 hD1
                  clear hP hD hPc hDc hFc ht hvm hz1 hk1 hP1 hD1
                  obtain ⟨hP, hD⟩ := hJ9
                  refine g5_rs [(a_h, (oc1 e_wa e_le e_st e_fo e_lc a_l a_g a_b a_s a_p a_w e_gb a_bb)), (a_s, (oc6 10 4 a_sn e_s)), (a_sn, (arI G 40 f_s)), (a_o, (oc11 a_h a_im a_ke a_k a_wa a_th a_ha a_wk a_r a_x e_tl e_fd e_fpl a_wd e_wn a_rf (-5))), (a_rf, (arI G 5 z41))] hP hD ?_
                  clear hP hD
                  intro hP hD
                  exact W.iret (v := (-5)) hx hb hr (fun t ht hW => ⟨⟨(-5), [(a_o, (oc11 a_h a_im a_ke a_k a_wa a_th a_ha a_wk a_r a_x e_tl e_fd e_fpl a_wd e_wn a_rf (-5))), (a_rf, (arI G 5 z41)), (a_h, (oc1 e_wa e_le e_st e_fo e_lc a_l a_g a_b a_s a_p a_w e_gb a_bb)), (a_s, (oc6 10 4 a_sn e_s)), (a_sn, (arI G 40 f_s))], rfl, ⟨(-5), (-5), z41, e_s, f_s, h_e_s, e_sh, e_s5, (sight_5 (f := f_ro) (c := p_c) (w := p_w) (h := p_h) (s := p_s) ⟨i_1, ⟨by omega, by omega⟩⟩ (rm_n2 e_hs (by omega) (by omega) e_s5)).1.symm, by rw [(sight_5 (f := f_ro) (c := p_c) (w := p_w) (h := p_h) (s := p_s) ⟨i_1, ⟨by omega, by omega⟩⟩ (rm_n2 e_hs (by omega) (by omega) e_s5)).2]; exact e_hs, rfl, rfl⟩, by rw [ht]; exact hP.sub [3, 4, 0, 1, 2] rfl, hD.sub [3, 4, 0, 1, 2] (by decide +kernel) rfl⟩, hS.F ht⟩) hS.2.2 dX11_sighting_59
        ·
          exact absurd c_9 (by decide +kernel)
      ·
        have hJ9 := g5_same hP hk1
        clear hP hPc hDc hFc ht hvm hz1 hk1 hP1 hD1
        have hP := hJ9
        clear hJ9
        refine lv_if_ne (tgt := 23) hx hb dX11_sighting_14 (by decide +kernel) (fun c_42 => ?_) (fun c_42 => ?_)
        ·
          exact absurd c_42 (by decide +kernel)
        ·
          refine lv_aload_n hx hb dX11_sighting_17 rfl (lv_at hl 0 rfl) ?_
          refine lv_iconst (v := (-1)) hx hb dX11_sighting_18 (by decide +kernel) ?_
          obtain ⟨hPc, hDc, hFc⟩ := g5_sub3 (wc := [(a_o, (oc11 a_h a_im a_ke a_k a_wa a_th a_ha a_wk a_r a_x e_tl e_fd e_fpl a_wd e_wn a_rf e_lr)), (a_rf, (arI G 5 f_rf))]) hP hD hS hA [0, 1] (by decide +kernel) rfl
          refine va_calli (va_runV (As := [.int (-1)]) (rest := []) ⟨hx, hb, hml, hown, hts⟩ (x_refuse1 l G a_o a_rf a_h a_im a_ke a_k a_wa a_th a_ha a_wk a_r a_x a_wd H.size e_tl e_fd e_fpl e_wn e_lr f_rf h_e_tl h_e_wn) (cwV 1 hts gV_X11_104 rfl rfl rfl hv_X11_refuse ⟨Nat.le_of_ble_eq_true rfl, Nat.le_of_ble_eq_true rfl⟩) (g5_preV hPc hK hDc hN hT hS hFc (ci := 11) (q0 := 0) rfl rfl) rfl rfl hl.1 rfl (lv_room (Nat.le_of_ble_eq_true rfl)) dX11_sighting_19 ⟨Nat.le_of_ble_eq_true rfl, Nat.le_of_ble_eq_true rfl⟩) hS (fun q _ h => hFc q h) hFc (fun r u t H locs ht hvm hw hB hz1 hk1 hS => ?_)
          obtain ⟨hP1, hD1⟩ := hB
          have hP1 := g5_ht ht hP1
          obtain ⟨z43, rfl, rfl⟩ := hw
          have hJ9 := va_join (wr := [(a_h, (oc1 e_wa e_le e_st e_fo e_lc a_l a_g a_b a_s a_p a_w e_gb a_bb)), (a_s, (oc6 10 4 a_sn e_s)), (a_sn, (arI G 40 f_s))]) hP hD [0, 1] [2, 3, 4] rfl rfl (by decide +kernel) (by decide +kernel) hk1 hFc hP1 hD1
          clear hP hD hPc hDc hFc ht hvm hz1 hk1 hP1 hD1
          obtain ⟨hP, hD⟩ := hJ9
          refine g5_rs [(a_h, (oc1 e_wa e_le e_st e_fo e_lc a_l a_g a_b a_s a_p a_w e_gb a_bb)), (a_s, (oc6 10 4 a_sn e_s)), (a_sn, (arI G 40 f_s)), (a_o, (oc11 a_h a_im a_ke a_k a_wa a_th a_ha a_wk a_r a_x e_tl e_fd e_fpl a_wd e_wn a_rf (-1))), (a_rf, (arI G 5 z43))] hP hD ?_
          clear hP hD
          intro hP hD
          exact W.iret (v := (-1)) hx hb hr (fun t ht hW => ⟨⟨(-1), [(a_o, (oc11 a_h a_im a_ke a_k a_wa a_th a_ha a_wk a_r a_x e_tl e_fd e_fpl a_wd e_wn a_rf (-1))), (a_rf, (arI G 5 z43)), (a_h, (oc1 e_wa e_le e_st e_fo e_lc a_l a_g a_b a_s a_p a_w e_gb a_bb)), (a_s, (oc6 10 4 a_sn e_s)), (a_sn, (arI G 40 f_s))], rfl, ⟨(-1), (-1), z43, e_s, f_s, h_e_s, e_sh, e_s5, (sight_1 (f := f_ro) (c := p_c) (w := p_w) (h := p_h) (s := p_s) (fun q => by have q2 := q.2; omega)).1.symm, by rw [(sight_1 (f := f_ro) (c := p_c) (w := p_w) (h := p_h) (s := p_s) (fun q => by have q2 := q.2; omega)).2]; exact e_hs, rfl, rfl⟩, by rw [ht]; exact hP.sub [3, 4, 0, 1, 2] rfl, hD.sub [3, 4, 0, 1, 2] (by decide +kernel) rfl⟩, hS.F ht⟩) hS.2.2 dX11_sighting_22
  ·
    have hJ9 := g5_same hP hk1
    clear hP hPc hDc hFc ht hvm hz1 hk1 hP1 hD1
    have hP := hJ9
    clear hJ9
    refine lv_if_eq (tgt := 17) hx hb dX11_sighting_6 (by decide +kernel) (fun c_44 => ?_) (fun c_44 => ?_)
    ·
      refine lv_aload_n hx hb dX11_sighting_17 rfl (lv_at hl 0 rfl) ?_
      refine lv_iconst (v := (-1)) hx hb dX11_sighting_18 (by decide +kernel) ?_
      obtain ⟨hPc, hDc, hFc⟩ := g5_sub3 (wc := [(a_o, (oc11 a_h a_im a_ke a_k a_wa a_th a_ha a_wk a_r a_x e_tl e_fd e_fpl a_wd e_wn a_rf e_lr)), (a_rf, (arI G 5 f_rf))]) hP hD hS hA [0, 1] (by decide +kernel) rfl
      refine va_calli (va_runV (As := [.int (-1)]) (rest := []) ⟨hx, hb, hml, hown, hts⟩ (x_refuse1 l G a_o a_rf a_h a_im a_ke a_k a_wa a_th a_ha a_wk a_r a_x a_wd H.size e_tl e_fd e_fpl e_wn e_lr f_rf h_e_tl h_e_wn) (cwV 1 hts gV_X11_104 rfl rfl rfl hv_X11_refuse ⟨Nat.le_of_ble_eq_true rfl, Nat.le_of_ble_eq_true rfl⟩) (g5_preV hPc hK hDc hN hT hS hFc (ci := 11) (q0 := 0) rfl rfl) rfl rfl hl.1 rfl (lv_room (Nat.le_of_ble_eq_true rfl)) dX11_sighting_19 ⟨Nat.le_of_ble_eq_true rfl, Nat.le_of_ble_eq_true rfl⟩) hS (fun q _ h => hFc q h) hFc (fun r u t H locs ht hvm hw hB hz1 hk1 hS => ?_)
      obtain ⟨hP1, hD1⟩ := hB
      have hP1 := g5_ht ht hP1
      obtain ⟨z45, rfl, rfl⟩ := hw
      have hJ9 := va_join (wr := [(a_h, (oc1 e_wa e_le e_st e_fo e_lc a_l a_g a_b a_s a_p a_w e_gb a_bb)), (a_s, (oc6 10 4 a_sn e_s)), (a_sn, (arI G 40 f_s))]) hP hD [0, 1] [2, 3, 4] rfl rfl (by decide +kernel) (by decide +kernel) hk1 hFc hP1 hD1
      clear hP hD hPc hDc hFc ht hvm hz1 hk1 hP1 hD1
      obtain ⟨hP, hD⟩ := hJ9
      refine g5_rs [(a_h, (oc1 e_wa e_le e_st e_fo e_lc a_l a_g a_b a_s a_p a_w e_gb a_bb)), (a_s, (oc6 10 4 a_sn e_s)), (a_sn, (arI G 40 f_s)), (a_o, (oc11 a_h a_im a_ke a_k a_wa a_th a_ha a_wk a_r a_x e_tl e_fd e_fpl a_wd e_wn a_rf (-1))), (a_rf, (arI G 5 z45))] hP hD ?_
      clear hP hD
      intro hP hD
      exact W.iret (v := (-1)) hx hb hr (fun t ht hW => ⟨⟨(-1), [(a_o, (oc11 a_h a_im a_ke a_k a_wa a_th a_ha a_wk a_r a_x e_tl e_fd e_fpl a_wd e_wn a_rf (-1))), (a_rf, (arI G 5 z45)), (a_h, (oc1 e_wa e_le e_st e_fo e_lc a_l a_g a_b a_s a_p a_w e_gb a_bb)), (a_s, (oc6 10 4 a_sn e_s)), (a_sn, (arI G 40 f_s))], rfl, ⟨(-1), (-1), z45, e_s, f_s, h_e_s, e_sh, e_s5, (sight_1 (f := f_ro) (c := p_c) (w := p_w) (h := p_h) (s := p_s) (fun q => i_5 q.1)).1.symm, by rw [(sight_1 (f := f_ro) (c := p_c) (w := p_w) (h := p_h) (s := p_s) (fun q => i_5 q.1)).2]; exact e_hs, rfl, rfl⟩, by rw [ht]; exact hP.sub [3, 4, 0, 1, 2] rfl, hD.sub [3, 4, 0, 1, 2] (by decide +kernel) rfl⟩, hS.F ht⟩) hS.2.2 dX11_sighting_22
    ·
      exact absurd c_44 (by decide +kernel)
set_option maxHeartbeats 4000000 in
set_option maxRecDepth 100000 in
theorem x_dropX (l : Launch) (G : g5_G) (a_o a_rf a_h a_s a_sn a_im a_ke a_k a_wa a_th a_ha a_wk a_r a_x a_wd a_l a_g a_b a_p a_w a_bb : Nat) (sz : Nat) (e_tl : Int32) (e_fd : Int32) (e_fpl : Int32) (e_wn : Int32) (e_lr : Int32) (e_le : Int32) (e_st : Int32) (e_fo : Int32) (e_lc : Int32) (e_s : Int32) (p_i : Int32) (e_wa : Int64) (e_gb : Int64) (f_rf : Nat → Int32) (f_s : Nat → Int32) (f_ro : Nat → Int32) (h_e_tl : 0 ≤ e_tl.toInt ∧ e_tl.toInt ≤ 400) (h_e_wn : 0 ≤ e_wn.toInt ∧ e_wn.toInt ≤ 1) (h_e_s : 0 ≤ e_s.toInt ∧ e_s.toInt ≤ 10) (e_sh : ∀ r : Int, 0 ≤ r → r < e_s.toInt → 0 ≤ (tget f_s e_s.toInt 4 r (3 : Int32).toInt).toInt ∧ (tget f_s e_s.toInt 4 r (3 : Int32).toInt).toInt ≤ 1) (e_s5 : snS f_s e_s.toInt e_s.toInt.toNat ≤ 5) (e_hs : QS e_s f_s f_ro) : Met l yX11_drop (wsG yX11_drop cX11_drop 2 (some .int)) ({ frames := 2, cells := 0, slots := 0, locals := 82 }) (va_Pc [.ref a_o, .int p_i] (g5_P G [(a_o, (oc11 a_h a_im a_ke a_k a_wa a_th a_ha a_wk a_r a_x e_tl e_fd e_fpl a_wd e_wn a_rf e_lr)), (a_rf, (arI G 5 f_rf)), (a_h, (oc1 e_wa e_le e_st e_fo e_lc a_l a_g a_b a_s a_p a_w e_gb a_bb)), (a_s, (oc6 10 4 a_sn e_s)), (a_sn, (arI G 40 f_s))] sz)) (va_Qi (fun (r : Int32) (u : va_W) => (∃ (o_r : Int32) (o_lr : Int32) (o_rf : Nat → Int32) (o_n : Int32) (o_f : Nat → Int32), (0 ≤ o_n.toInt ∧ o_n.toInt ≤ 10) ∧ (∀ r : Int, 0 ≤ r → r < o_n.toInt → 0 ≤ (tget o_f o_n.toInt 4 r (3 : Int32).toInt).toInt ∧ (tget o_f o_n.toInt 4 r (3 : Int32).toInt).toInt ≤ 1) ∧ (snS o_f o_n.toInt o_n.toInt.toNat ≤ 5) ∧ (o_r = adrop f_ro p_i) ∧ (QS o_n o_f (sdrop f_ro p_i)) ∧ (r = o_r) ∧ (u = [(a_o, (oc11 a_h a_im a_ke a_k a_wa a_th a_ha a_wk a_r a_x e_tl e_fd e_fpl a_wd e_wn a_rf o_lr)), (a_rf, (arI G 5 o_rf)), (a_h, (oc1 e_wa e_le e_st e_fo e_lc a_l a_g a_b a_s a_p a_w e_gb a_bb)), (a_s, (oc6 10 4 a_sn o_n)), (a_sn, (arI G 40 o_f))]))) (g5_B G (va_A [(a_o, (oc11 a_h a_im a_ke a_k a_wa a_th a_ha a_wk a_r a_x e_tl e_fd e_fpl a_wd e_wn a_rf e_lr)), (a_rf, (arI G 5 f_rf)), (a_h, (oc1 e_wa e_le e_st e_fo e_lc a_l a_g a_b a_s a_p a_w e_gb a_bb)), (a_s, (oc6 10 4 a_sn e_s)), (a_sn, (arI G 40 f_s))] sz)) (va_A [(a_o, (oc11 a_h a_im a_ke a_k a_wa a_th a_ha a_wk a_r a_x e_tl e_fd e_fpl a_wd e_wn a_rf e_lr)), (a_rf, (arI G 5 f_rf)), (a_h, (oc1 e_wa e_le e_st e_fo e_lc a_l a_g a_b a_s a_p a_w e_gb a_bb)), (a_s, (oc6 10 4 a_sn e_s)), (a_sn, (arI G 40 f_s))] sz)) 0 0 (va_A [(a_o, (oc11 a_h a_im a_ke a_k a_wa a_th a_ha a_wk a_r a_x e_tl e_fd e_fpl a_wd e_wn a_rf e_lr)), (a_rf, (arI G 5 f_rf)), (a_h, (oc1 e_wa e_le e_st e_fo e_lc a_l a_g a_b a_s a_p a_w e_gb a_bb)), (a_s, (oc6 10 4 a_sn e_s)), (a_sn, (arI G 40 f_s))] sz) := by
  refine Met.ofW (cc := cX11_drop) (maxL := 2) (ret := (some .int)) (by decide +kernel) rfl ?_
  intro p e s m args below meth c s₁ B hml hv
  obtain ⟨rfl, hsz, hP, hK, hD0, hN, hT⟩ := hv
  have hx := B.exec
  have hb := B.bytes
  have hr := B.returns
  have hts : ∀ w ∈ tblG, w.before _ s = true := fun w h => atoms_spec (ws := (wsG yX11_drop cX11_drop 2 (some .int))) B.pre w (List.mem_cons_of_mem _ h)
  have hown : s.vm.findClass RX11 = some m.cls := findClass_of_methodNamed B.named
  have hlocks := B.notSynchronized
  subst hsz
  have hD := hD0.self (sz := s.heap.size)
  generalize hAe : va_A [(a_o, (oc11 a_h a_im a_ke a_k a_wa a_th a_ha a_wk a_r a_x e_tl e_fd e_fpl a_wd e_wn a_rf e_lr)), (a_rf, (arI G 5 f_rf)), (a_h, (oc1 e_wa e_le e_st e_fo e_lc a_l a_g a_b a_s a_p a_w e_gb a_bb)), (a_s, (oc6 10 4 a_sn e_s)), (a_sn, (arI G 40 f_s))] s.heap.size = A at hD hT ⊢
  have hA : ∀ q : Nat, s.heap.size ≤ q → A q := fun q h => by rw [← hAe]; exact Or.inr h
  have hS : va_S A s.heap s.heap [] := va_S.rf
  replace hP : va_P G.1 vwCl [(a_o, (oc11 a_h a_im a_ke a_k a_wa a_th a_ha a_wk a_r a_x e_tl e_fd e_fpl a_wd e_wn a_rf e_lr)), (a_rf, (arI G 5 f_rf)), (a_h, (oc1 e_wa e_le e_st e_fo e_lc a_l a_g a_b a_s a_p a_w e_gb a_bb)), (a_s, (oc6 10 4 a_sn e_s)), (a_sn, (arI G 40 f_s))] s.heap := hP
  have hl := lv_entry ([.ref a_o, .int p_i]) (n := 2) (Nat.le_of_ble_eq_true rfl)
  rw [lg_entry_eq]
  generalize (lg_sl ([.ref a_o, .int p_i]) ++ List.replicate (2 - (lg_sl ([.ref a_o, .int p_i])).length) Slot.unset).toArray = ls at hl ⊢
  replace hl : lv_has ls 2 [(0, .ref a_o), (1, .int p_i)] := hl
  refine lv_aload_n hx hb dX11_drop_0 rfl (lv_at hl 0 rfl) ?_
  refine va_get (D := G.1) (ci := 11) (v := .ref a_h) (C := RX11) (T := TX11) (N := 17) hx hb hts inG_X11 hown hK hP 0 rfl rfl 0 (by decide +kernel) (hts _ fl_X11_12) (fun _ h9 => h9) rfl dX11_drop_1 ?_
  refine va_get (D := G.1) (ci := 1) (v := .ref a_s) (C := RX1) (T := TX1) (N := 13) hx hb hts inG_X1 hown hK hP 2 rfl rfl 8 (by decide +kernel) (hts _ fl_X11_261) (fun _ h9 => h9) rfl dX11_drop_4 ?_
  refine lv_iload_n hx hb dX11_drop_7 rfl (lv_at hl 1 rfl) ?_
  refine W.eq (g2 := F0 m 8 ls [.int p_i, .ref a_s]) rfl ?_
  obtain ⟨hPc, hDc, hFc⟩ := g5_sub3 (wc := [(a_s, (oc6 10 4 a_sn e_s))]) hP hD hS hA [3] (by decide +kernel) rfl
  refine va_calli (va_runV (As := [.int p_i]) (rest := []) ⟨hx, hb, hml, hown, hts⟩ (t_has_S l G a_s a_sn s.heap.size e_s p_i h_e_s) (cwV 1 hts gV_X11_160 rfl rfl rfl hv_X6_has ⟨Nat.le_of_ble_eq_true rfl, Nat.le_of_ble_eq_true rfl⟩) (g5_preV hPc hK hDc hN hT hS hFc (ci := 6) (q0 := 0) rfl rfl) rfl rfl hl.1 rfl (lv_room (Nat.le_of_ble_eq_true rfl)) dX11_drop_8 ⟨Nat.le_of_ble_eq_true rfl, Nat.le_of_ble_eq_true rfl⟩) hS (fun q _ h => hFc q h) hFc (fun r u t H locs ht hvm hw hB hz1 hk1 hS => ?_)
  obtain ⟨hP1, hD1⟩ := hB
  have hP1 := g5_ht ht hP1
  rcases hw with ⟨(i_1 : 0 ≤ p_i.toInt ∧ p_i.toInt < e_s.toInt), rfl, rfl⟩ | ⟨(i_2 : p_i.toInt < 0 ∨ e_s.toInt ≤ p_i.toInt), rfl, rfl⟩
  ·
    have hJ9 := va_join (wr := [(a_o, (oc11 a_h a_im a_ke a_k a_wa a_th a_ha a_wk a_r a_x e_tl e_fd e_fpl a_wd e_wn a_rf e_lr)), (a_rf, (arI G 5 f_rf)), (a_h, (oc1 e_wa e_le e_st e_fo e_lc a_l a_g a_b a_s a_p a_w e_gb a_bb)), (a_sn, (arI G 40 f_s))]) hP hD [3] [0, 1, 2, 4] rfl rfl (by decide +kernel) (by decide +kernel) hk1 hFc hP1 hD1
    clear hP hD hPc hDc hFc ht hvm hz1 hk1 hP1 hD1
    obtain ⟨hP, hD⟩ := hJ9
    refine g5_rs [(a_o, (oc11 a_h a_im a_ke a_k a_wa a_th a_ha a_wk a_r a_x e_tl e_fd e_fpl a_wd e_wn a_rf e_lr)), (a_rf, (arI G 5 f_rf)), (a_h, (oc1 e_wa e_le e_st e_fo e_lc a_l a_g a_b a_s a_p a_w e_gb a_bb)), (a_sn, (arI G 40 f_s)), (a_s, (oc6 10 4 a_sn e_s))] hP hD ?_
    clear hP hD
    intro hP hD
    refine lv_if_ne (tgt := 21) hx hb dX11_drop_11 (by decide +kernel) (fun c_3 => ?_) (fun c_3 => ?_)
    ·
      refine lv_aload_n hx hb dX11_drop_21 rfl (lv_at hl 0 rfl) ?_
      refine va_get (D := G.1) (ci := 11) (v := .ref a_h) (C := RX11) (T := TX11) (N := 17) hx hb hts inG_X11 hown hK hP 0 rfl rfl 0 (by decide +kernel) (hts _ fl_X11_12) (fun _ h9 => h9) rfl dX11_drop_22 ?_
      refine va_get (D := G.1) (ci := 1) (v := .ref a_s) (C := RX1) (T := TX1) (N := 13) hx hb hts inG_X1 hown hK hP 2 rfl rfl 8 (by decide +kernel) (hts _ fl_X11_261) (fun _ h9 => h9) rfl dX11_drop_25 ?_
      refine lv_iload_n hx hb dX11_drop_28 rfl (lv_at hl 1 rfl) ?_
      refine W.eq (g2 := F0 m 29 ls [.int p_i, .ref a_s]) rfl ?_
      obtain ⟨hPc, hDc, hFc⟩ := g5_sub3 (wc := [(a_s, (oc6 10 4 a_sn e_s)), (a_sn, (arI G 40 f_s))]) hP hD hS hA [4, 3] (by decide +kernel) rfl
      refine va_callv (va_runV (As := [.int p_i]) (rest := []) ⟨hx, hb, hml, hown, hts⟩ (t_remove_S l G a_s a_sn H.size e_s p_i f_s h_e_s) (cwV 1 hts gV_X11_271 rfl rfl rfl hv_X6_remove ⟨Nat.le_of_ble_eq_true rfl, Nat.le_of_ble_eq_true rfl⟩) (g5_preV hPc hK hDc hN hT hS hFc (ci := 6) (q0 := 0) rfl rfl) rfl rfl hl.1 rfl (lv_room (Nat.le_of_ble_eq_true rfl)) dX11_drop_29 ⟨Nat.le_of_ble_eq_true rfl, Nat.le_of_ble_eq_true rfl⟩) hS (fun q _ h => hFc q h) hFc (fun u t H locs ht hvm hw hB hz1 hk1 hS => ?_)
      obtain ⟨hP1, hD1⟩ := hB
      have hP1 := g5_ht ht hP1
      rcases hw with ⟨(i_4 : p_i.toInt < 0 ∨ e_s.toInt ≤ p_i.toInt), rfl⟩ | ⟨z8, (i_5 : 0 ≤ p_i.toInt ∧ p_i.toInt < e_s.toInt), (i_6 : (e_s - 1).toInt = e_s.toInt - 1), (i_7 : z8 = trem f_s e_s.toInt 4 p_i.toInt), rfl⟩
      ·
        have hJ9 := va_join (wr := [(a_o, (oc11 a_h a_im a_ke a_k a_wa a_th a_ha a_wk a_r a_x e_tl e_fd e_fpl a_wd e_wn a_rf e_lr)), (a_rf, (arI G 5 f_rf)), (a_h, (oc1 e_wa e_le e_st e_fo e_lc a_l a_g a_b a_s a_p a_w e_gb a_bb))]) hP hD [4, 3] [0, 1, 2] rfl rfl (by decide +kernel) (by decide +kernel) hk1 hFc hP1 hD1
        clear hP hD hPc hDc hFc ht hvm hz1 hk1 hP1 hD1
        obtain ⟨hP, hD⟩ := hJ9
        refine g5_rs [(a_o, (oc11 a_h a_im a_ke a_k a_wa a_th a_ha a_wk a_r a_x e_tl e_fd e_fpl a_wd e_wn a_rf e_lr)), (a_rf, (arI G 5 f_rf)), (a_h, (oc1 e_wa e_le e_st e_fo e_lc a_l a_g a_b a_s a_p a_w e_gb a_bb)), (a_s, (oc6 10 4 a_sn e_s)), (a_sn, (arI G 40 f_s))] hP hD ?_
        clear hP hD
        intro hP hD
        refine lv_aload_n hx hb dX11_drop_32 rfl (lv_at hl 0 rfl) ?_
        refine lv_aload_n hx hb dX11_drop_33 rfl (lv_at hl 0 rfl) ?_
        refine va_get (D := G.1) (ci := 11) (v := .ref a_h) (C := RX11) (T := TX11) (N := 17) hx hb hts inG_X11 hown hK hP 0 rfl rfl 0 (by decide +kernel) (hts _ fl_X11_12) (fun _ h9 => h9) rfl dX11_drop_34 ?_
        refine va_get (D := G.1) (ci := 1) (v := .ref a_s) (C := RX1) (T := TX1) (N := 13) hx hb hts inG_X1 hown hK hP 2 rfl rfl 8 (by decide +kernel) (hts _ fl_X11_261) (fun _ h9 => h9) rfl dX11_drop_37 ?_
        refine W.eq (g2 := F0 m 40 ls [.ref a_s, .ref a_o]) rfl ?_
        refine va_get (D := G.1) (ci := 6) (v := .int e_s) (C := RX6) (T := TX6) (N := 4) hx hb hts inG_X6 hown hK hP 3 rfl rfl 3 (by decide +kernel) (hts _ fl_X11_238) (fun _ h9 => h9) rfl dX11_drop_40 ?_
        obtain ⟨hPc, hDc, hFc⟩ := g5_sub3 (wc := [(a_o, (oc11 a_h a_im a_ke a_k a_wa a_th a_ha a_wk a_r a_x e_tl e_fd e_fpl a_wd e_wn a_rf e_lr))]) hP hD hS hA [0] (by decide +kernel) rfl
        refine va_calli (va_runV (As := [.int e_s]) (rest := []) ⟨hx, hb, hml, hown, hts⟩ (x_done l G a_o a_h a_im a_ke a_k a_wa a_th a_ha a_wk a_r a_x a_wd a_rf H.size e_tl e_fd e_fpl e_wn e_lr e_s h_e_tl h_e_wn) (cwV 1 hts gV_X11_121 rfl rfl rfl hv_X11_done ⟨Nat.le_of_ble_eq_true rfl, Nat.le_of_ble_eq_true rfl⟩) (g5_preV hPc hK hDc hN hT hS hFc (ci := 11) (q0 := 0) rfl rfl) rfl rfl hl.1 rfl (lv_room (Nat.le_of_ble_eq_true rfl)) dX11_drop_43 ⟨Nat.le_of_ble_eq_true rfl, Nat.le_of_ble_eq_true rfl⟩) hS (fun q _ h => hFc q h) hFc (fun r u t H locs ht hvm hw hB hz1 hk1 hS => ?_)
        obtain ⟨hP1, hD1⟩ := hB
        have hP1 := g5_ht ht hP1
        obtain ⟨y9, rfl⟩ := hw
        have hJ9 := va_join (wr := [(a_rf, (arI G 5 f_rf)), (a_h, (oc1 e_wa e_le e_st e_fo e_lc a_l a_g a_b a_s a_p a_w e_gb a_bb)), (a_s, (oc6 10 4 a_sn e_s)), (a_sn, (arI G 40 f_s))]) hP hD [0] [1, 2, 3, 4] rfl rfl (by decide +kernel) (by decide +kernel) hk1 hFc hP1 hD1
        clear hP hD hPc hDc hFc ht hvm hz1 hk1 hP1 hD1
        obtain ⟨hP, hD⟩ := hJ9
        refine g5_rs [(a_rf, (arI G 5 f_rf)), (a_h, (oc1 e_wa e_le e_st e_fo e_lc a_l a_g a_b a_s a_p a_w e_gb a_bb)), (a_s, (oc6 10 4 a_sn e_s)), (a_sn, (arI G 40 f_s)), (a_o, (oc11 a_h a_im a_ke a_k a_wa a_th a_ha a_wk a_r a_x e_tl e_fd e_fpl a_wd e_wn a_rf 0))] hP hD ?_
        clear hP hD
        intro hP hD
        refine g5_ti (v := e_s) y9 ?_
        exact W.iret (v := e_s) hx hb hr (fun t ht hW => ⟨⟨e_s, [(a_o, (oc11 a_h a_im a_ke a_k a_wa a_th a_ha a_wk a_r a_x e_tl e_fd e_fpl a_wd e_wn a_rf 0)), (a_rf, (arI G 5 f_rf)), (a_h, (oc1 e_wa e_le e_st e_fo e_lc a_l a_g a_b a_s a_p a_w e_gb a_bb)), (a_s, (oc6 10 4 a_sn e_s)), (a_sn, (arI G 40 f_s))], rfl, ⟨e_s, 0, f_rf, e_s, f_s, h_e_s, e_sh, e_s5, by exfalso; omega, by exfalso; omega, rfl, rfl⟩, by rw [ht]; exact hP.sub [4, 0, 1, 2, 3] rfl, hD.sub [4, 0, 1, 2, 3] (by decide +kernel) rfl⟩, hS.F ht⟩) hS.2.2 dX11_drop_46
      ·
        have hJ9 := va_join (wr := [(a_o, (oc11 a_h a_im a_ke a_k a_wa a_th a_ha a_wk a_r a_x e_tl e_fd e_fpl a_wd e_wn a_rf e_lr)), (a_rf, (arI G 5 f_rf)), (a_h, (oc1 e_wa e_le e_st e_fo e_lc a_l a_g a_b a_s a_p a_w e_gb a_bb))]) hP hD [4, 3] [0, 1, 2] rfl rfl (by decide +kernel) (by decide +kernel) hk1 hFc hP1 hD1
        clear hP hD hPc hDc hFc ht hvm hz1 hk1 hP1 hD1
        obtain ⟨hP, hD⟩ := hJ9
        refine g5_rs [(a_o, (oc11 a_h a_im a_ke a_k a_wa a_th a_ha a_wk a_r a_x e_tl e_fd e_fpl a_wd e_wn a_rf e_lr)), (a_rf, (arI G 5 f_rf)), (a_h, (oc1 e_wa e_le e_st e_fo e_lc a_l a_g a_b a_s a_p a_w e_gb a_bb)), (a_s, (oc6 10 4 a_sn (e_s - 1))), (a_sn, (arI G 40 z8))] hP hD ?_
        clear hP hD
        intro hP hD
        refine lv_aload_n hx hb dX11_drop_32 rfl (lv_at hl 0 rfl) ?_
        refine lv_aload_n hx hb dX11_drop_33 rfl (lv_at hl 0 rfl) ?_
        refine va_get (D := G.1) (ci := 11) (v := .ref a_h) (C := RX11) (T := TX11) (N := 17) hx hb hts inG_X11 hown hK hP 0 rfl rfl 0 (by decide +kernel) (hts _ fl_X11_12) (fun _ h9 => h9) rfl dX11_drop_34 ?_
        refine va_get (D := G.1) (ci := 1) (v := .ref a_s) (C := RX1) (T := TX1) (N := 13) hx hb hts inG_X1 hown hK hP 2 rfl rfl 8 (by decide +kernel) (hts _ fl_X11_261) (fun _ h9 => h9) rfl dX11_drop_37 ?_
        refine W.eq (g2 := F0 m 40 ls [.ref a_s, .ref a_o]) rfl ?_
        refine va_get (D := G.1) (ci := 6) (v := .int (e_s - 1)) (C := RX6) (T := TX6) (N := 4) hx hb hts inG_X6 hown hK hP 3 rfl rfl 3 (by decide +kernel) (hts _ fl_X11_238) (fun _ h9 => h9) rfl dX11_drop_40 ?_
        obtain ⟨hPc, hDc, hFc⟩ := g5_sub3 (wc := [(a_o, (oc11 a_h a_im a_ke a_k a_wa a_th a_ha a_wk a_r a_x e_tl e_fd e_fpl a_wd e_wn a_rf e_lr))]) hP hD hS hA [0] (by decide +kernel) rfl
        refine va_calli (va_runV (As := [.int (e_s - 1)]) (rest := []) ⟨hx, hb, hml, hown, hts⟩ (x_done l G a_o a_h a_im a_ke a_k a_wa a_th a_ha a_wk a_r a_x a_wd a_rf H.size e_tl e_fd e_fpl e_wn e_lr (e_s - 1) h_e_tl h_e_wn) (cwV 1 hts gV_X11_121 rfl rfl rfl hv_X11_done ⟨Nat.le_of_ble_eq_true rfl, Nat.le_of_ble_eq_true rfl⟩) (g5_preV hPc hK hDc hN hT hS hFc (ci := 11) (q0 := 0) rfl rfl) rfl rfl hl.1 rfl (lv_room (Nat.le_of_ble_eq_true rfl)) dX11_drop_43 ⟨Nat.le_of_ble_eq_true rfl, Nat.le_of_ble_eq_true rfl⟩) hS (fun q _ h => hFc q h) hFc (fun r u t H locs ht hvm hw hB hz1 hk1 hS => ?_)
        obtain ⟨hP1, hD1⟩ := hB
        have hP1 := g5_ht ht hP1
        obtain ⟨rfl, rfl⟩ := hw
        have hJ9 := va_join (wr := [(a_rf, (arI G 5 f_rf)), (a_h, (oc1 e_wa e_le e_st e_fo e_lc a_l a_g a_b a_s a_p a_w e_gb a_bb)), (a_s, (oc6 10 4 a_sn (e_s - 1))), (a_sn, (arI G 40 z8))]) hP hD [0] [1, 2, 3, 4] rfl rfl (by decide +kernel) (by decide +kernel) hk1 hFc hP1 hD1
        clear hP hD hPc hDc hFc ht hvm hz1 hk1 hP1 hD1
        obtain ⟨hP, hD⟩ := hJ9
        refine g5_rs [(a_rf, (arI G 5 f_rf)), (a_h, (oc1 e_wa e_le e_st e_fo e_lc a_l a_g a_b a_s a_p a_w e_gb a_bb)), (a_s, (oc6 10 4 a_sn (e_s - 1))), (a_sn, (arI G 40 z8)), (a_o, (oc11 a_h a_im a_ke a_k a_wa a_th a_ha a_wk a_r a_x e_tl e_fd e_fpl a_wd e_wn a_rf 0))] hP hD ?_
        clear hP hD
        intro hP hD
        exact W.iret (v := (e_s - 1)) hx hb hr (fun t ht hW => ⟨⟨(e_s - 1), [(a_o, (oc11 a_h a_im a_ke a_k a_wa a_th a_ha a_wk a_r a_x e_tl e_fd e_fpl a_wd e_wn a_rf 0)), (a_rf, (arI G 5 f_rf)), (a_h, (oc1 e_wa e_le e_st e_fo e_lc a_l a_g a_b a_s a_p a_w e_gb a_bb)), (a_s, (oc6 10 4 a_sn (e_s - 1))), (a_sn, (arI G 40 z8))], rfl, ⟨(e_s - 1), 0, f_rf, (e_s - 1), z8, ⟨by omega, by omega⟩, by rw [i_7]; exact sg_rem01 e_sh ⟨by omega, by omega⟩ (by omega), by rw [i_7]; exact sg_rem5 e_sh e_s5 ⟨by omega, by omega⟩ (by omega), by rw [(drop_0 (f := f_ro) (i := p_i) (isi_y e_hs ⟨by omega, by omega⟩)).1, e_hs.2.1], by rw [i_7]; exact hs_drop e_hs ⟨by omega, by omega⟩ (by omega), rfl, rfl⟩, by rw [ht]; exact hP.sub [4, 0, 1, 2, 3] rfl, hD.sub [4, 0, 1, 2, 3] (by decide +kernel) rfl⟩, hS.F ht⟩) hS.2.2 dX11_drop_46
    ·
      exact absurd c_3 (by decide +kernel)
  ·
    have hJ9 := va_join (wr := [(a_o, (oc11 a_h a_im a_ke a_k a_wa a_th a_ha a_wk a_r a_x e_tl e_fd e_fpl a_wd e_wn a_rf e_lr)), (a_rf, (arI G 5 f_rf)), (a_h, (oc1 e_wa e_le e_st e_fo e_lc a_l a_g a_b a_s a_p a_w e_gb a_bb)), (a_sn, (arI G 40 f_s))]) hP hD [3] [0, 1, 2, 4] rfl rfl (by decide +kernel) (by decide +kernel) hk1 hFc hP1 hD1
    clear hP hD hPc hDc hFc ht hvm hz1 hk1 hP1 hD1
    obtain ⟨hP, hD⟩ := hJ9
    refine g5_rs [(a_o, (oc11 a_h a_im a_ke a_k a_wa a_th a_ha a_wk a_r a_x e_tl e_fd e_fpl a_wd e_wn a_rf e_lr)), (a_rf, (arI G 5 f_rf)), (a_h, (oc1 e_wa e_le e_st e_fo e_lc a_l a_g a_b a_s a_p a_w e_gb a_bb)), (a_sn, (arI G 40 f_s)), (a_s, (oc6 10 4 a_sn e_s))] hP hD ?_
    clear hP hD
    intro hP hD
    refine lv_if_ne (tgt := 21) hx hb dX11_drop_11 (by decide +kernel) (fun c_10 => ?_) (fun c_10 => ?_)
    ·
      exact absurd c_10 (by decide +kernel)
    ·
      refine lv_aload_n hx hb dX11_drop_14 rfl (lv_at hl 0 rfl) ?_
      refine lv_bipush (v := (-2)) hx hb dX11_drop_15 (by decide +kernel) ?_
      obtain ⟨hPc, hDc, hFc⟩ := g5_sub3 (wc := [(a_o, (oc11 a_h a_im a_ke a_k a_wa a_th a_ha a_wk a_r a_x e_tl e_fd e_fpl a_wd e_wn a_rf e_lr)), (a_rf, (arI G 5 f_rf))]) hP hD hS hA [0, 1] (by decide +kernel) rfl
      refine va_calli (va_runV (As := [.int (-2)]) (rest := []) ⟨hx, hb, hml, hown, hts⟩ (x_refuse2 l G a_o a_rf a_h a_im a_ke a_k a_wa a_th a_ha a_wk a_r a_x a_wd H.size e_tl e_fd e_fpl e_wn e_lr f_rf h_e_tl h_e_wn) (cwV 1 hts gV_X11_104 rfl rfl rfl hv_X11_refuse ⟨Nat.le_of_ble_eq_true rfl, Nat.le_of_ble_eq_true rfl⟩) (g5_preV hPc hK hDc hN hT hS hFc (ci := 11) (q0 := 0) rfl rfl) rfl rfl hl.1 rfl (lv_room (Nat.le_of_ble_eq_true rfl)) dX11_drop_17 ⟨Nat.le_of_ble_eq_true rfl, Nat.le_of_ble_eq_true rfl⟩) hS (fun q _ h => hFc q h) hFc (fun r u t H locs ht hvm hw hB hz1 hk1 hS => ?_)
      obtain ⟨hP1, hD1⟩ := hB
      have hP1 := g5_ht ht hP1
      obtain ⟨z11, rfl, rfl⟩ := hw
      have hJ9 := va_join (wr := [(a_h, (oc1 e_wa e_le e_st e_fo e_lc a_l a_g a_b a_s a_p a_w e_gb a_bb)), (a_sn, (arI G 40 f_s)), (a_s, (oc6 10 4 a_sn e_s))]) hP hD [0, 1] [2, 3, 4] rfl rfl (by decide +kernel) (by decide +kernel) hk1 hFc hP1 hD1
      clear hP hD hPc hDc hFc ht hvm hz1 hk1 hP1 hD1
      obtain ⟨hP, hD⟩ := hJ9
      refine g5_rs [(a_h, (oc1 e_wa e_le e_st e_fo e_lc a_l a_g a_b a_s a_p a_w e_gb a_bb)), (a_sn, (arI G 40 f_s)), (a_s, (oc6 10 4 a_sn e_s)), (a_o, (oc11 a_h a_im a_ke a_k a_wa a_th a_ha a_wk a_r a_x e_tl e_fd e_fpl a_wd e_wn a_rf (-2))), (a_rf, (arI G 5 z11))] hP hD ?_
      clear hP hD
      intro hP hD
      exact W.iret (v := (-2)) hx hb hr (fun t ht hW => ⟨⟨(-2), [(a_o, (oc11 a_h a_im a_ke a_k a_wa a_th a_ha a_wk a_r a_x e_tl e_fd e_fpl a_wd e_wn a_rf (-2))), (a_rf, (arI G 5 z11)), (a_h, (oc1 e_wa e_le e_st e_fo e_lc a_l a_g a_b a_s a_p a_w e_gb a_bb)), (a_s, (oc6 10 4 a_sn e_s)), (a_sn, (arI G 40 f_s))], rfl, ⟨(-2), (-2), z11, e_s, f_s, h_e_s, e_sh, e_s5, (drop_2 (f := f_ro) (i := p_i) (isi_n e_hs (by omega))).1.symm, by rw [(drop_2 (f := f_ro) (i := p_i) (isi_n e_hs (by omega))).2]; exact e_hs, rfl, rfl⟩, by rw [ht]; exact hP.sub [3, 4, 0, 2, 1] rfl, hD.sub [3, 4, 0, 2, 1] (by decide +kernel) rfl⟩, hS.F ht⟩) hS.2.2 dX11_drop_20
set_option maxHeartbeats 4000000 in
set_option maxRecDepth 100000 in
theorem x_spotX (l : Launch) (G : g5_G) (a_o a_rf a_h a_p a_pn a_im a_ke a_k a_wa a_th a_ha a_wk a_r a_x a_wd a_l a_g a_b a_s a_w a_bb : Nat) (sz : Nat) (e_tl : Int32) (e_fd : Int32) (e_fpl : Int32) (e_wn : Int32) (e_lr : Int32) (e_le : Int32) (e_st : Int32) (e_fo : Int32) (e_lc : Int32) (e_p : Int32) (p_c : Int32) (p_s : Int32) (p_l : Int32) (e_g : Int32) (e_wa : Int64) (e_gb : Int64) (f_rf : Nat → Int32) (f_p : Nat → Int32) (f_ro : Nat → Int32) (f_g : Nat → Int32) (h_e_tl : 0 ≤ e_tl.toInt ∧ e_tl.toInt ≤ 400) (h_e_wn : 0 ≤ e_wn.toInt ∧ e_wn.toInt ≤ 1) (h_e_p : 0 ≤ e_p.toInt ∧ e_p.toInt ≤ 8) (e_pk : gOK f_p e_p.toInt) (e_hh : QH e_wa e_le e_st f_ro) (e_hg : QG e_g f_g e_gb f_ro) (e_hp : QP e_p f_p f_ro) : Met l yX11_spot (wsG yX11_spot cX11_spot 5 (some .int)) ({ frames := 3, cells := 0, slots := 0, locals := 67 }) (va_Pc [.ref a_o, .int p_c, .int p_s, .int p_l] (g5_P G [(a_o, (oc11 a_h a_im a_ke a_k a_wa a_th a_ha a_wk a_r a_x e_tl e_fd e_fpl a_wd e_wn a_rf e_lr)), (a_rf, (arI G 5 f_rf)), (a_h, (oc1 e_wa e_le e_st e_fo e_lc a_l a_g a_b a_s a_p a_w e_gb a_bb)), (a_p, (oc6 8 5 a_pn e_p)), (a_pn, (arI G 40 f_p))] sz)) (va_Qi (fun (r : Int32) (u : va_W) => (∃ (o_r : Int32) (o_lr : Int32) (o_rf : Nat → Int32) (o_n : Int32) (o_f : Nat → Int32), (0 ≤ o_n.toInt ∧ o_n.toInt ≤ 8) ∧ (gOK o_f o_n.toInt) ∧ (o_r = aspot f_ro p_c p_s p_l) ∧ (QP o_n o_f (sspot f_ro p_c p_s p_l)) ∧ (r = o_r) ∧ (u = [(a_o, (oc11 a_h a_im a_ke a_k a_wa a_th a_ha a_wk a_r a_x e_tl e_fd e_fpl a_wd e_wn a_rf o_lr)), (a_rf, (arI G 5 o_rf)), (a_h, (oc1 e_wa e_le e_st e_fo e_lc a_l a_g a_b a_s a_p a_w e_gb a_bb)), (a_p, (oc6 8 5 a_pn o_n)), (a_pn, (arI G 40 o_f))]))) (g5_B G (va_A [(a_o, (oc11 a_h a_im a_ke a_k a_wa a_th a_ha a_wk a_r a_x e_tl e_fd e_fpl a_wd e_wn a_rf e_lr)), (a_rf, (arI G 5 f_rf)), (a_h, (oc1 e_wa e_le e_st e_fo e_lc a_l a_g a_b a_s a_p a_w e_gb a_bb)), (a_p, (oc6 8 5 a_pn e_p)), (a_pn, (arI G 40 f_p))] sz)) (va_A [(a_o, (oc11 a_h a_im a_ke a_k a_wa a_th a_ha a_wk a_r a_x e_tl e_fd e_fpl a_wd e_wn a_rf e_lr)), (a_rf, (arI G 5 f_rf)), (a_h, (oc1 e_wa e_le e_st e_fo e_lc a_l a_g a_b a_s a_p a_w e_gb a_bb)), (a_p, (oc6 8 5 a_pn e_p)), (a_pn, (arI G 40 f_p))] sz)) 0 0 (va_A [(a_o, (oc11 a_h a_im a_ke a_k a_wa a_th a_ha a_wk a_r a_x e_tl e_fd e_fpl a_wd e_wn a_rf e_lr)), (a_rf, (arI G 5 f_rf)), (a_h, (oc1 e_wa e_le e_st e_fo e_lc a_l a_g a_b a_s a_p a_w e_gb a_bb)), (a_p, (oc6 8 5 a_pn e_p)), (a_pn, (arI G 40 f_p))] sz) := by
  refine Met.ofW (cc := cX11_spot) (maxL := 5) (ret := (some .int)) (by decide +kernel) rfl ?_
  intro p e s m args below meth c s₁ B hml hv
  obtain ⟨rfl, hsz, hP, hK, hD0, hN, hT⟩ := hv
  have hx := B.exec
  have hb := B.bytes
  have hr := B.returns
  have hts : ∀ w ∈ tblG, w.before _ s = true := fun w h => atoms_spec (ws := (wsG yX11_spot cX11_spot 5 (some .int))) B.pre w (List.mem_cons_of_mem _ h)
  have hown : s.vm.findClass RX11 = some m.cls := findClass_of_methodNamed B.named
  have hlocks := B.notSynchronized
  subst hsz
  have hD := hD0.self (sz := s.heap.size)
  generalize hAe : va_A [(a_o, (oc11 a_h a_im a_ke a_k a_wa a_th a_ha a_wk a_r a_x e_tl e_fd e_fpl a_wd e_wn a_rf e_lr)), (a_rf, (arI G 5 f_rf)), (a_h, (oc1 e_wa e_le e_st e_fo e_lc a_l a_g a_b a_s a_p a_w e_gb a_bb)), (a_p, (oc6 8 5 a_pn e_p)), (a_pn, (arI G 40 f_p))] s.heap.size = A at hD hT ⊢
  have hA : ∀ q : Nat, s.heap.size ≤ q → A q := fun q h => by rw [← hAe]; exact Or.inr h
  have hS : va_S A s.heap s.heap [] := va_S.rf
  replace hP : va_P G.1 vwCl [(a_o, (oc11 a_h a_im a_ke a_k a_wa a_th a_ha a_wk a_r a_x e_tl e_fd e_fpl a_wd e_wn a_rf e_lr)), (a_rf, (arI G 5 f_rf)), (a_h, (oc1 e_wa e_le e_st e_fo e_lc a_l a_g a_b a_s a_p a_w e_gb a_bb)), (a_p, (oc6 8 5 a_pn e_p)), (a_pn, (arI G 40 f_p))] s.heap := hP
  have hl := lv_entry ([.ref a_o, .int p_c, .int p_s, .int p_l]) (n := 5) (Nat.le_of_ble_eq_true rfl)
  rw [lg_entry_eq]
  generalize (lg_sl ([.ref a_o, .int p_c, .int p_s, .int p_l]) ++ List.replicate (5 - (lg_sl ([.ref a_o, .int p_c, .int p_s, .int p_l])).length) Slot.unset).toArray = ls at hl ⊢
  replace hl : lv_has ls 5 [(0, .ref a_o), (1, .int p_c), (2, .int p_s), (3, .int p_l)] := hl
  refine lv_iload_n hx hb dX11_spot_0 rfl (lv_at hl 1 rfl) ?_
  obtain ⟨hPc, hDc, hFc⟩ := g5_sub3 (wc := []) hP hD hS hA [] (by decide +kernel) rfl
  refine va_calli (va_runS (As := [.int p_c]) (rest := []) ⟨hx, hb, hml, hown, hts⟩ (x_isCellX l G s.heap.size p_c) (va_cwS 1 hts gS_X11_97 rfl rfl rfl hs_X11_isCell ⟨Nat.le_of_ble_eq_true rfl, Nat.le_of_ble_eq_true rfl⟩) (g5_preS hPc hK hDc hN hT hS hFc) rfl rfl hl.1 rfl (lv_room (Nat.le_of_ble_eq_true rfl)) dX11_spot_1 ⟨Nat.le_of_ble_eq_true rfl, Nat.le_of_ble_eq_true rfl⟩) hS (fun q _ h => hFc q h) hFc (fun r u t H locs ht hvm hw hB hz1 hk1 hS => ?_)
  obtain ⟨hP1, hD1⟩ := hB
  have hP1 := g5_ht ht hP1
  rcases hw with ⟨(i_1 : 0 ≤ p_c.toInt ∧ p_c.toInt ≤ 63), rfl, rfl⟩ | ⟨(i_2 : p_c.toInt < 0 ∨ 63 < p_c.toInt), rfl, rfl⟩
  ·
    have hJ9 := g5_same hP hk1
    clear hP hPc hDc hFc ht hvm hz1 hk1 hP1 hD1
    have hP := hJ9
    clear hJ9
    refine lv_if_eq (tgt := 21) hx hb dX11_spot_4 (by decide +kernel) (fun c_3 => ?_) (fun c_3 => ?_)
    ·
      exact absurd c_3 (by decide +kernel)
    ·
      refine lv_iload_n hx hb dX11_spot_7 rfl (lv_at hl 2 rfl) ?_
      obtain ⟨hPc, hDc, hFc⟩ := g5_sub3 (wc := []) hP hD hS hA [] (by decide +kernel) rfl
      refine va_calli (va_runS (As := [.int p_s]) (rest := []) ⟨hx, hb, hml, hown, hts⟩ (x_isSortX l G H.size p_s) (va_cwS 1 hts gS_X11_124 rfl rfl rfl hs_X11_isSort ⟨Nat.le_of_ble_eq_true rfl, Nat.le_of_ble_eq_true rfl⟩) (g5_preS hPc hK hDc hN hT hS hFc) rfl rfl hl.1 rfl (lv_room (Nat.le_of_ble_eq_true rfl)) dX11_spot_8 ⟨Nat.le_of_ble_eq_true rfl, Nat.le_of_ble_eq_true rfl⟩) hS (fun q _ h => hFc q h) hFc (fun r u t H locs ht hvm hw hB hz1 hk1 hS => ?_)
      obtain ⟨hP1, hD1⟩ := hB
      have hP1 := g5_ht ht hP1
      rcases hw with ⟨(i_4 : 0 ≤ p_s.toInt ∧ p_s.toInt ≤ 5), rfl, rfl⟩ | ⟨(i_5 : p_s.toInt < 0 ∨ 5 < p_s.toInt), rfl, rfl⟩
      ·
        have hJ9 := g5_same hP hk1
        clear hP hPc hDc hFc ht hvm hz1 hk1 hP1 hD1
        have hP := hJ9
        clear hJ9
        refine lv_if_eq (tgt := 21) hx hb dX11_spot_11 (by decide +kernel) (fun c_6 => ?_) (fun c_6 => ?_)
        ·
          exact absurd c_6 (by decide +kernel)
        ·
          refine lv_iload_n hx hb dX11_spot_14 rfl (lv_at hl 3 rfl) ?_
          obtain ⟨hPc, hDc, hFc⟩ := g5_sub3 (wc := []) hP hD hS hA [] (by decide +kernel) rfl
          refine va_calli (va_runS (As := [.int p_l]) (rest := []) ⟨hx, hb, hml, hown, hts⟩ (x_isHourX l G H.size p_l) (va_cwS 1 hts gS_X11_127 rfl rfl rfl hs_X11_isHour ⟨Nat.le_of_ble_eq_true rfl, Nat.le_of_ble_eq_true rfl⟩) (g5_preS hPc hK hDc hN hT hS hFc) rfl rfl hl.1 rfl (lv_room (Nat.le_of_ble_eq_true rfl)) dX11_spot_15 ⟨Nat.le_of_ble_eq_true rfl, Nat.le_of_ble_eq_true rfl⟩) hS (fun q _ h => hFc q h) hFc (fun r u t H locs ht hvm hw hB hz1 hk1 hS => ?_)
          obtain ⟨hP1, hD1⟩ := hB
          have hP1 := g5_ht ht hP1
          rcases hw with ⟨(i_7 : 0 ≤ p_l.toInt ∧ p_l.toInt ≤ 23), rfl, rfl⟩ | ⟨(i_8 : p_l.toInt < 0 ∨ 23 < p_l.toInt), rfl, rfl⟩
          ·
            have hJ9 := g5_same hP hk1
            clear hP hPc hDc hFc ht hvm hz1 hk1 hP1 hD1
            have hP := hJ9
            clear hJ9
            refine lv_if_ne (tgt := 27) hx hb dX11_spot_18 (by decide +kernel) (fun c_9 => ?_) (fun c_9 => ?_)
            ·
              refine lv_aload_n hx hb dX11_spot_27 rfl (lv_at hl 0 rfl) ?_
              refine va_get (D := G.1) (ci := 11) (v := .ref a_h) (C := RX11) (T := TX11) (N := 17) hx hb hts inG_X11 hown hK hP 0 rfl rfl 0 (by decide +kernel) (hts _ fl_X11_12) (fun _ h9 => h9) rfl dX11_spot_28 ?_
              refine lv_iload_n hx hb dX11_spot_31 rfl (lv_at hl 1 rfl) ?_
              obtain ⟨hPc, hDc, hFc⟩ := g5_sub3 (wc := [(a_h, (oc1 e_wa e_le e_st e_fo e_lc a_l a_g a_b a_s a_p a_w e_gb a_bb)), (a_p, (oc6 8 5 a_pn e_p)), (a_pn, (arI G 40 f_p))]) hP hD hS hA [2, 3, 4] (by decide +kernel) rfl
              refine va_calli (va_runV (As := [.int p_c]) (rest := []) ⟨hx, hb, hml, hown, hts⟩ (h_canHang l G a_h a_p a_pn a_l a_g a_b a_s a_w a_bb H.size e_le e_st e_fo e_lc e_p p_c e_wa e_gb f_p h_e_p i_1) (cwV 1 hts gV_X11_133 rfl rfl rfl hv_X1_canHang ⟨Nat.le_of_ble_eq_true rfl, Nat.le_of_ble_eq_true rfl⟩) (g5_preV hPc hK hDc hN hT hS hFc (ci := 1) (q0 := 0) rfl rfl) rfl rfl hl.1 rfl (lv_room (Nat.le_of_ble_eq_true rfl)) dX11_spot_32 ⟨Nat.le_of_ble_eq_true rfl, Nat.le_of_ble_eq_true rfl⟩) hS (fun q _ h => hFc q h) hFc (fun r u t H locs ht hvm hw hB hz1 hk1 hS => ?_)
              obtain ⟨hP1, hD1⟩ := hB
              have hP1 := g5_ht ht hP1
              rcases hw with ⟨(i_10 : onB (e_wa ||| e_gb) p_c.toInt = false), (i_11 : ∀ r : Int, 0 ≤ r → r < e_p.toInt → tget f_p e_p.toInt 5 r (0 : Int32).toInt ≠ p_c), rfl, rfl⟩ | ⟨(i_12 : onB (e_wa ||| e_gb) p_c.toInt = true ∨ ∃ r : Int, 0 ≤ r ∧ r < e_p.toInt ∧ tget f_p e_p.toInt 5 r (0 : Int32).toInt = p_c), rfl, rfl⟩
              ·
                have hJ9 := va_join (wr := [(a_o, (oc11 a_h a_im a_ke a_k a_wa a_th a_ha a_wk a_r a_x e_tl e_fd e_fpl a_wd e_wn a_rf e_lr)), (a_rf, (arI G 5 f_rf))]) hP hD [2, 3, 4] [0, 1] rfl rfl (by decide +kernel) (by decide +kernel) hk1 hFc hP1 hD1
                clear hP hD hPc hDc hFc ht hvm hz1 hk1 hP1 hD1
                obtain ⟨hP, hD⟩ := hJ9
                refine g5_rs [(a_o, (oc11 a_h a_im a_ke a_k a_wa a_th a_ha a_wk a_r a_x e_tl e_fd e_fpl a_wd e_wn a_rf e_lr)), (a_rf, (arI G 5 f_rf)), (a_h, (oc1 e_wa e_le e_st e_fo e_lc a_l a_g a_b a_s a_p a_w e_gb a_bb)), (a_p, (oc6 8 5 a_pn e_p)), (a_pn, (arI G 40 f_p))] hP hD ?_
                clear hP hD
                intro hP hD
                refine lv_if_ne (tgt := 45) hx hb dX11_spot_35 (by decide +kernel) (fun c_13 => ?_) (fun c_13 => ?_)
                ·
                  refine lv_aload_n hx hb dX11_spot_45 rfl (lv_at hl 0 rfl) ?_
                  refine va_get (D := G.1) (ci := 11) (v := .ref a_h) (C := RX11) (T := TX11) (N := 17) hx hb hts inG_X11 hown hK hP 0 rfl rfl 0 (by decide +kernel) (hts _ fl_X11_12) (fun _ h9 => h9) rfl dX11_spot_46 ?_
                  refine va_get (D := G.1) (ci := 1) (v := .ref a_p) (C := RX1) (T := TX1) (N := 13) hx hb hts inG_X1 hown hK hP 2 rfl rfl 9 (by decide +kernel) (hts _ fl_X11_306) (fun _ h9 => h9) rfl dX11_spot_49 ?_
                  obtain ⟨hPc, hDc, hFc⟩ := g5_sub3 (wc := [(a_p, (oc6 8 5 a_pn e_p))]) hP hD hS hA [3] (by decide +kernel) rfl
                  refine va_calli (va_runV (As := []) (rest := []) ⟨hx, hb, hml, hown, hts⟩ (t_isFull_P l G a_p a_pn H.size e_p h_e_p) (cwV 0 hts gV_X11_140 rfl rfl rfl hv_X6_isFull ⟨Nat.le_of_ble_eq_true rfl, Nat.le_of_ble_eq_true rfl⟩) (g5_preV hPc hK hDc hN hT hS hFc (ci := 6) (q0 := 0) rfl rfl) rfl rfl hl.1 rfl (lv_room (Nat.le_of_ble_eq_true rfl)) dX11_spot_52 ⟨Nat.le_of_ble_eq_true rfl, Nat.le_of_ble_eq_true rfl⟩) hS (fun q _ h => hFc q h) hFc (fun r u t H locs ht hvm hw hB hz1 hk1 hS => ?_)
                  obtain ⟨hP1, hD1⟩ := hB
                  have hP1 := g5_ht ht hP1
                  rcases hw with ⟨(i_14 : e_p.toInt = 8), rfl, rfl⟩ | ⟨(i_15 : e_p.toInt < 8), rfl, rfl⟩
                  ·
                    have hJ9 := va_join (wr := [(a_o, (oc11 a_h a_im a_ke a_k a_wa a_th a_ha a_wk a_r a_x e_tl e_fd e_fpl a_wd e_wn a_rf e_lr)), (a_rf, (arI G 5 f_rf)), (a_h, (oc1 e_wa e_le e_st e_fo e_lc a_l a_g a_b a_s a_p a_w e_gb a_bb)), (a_pn, (arI G 40 f_p))]) hP hD [3] [0, 1, 2, 4] rfl rfl (by decide +kernel) (by decide +kernel) hk1 hFc hP1 hD1
                    clear hP hD hPc hDc hFc ht hvm hz1 hk1 hP1 hD1
                    obtain ⟨hP, hD⟩ := hJ9
                    refine g5_rs [(a_o, (oc11 a_h a_im a_ke a_k a_wa a_th a_ha a_wk a_r a_x e_tl e_fd e_fpl a_wd e_wn a_rf e_lr)), (a_rf, (arI G 5 f_rf)), (a_h, (oc1 e_wa e_le e_st e_fo e_lc a_l a_g a_b a_s a_p a_w e_gb a_bb)), (a_pn, (arI G 40 f_p)), (a_p, (oc6 8 5 a_pn e_p))] hP hD ?_
                    clear hP hD
                    intro hP hD
                    refine lv_if_eq (tgt := 65) hx hb dX11_spot_55 (by decide +kernel) (fun c_16 => ?_) (fun c_16 => ?_)
                    ·
                      exact absurd c_16 (by decide +kernel)
                    ·
                      refine lv_aload_n hx hb dX11_spot_58 rfl (lv_at hl 0 rfl) ?_
                      refine lv_bipush (v := (-5)) hx hb dX11_spot_59 (by decide +kernel) ?_
                      obtain ⟨hPc, hDc, hFc⟩ := g5_sub3 (wc := [(a_o, (oc11 a_h a_im a_ke a_k a_wa a_th a_ha a_wk a_r a_x e_tl e_fd e_fpl a_wd e_wn a_rf e_lr)), (a_rf, (arI G 5 f_rf))]) hP hD hS hA [0, 1] (by decide +kernel) rfl
                      refine va_calli (va_runV (As := [.int (-5)]) (rest := []) ⟨hx, hb, hml, hown, hts⟩ (x_refuse5 l G a_o a_rf a_h a_im a_ke a_k a_wa a_th a_ha a_wk a_r a_x a_wd H.size e_tl e_fd e_fpl e_wn e_lr f_rf h_e_tl h_e_wn) (cwV 1 hts gV_X11_104 rfl rfl rfl hv_X11_refuse ⟨Nat.le_of_ble_eq_true rfl, Nat.le_of_ble_eq_true rfl⟩) (g5_preV hPc hK hDc hN hT hS hFc (ci := 11) (q0 := 0) rfl rfl) rfl rfl hl.1 rfl (lv_room (Nat.le_of_ble_eq_true rfl)) dX11_spot_61 ⟨Nat.le_of_ble_eq_true rfl, Nat.le_of_ble_eq_true rfl⟩) hS (fun q _ h => hFc q h) hFc (fun r u t H locs ht hvm hw hB hz1 hk1 hS => ?_)
                      obtain ⟨hP1, hD1⟩ := hB
                      have hP1 := g5_ht ht hP1
                      obtain ⟨z17, rfl, rfl⟩ := hw
                      have hJ9 := va_join (wr := [(a_h, (oc1 e_wa e_le e_st e_fo e_lc a_l a_g a_b a_s a_p a_w e_gb a_bb)), (a_pn, (arI G 40 f_p)), (a_p, (oc6 8 5 a_pn e_p))]) hP hD [0, 1] [2, 3, 4] rfl rfl (by decide +kernel) (by decide +kernel) hk1 hFc hP1 hD1
                      clear hP hD hPc hDc hFc ht hvm hz1 hk1 hP1 hD1
                      obtain ⟨hP, hD⟩ := hJ9
                      refine g5_rs [(a_h, (oc1 e_wa e_le e_st e_fo e_lc a_l a_g a_b a_s a_p a_w e_gb a_bb)), (a_pn, (arI G 40 f_p)), (a_p, (oc6 8 5 a_pn e_p)), (a_o, (oc11 a_h a_im a_ke a_k a_wa a_th a_ha a_wk a_r a_x e_tl e_fd e_fpl a_wd e_wn a_rf (-5))), (a_rf, (arI G 5 z17))] hP hD ?_
                      clear hP hD
                      intro hP hD
                      exact W.iret (v := (-5)) hx hb hr (fun t ht hW => ⟨⟨(-5), [(a_o, (oc11 a_h a_im a_ke a_k a_wa a_th a_ha a_wk a_r a_x e_tl e_fd e_fpl a_wd e_wn a_rf (-5))), (a_rf, (arI G 5 z17)), (a_h, (oc1 e_wa e_le e_st e_fo e_lc a_l a_g a_b a_s a_p a_w e_gb a_bb)), (a_p, (oc6 8 5 a_pn e_p)), (a_pn, (arI G 40 f_p))], rfl, ⟨(-5), (-5), z17, e_p, f_p, h_e_p, e_pk, (spot_5 (f := f_ro) (c := p_c) (s := p_s) (l := p_l) (by unfold okP; omega) (cn_y e_hh e_hg e_hp ⟨by omega, by omega⟩ i_10 i_11) (by rw [e_hp.2.1]; omega)).1.symm, by rw [(spot_5 (f := f_ro) (c := p_c) (s := p_s) (l := p_l) (by unfold okP; omega) (cn_y e_hh e_hg e_hp ⟨by omega, by omega⟩ i_10 i_11) (by rw [e_hp.2.1]; omega)).2]; exact e_hp, rfl, rfl⟩, by rw [ht]; exact hP.sub [3, 4, 0, 2, 1] rfl, hD.sub [3, 4, 0, 2, 1] (by decide +kernel) rfl⟩, hS.F ht⟩) hS.2.2 dX11_spot_64
                  ·
                    have hJ9 := va_join (wr := [(a_o, (oc11 a_h a_im a_ke a_k a_wa a_th a_ha a_wk a_r a_x e_tl e_fd e_fpl a_wd e_wn a_rf e_lr)), (a_rf, (arI G 5 f_rf)), (a_h, (oc1 e_wa e_le e_st e_fo e_lc a_l a_g a_b a_s a_p a_w e_gb a_bb)), (a_pn, (arI G 40 f_p))]) hP hD [3] [0, 1, 2, 4] rfl rfl (by decide +kernel) (by decide +kernel) hk1 hFc hP1 hD1
                    clear hP hD hPc hDc hFc ht hvm hz1 hk1 hP1 hD1
                    obtain ⟨hP, hD⟩ := hJ9
                    refine g5_rs [(a_o, (oc11 a_h a_im a_ke a_k a_wa a_th a_ha a_wk a_r a_x e_tl e_fd e_fpl a_wd e_wn a_rf e_lr)), (a_rf, (arI G 5 f_rf)), (a_h, (oc1 e_wa e_le e_st e_fo e_lc a_l a_g a_b a_s a_p a_w e_gb a_bb)), (a_pn, (arI G 40 f_p)), (a_p, (oc6 8 5 a_pn e_p))] hP hD ?_
                    clear hP hD
                    intro hP hD
                    refine lv_if_eq (tgt := 65) hx hb dX11_spot_55 (by decide +kernel) (fun c_18 => ?_) (fun c_18 => ?_)
                    ·
                      refine lv_aload_n hx hb dX11_spot_65 rfl (lv_at hl 0 rfl) ?_
                      refine va_get (D := G.1) (ci := 11) (v := .ref a_h) (C := RX11) (T := TX11) (N := 17) hx hb hts inG_X11 hown hK hP 0 rfl rfl 0 (by decide +kernel) (hts _ fl_X11_12) (fun _ h9 => h9) rfl dX11_spot_66 ?_
                      refine va_get (D := G.1) (ci := 1) (v := .ref a_p) (C := RX1) (T := TX1) (N := 13) hx hb hts inG_X1 hown hK hP 2 rfl rfl 9 (by decide +kernel) (hts _ fl_X11_306) (fun _ h9 => h9) rfl dX11_spot_69 ?_
                      refine lv_iconst (v := 0) hx hb dX11_spot_72 (by decide +kernel) ?_
                      refine W.eq (g2 := F0 m 73 ls [.int 0, .ref a_p]) rfl ?_
                      obtain ⟨hPc, hDc, hFc⟩ := g5_sub3 (wc := [(a_p, (oc6 8 5 a_pn e_p)), (a_pn, (arI G 40 f_p))]) hP hD hS hA [4, 3] (by decide +kernel) rfl
                      refine va_calli (va_runV (As := [.int 0]) (rest := []) ⟨hx, hb, hml, hown, hts⟩ (t_open_P l G a_p a_pn H.size e_p 0 f_p h_e_p) (cwV 1 hts gV_X11_146 rfl rfl rfl hv_X6_open ⟨Nat.le_of_ble_eq_true rfl, Nat.le_of_ble_eq_true rfl⟩) (g5_preV hPc hK hDc hN hT hS hFc (ci := 6) (q0 := 0) rfl rfl) rfl rfl hl.1 rfl (lv_room (Nat.le_of_ble_eq_true rfl)) dX11_spot_73 ⟨Nat.le_of_ble_eq_true rfl, Nat.le_of_ble_eq_true rfl⟩) hS (fun q _ h => hFc q h) hFc (fun r u t H locs ht hvm hw hB hz1 hk1 hS => ?_)
                      obtain ⟨hP1, hD1⟩ := hB
                      have hP1 := g5_ht ht hP1
                      rcases hw with ⟨(i_19 : e_p.toInt = 8), rfl, rfl⟩ | ⟨z23, (i_20 : e_p.toInt < 8), (i_21 : (e_p + 1).toInt = e_p.toInt + 1), (i_22 : z23 = tfil f_p e_p.toInt 5 (0 : Int32) 5), y24, rfl⟩
                      ·
                        omega
                      ·
                        have hJ9 := va_join (wr := [(a_o, (oc11 a_h a_im a_ke a_k a_wa a_th a_ha a_wk a_r a_x e_tl e_fd e_fpl a_wd e_wn a_rf e_lr)), (a_rf, (arI G 5 f_rf)), (a_h, (oc1 e_wa e_le e_st e_fo e_lc a_l a_g a_b a_s a_p a_w e_gb a_bb))]) hP hD [4, 3] [0, 1, 2] rfl rfl (by decide +kernel) (by decide +kernel) hk1 hFc hP1 hD1
                        clear hP hD hPc hDc hFc ht hvm hz1 hk1 hP1 hD1
                        obtain ⟨hP, hD⟩ := hJ9
                        refine g5_rs [(a_o, (oc11 a_h a_im a_ke a_k a_wa a_th a_ha a_wk a_r a_x e_tl e_fd e_fpl a_wd e_wn a_rf e_lr)), (a_rf, (arI G 5 f_rf)), (a_h, (oc1 e_wa e_le e_st e_fo e_lc a_l a_g a_b a_s a_p a_w e_gb a_bb)), (a_p, (oc6 8 5 a_pn (e_p + 1))), (a_pn, (arI G 40 z23))] hP hD ?_
                        clear hP hD
                        intro hP hD
                        refine g5_ti (v := e_p) y24 ?_
                        refine lv_istore (lv' := [(4, .int e_p), (0, .ref a_o), (1, .int p_c), (2, .int p_s), (3, .int p_l)]) hx hb dX11_spot_76 hl (by decide +kernel) rfl ?_
                        clear hl
                        intro ls hl
                        refine lv_aload_n hx hb dX11_spot_78 rfl (lv_at hl 1 rfl) ?_
                        refine va_get (D := G.1) (ci := 11) (v := .ref a_h) (C := RX11) (T := TX11) (N := 17) hx hb hts inG_X11 hown hK hP 0 rfl rfl 0 (by decide +kernel) (hts _ fl_X11_12) (fun _ h9 => h9) rfl dX11_spot_79 ?_
                        refine va_get (D := G.1) (ci := 1) (v := .ref a_p) (C := RX1) (T := TX1) (N := 13) hx hb hts inG_X1 hown hK hP 2 rfl rfl 9 (by decide +kernel) (hts _ fl_X11_306) (fun _ h9 => h9) rfl dX11_spot_82 ?_
                        refine W.eq (g2 := F0 m 85 ls [.ref a_p]) rfl ?_
                        refine lv_iload hx hb dX11_spot_85 (lv_at hl 0 rfl) ?_
                        refine lv_iconst (v := 0) hx hb dX11_spot_87 (by decide +kernel) ?_
                        refine lv_iload_n hx hb dX11_spot_88 rfl (lv_at hl 2 rfl) ?_
                        obtain ⟨hPc, hDc, hFc⟩ := g5_sub3 (wc := [(a_p, (oc6 8 5 a_pn (e_p + 1))), (a_pn, (arI G 40 z23))]) hP hD hS hA [3, 4] (by decide +kernel) rfl
                        refine va_callv (va_runV (As := [.int e_p, .int 0, .int p_c]) (rest := []) ⟨hx, hb, hml, hown, hts⟩ (t_set_P l G a_p a_pn H.size (e_p + 1) e_p 0 p_c z23 ⟨by omega, by omega⟩) (cwV 3 hts gV_X11_149 rfl rfl rfl hv_X6_set ⟨Nat.le_of_ble_eq_true rfl, Nat.le_of_ble_eq_true rfl⟩) (g5_preV hPc hK hDc hN hT hS hFc (ci := 6) (q0 := 0) rfl rfl) rfl rfl hl.1 rfl (lv_room (Nat.le_of_ble_eq_true rfl)) dX11_spot_89 ⟨Nat.le_of_ble_eq_true rfl, Nat.le_of_ble_eq_true rfl⟩) hS (fun q _ h => hFc q h) hFc (fun u t H locs ht hvm hw hB hz1 hk1 hS => ?_)
                        obtain ⟨hP1, hD1⟩ := hB
                        have hP1 := g5_ht ht hP1
                        obtain ⟨z26, (i_25 : z26 = tset z23 (e_p + 1).toInt 5 e_p.toInt (0 : Int32).toInt p_c), rfl⟩ := hw
                        have hJ9 := va_join (wr := [(a_o, (oc11 a_h a_im a_ke a_k a_wa a_th a_ha a_wk a_r a_x e_tl e_fd e_fpl a_wd e_wn a_rf e_lr)), (a_rf, (arI G 5 f_rf)), (a_h, (oc1 e_wa e_le e_st e_fo e_lc a_l a_g a_b a_s a_p a_w e_gb a_bb))]) hP hD [3, 4] [0, 1, 2] rfl rfl (by decide +kernel) (by decide +kernel) hk1 hFc hP1 hD1
                        clear hP hD hPc hDc hFc ht hvm hz1 hk1 hP1 hD1
                        obtain ⟨hP, hD⟩ := hJ9
                        refine g5_rs [(a_o, (oc11 a_h a_im a_ke a_k a_wa a_th a_ha a_wk a_r a_x e_tl e_fd e_fpl a_wd e_wn a_rf e_lr)), (a_rf, (arI G 5 f_rf)), (a_h, (oc1 e_wa e_le e_st e_fo e_lc a_l a_g a_b a_s a_p a_w e_gb a_bb)), (a_p, (oc6 8 5 a_pn (e_p + 1))), (a_pn, (arI G 40 z26))] hP hD ?_
                        clear hP hD
                        intro hP hD
                        refine lv_aload_n hx hb dX11_spot_92 rfl (lv_at hl 1 rfl) ?_
                        refine W.eq (g2 := F0 m 93 ls [.ref a_o]) rfl ?_
                        refine va_get (D := G.1) (ci := 11) (v := .ref a_h) (C := RX11) (T := TX11) (N := 17) hx hb hts inG_X11 hown hK hP 0 rfl rfl 0 (by decide +kernel) (hts _ fl_X11_12) (fun _ h9 => h9) rfl dX11_spot_93 ?_
                        refine va_get (D := G.1) (ci := 1) (v := .ref a_p) (C := RX1) (T := TX1) (N := 13) hx hb hts inG_X1 hown hK hP 2 rfl rfl 9 (by decide +kernel) (hts _ fl_X11_306) (fun _ h9 => h9) rfl dX11_spot_96 ?_
                        refine lv_iload hx hb dX11_spot_99 (lv_at hl 0 rfl) ?_
                        refine lv_iconst (v := 1) hx hb dX11_spot_101 (by decide +kernel) ?_
                        refine lv_iload_n hx hb dX11_spot_102 rfl (lv_at hl 3 rfl) ?_
                        refine W.eq (g2 := F0 m 103 ls [.int p_s, .int 1, .int e_p, .ref a_p]) rfl ?_
                        obtain ⟨hPc, hDc, hFc⟩ := g5_sub3 (wc := [(a_p, (oc6 8 5 a_pn (e_p + 1))), (a_pn, (arI G 40 z26))]) hP hD hS hA [3, 4] (by decide +kernel) rfl
                        refine va_callv (va_runV (As := [.int e_p, .int 1, .int p_s]) (rest := []) ⟨hx, hb, hml, hown, hts⟩ (t_set_P l G a_p a_pn H.size (e_p + 1) e_p 1 p_s z26 ⟨by omega, by omega⟩) (cwV 3 hts gV_X11_149 rfl rfl rfl hv_X6_set ⟨Nat.le_of_ble_eq_true rfl, Nat.le_of_ble_eq_true rfl⟩) (g5_preV hPc hK hDc hN hT hS hFc (ci := 6) (q0 := 0) rfl rfl) rfl rfl hl.1 rfl (lv_room (Nat.le_of_ble_eq_true rfl)) dX11_spot_103 ⟨Nat.le_of_ble_eq_true rfl, Nat.le_of_ble_eq_true rfl⟩) hS (fun q _ h => hFc q h) hFc (fun u t H locs ht hvm hw hB hz1 hk1 hS => ?_)
                        obtain ⟨hP1, hD1⟩ := hB
                        have hP1 := g5_ht ht hP1
                        obtain ⟨z28, (i_27 : z28 = tset z26 (e_p + 1).toInt 5 e_p.toInt (1 : Int32).toInt p_s), rfl⟩ := hw
                        have hJ9 := va_join (wr := [(a_o, (oc11 a_h a_im a_ke a_k a_wa a_th a_ha a_wk a_r a_x e_tl e_fd e_fpl a_wd e_wn a_rf e_lr)), (a_rf, (arI G 5 f_rf)), (a_h, (oc1 e_wa e_le e_st e_fo e_lc a_l a_g a_b a_s a_p a_w e_gb a_bb))]) hP hD [3, 4] [0, 1, 2] rfl rfl (by decide +kernel) (by decide +kernel) hk1 hFc hP1 hD1
                        clear hP hD hPc hDc hFc ht hvm hz1 hk1 hP1 hD1
                        obtain ⟨hP, hD⟩ := hJ9
                        refine g5_rs [(a_o, (oc11 a_h a_im a_ke a_k a_wa a_th a_ha a_wk a_r a_x e_tl e_fd e_fpl a_wd e_wn a_rf e_lr)), (a_rf, (arI G 5 f_rf)), (a_h, (oc1 e_wa e_le e_st e_fo e_lc a_l a_g a_b a_s a_p a_w e_gb a_bb)), (a_p, (oc6 8 5 a_pn (e_p + 1))), (a_pn, (arI G 40 z28))] hP hD ?_
                        clear hP hD
                        intro hP hD
                        refine lv_aload_n hx hb dX11_spot_106 rfl (lv_at hl 1 rfl) ?_
                        refine va_get (D := G.1) (ci := 11) (v := .ref a_h) (C := RX11) (T := TX11) (N := 17) hx hb hts inG_X11 hown hK hP 0 rfl rfl 0 (by decide +kernel) (hts _ fl_X11_12) (fun _ h9 => h9) rfl dX11_spot_107 ?_
                        refine va_get (D := G.1) (ci := 1) (v := .ref a_p) (C := RX1) (T := TX1) (N := 13) hx hb hts inG_X1 hown hK hP 2 rfl rfl 9 (by decide +kernel) (hts _ fl_X11_306) (fun _ h9 => h9) rfl dX11_spot_110 ?_
                        refine lv_iload hx hb dX11_spot_113 (lv_at hl 0 rfl) ?_
                        refine W.eq (g2 := F0 m 115 ls [.int e_p, .ref a_p]) rfl ?_
                        refine lv_iconst (v := 2) hx hb dX11_spot_115 (by decide +kernel) ?_
                        refine lv_iload_n hx hb dX11_spot_116 rfl (lv_at hl 4 rfl) ?_
                        obtain ⟨hPc, hDc, hFc⟩ := g5_sub3 (wc := [(a_p, (oc6 8 5 a_pn (e_p + 1))), (a_pn, (arI G 40 z28))]) hP hD hS hA [3, 4] (by decide +kernel) rfl
                        refine va_callv (va_runV (As := [.int e_p, .int 2, .int p_l]) (rest := []) ⟨hx, hb, hml, hown, hts⟩ (t_set_P l G a_p a_pn H.size (e_p + 1) e_p 2 p_l z28 ⟨by omega, by omega⟩) (cwV 3 hts gV_X11_149 rfl rfl rfl hv_X6_set ⟨Nat.le_of_ble_eq_true rfl, Nat.le_of_ble_eq_true rfl⟩) (g5_preV hPc hK hDc hN hT hS hFc (ci := 6) (q0 := 0) rfl rfl) rfl rfl hl.1 rfl (lv_room (Nat.le_of_ble_eq_true rfl)) dX11_spot_117 ⟨Nat.le_of_ble_eq_true rfl, Nat.le_of_ble_eq_true rfl⟩) hS (fun q _ h => hFc q h) hFc (fun u t H locs ht hvm hw hB hz1 hk1 hS => ?_)
                        obtain ⟨hP1, hD1⟩ := hB
                        have hP1 := g5_ht ht hP1
                        obtain ⟨z30, (i_29 : z30 = tset z28 (e_p + 1).toInt 5 e_p.toInt (2 : Int32).toInt p_l), rfl⟩ := hw
                        have hJ9 := va_join (wr := [(a_o, (oc11 a_h a_im a_ke a_k a_wa a_th a_ha a_wk a_r a_x e_tl e_fd e_fpl a_wd e_wn a_rf e_lr)), (a_rf, (arI G 5 f_rf)), (a_h, (oc1 e_wa e_le e_st e_fo e_lc a_l a_g a_b a_s a_p a_w e_gb a_bb))]) hP hD [3, 4] [0, 1, 2] rfl rfl (by decide +kernel) (by decide +kernel) hk1 hFc hP1 hD1
                        clear hP hD hPc hDc hFc ht hvm hz1 hk1 hP1 hD1
                        obtain ⟨hP, hD⟩ := hJ9
                        refine g5_rs [(a_o, (oc11 a_h a_im a_ke a_k a_wa a_th a_ha a_wk a_r a_x e_tl e_fd e_fpl a_wd e_wn a_rf e_lr)), (a_rf, (arI G 5 f_rf)), (a_h, (oc1 e_wa e_le e_st e_fo e_lc a_l a_g a_b a_s a_p a_w e_gb a_bb)), (a_p, (oc6 8 5 a_pn (e_p + 1))), (a_pn, (arI G 40 z30))] hP hD ?_
                        clear hP hD
                        intro hP hD
                        refine lv_aload_n hx hb dX11_spot_120 rfl (lv_at hl 1 rfl) ?_
                        refine lv_iload hx hb dX11_spot_121 (lv_at hl 0 rfl) ?_
                        refine W.eq (g2 := F0 m 123 ls [.int e_p, .ref a_o]) rfl ?_
                        obtain ⟨hPc, hDc, hFc⟩ := g5_sub3 (wc := [(a_o, (oc11 a_h a_im a_ke a_k a_wa a_th a_ha a_wk a_r a_x e_tl e_fd e_fpl a_wd e_wn a_rf e_lr))]) hP hD hS hA [0] (by decide +kernel) rfl
                        refine va_calli (va_runV (As := [.int e_p]) (rest := []) ⟨hx, hb, hml, hown, hts⟩ (x_done l G a_o a_h a_im a_ke a_k a_wa a_th a_ha a_wk a_r a_x a_wd a_rf H.size e_tl e_fd e_fpl e_wn e_lr e_p h_e_tl h_e_wn) (cwV 1 hts gV_X11_121 rfl rfl rfl hv_X11_done ⟨Nat.le_of_ble_eq_true rfl, Nat.le_of_ble_eq_true rfl⟩) (g5_preV hPc hK hDc hN hT hS hFc (ci := 11) (q0 := 0) rfl rfl) rfl rfl hl.1 rfl (lv_room (Nat.le_of_ble_eq_true rfl)) dX11_spot_123 ⟨Nat.le_of_ble_eq_true rfl, Nat.le_of_ble_eq_true rfl⟩) hS (fun q _ h => hFc q h) hFc (fun r u t H locs ht hvm hw hB hz1 hk1 hS => ?_)
                        obtain ⟨hP1, hD1⟩ := hB
                        have hP1 := g5_ht ht hP1
                        obtain ⟨y31, rfl⟩ := hw
                        have hJ9 := va_join (wr := [(a_rf, (arI G 5 f_rf)), (a_h, (oc1 e_wa e_le e_st e_fo e_lc a_l a_g a_b a_s a_p a_w e_gb a_bb)), (a_p, (oc6 8 5 a_pn (e_p + 1))), (a_pn, (arI G 40 z30))]) hP hD [0] [1, 2, 3, 4] rfl rfl (by decide +kernel) (by decide +kernel) hk1 hFc hP1 hD1
                        clear hP hD hPc hDc hFc ht hvm hz1 hk1 hP1 hD1
                        obtain ⟨hP, hD⟩ := hJ9
                        refine g5_rs [(a_rf, (arI G 5 f_rf)), (a_h, (oc1 e_wa e_le e_st e_fo e_lc a_l a_g a_b a_s a_p a_w e_gb a_bb)), (a_p, (oc6 8 5 a_pn (e_p + 1))), (a_pn, (arI G 40 z30)), (a_o, (oc11 a_h a_im a_ke a_k a_wa a_th a_ha a_wk a_r a_x e_tl e_fd e_fpl a_wd e_wn a_rf 0))] hP hD ?_
                        clear hP hD
                        intro hP hD
                        refine g5_ti (v := e_p) y31 ?_
                        exact W.iret (v := e_p) hx hb hr (fun t ht hW => ⟨⟨e_p, [(a_o, (oc11 a_h a_im a_ke a_k a_wa a_th a_ha a_wk a_r a_x e_tl e_fd e_fpl a_wd e_wn a_rf 0)), (a_rf, (arI G 5 f_rf)), (a_h, (oc1 e_wa e_le e_st e_fo e_lc a_l a_g a_b a_s a_p a_w e_gb a_bb)), (a_p, (oc6 8 5 a_pn (e_p + 1))), (a_pn, (arI G 40 z30))], rfl, ⟨e_p, 0, f_rf, (e_p + 1), z30, ⟨by omega, by omega⟩, by rw [i_29, i_27, i_25, i_22]; exact g_spot e_pk (by omega) (by omega) (by omega) (by omega) (by omega), by rw [(spot_0 (f := f_ro) (c := p_c) (s := p_s) (l := p_l) (by unfold okP; omega) (cn_y e_hh e_hg e_hp ⟨by omega, by omega⟩ i_10 i_11) (by rw [e_hp.2.1]; omega)).1]; exact e_hp.2.1.symm, by rw [i_29, i_27, i_25, i_22]; exact hp_spot e_hp (by omega) (by omega) (by unfold okP; omega) (cn_y e_hh e_hg e_hp ⟨by omega, by omega⟩ i_10 i_11), rfl, rfl⟩, by rw [ht]; exact hP.sub [4, 0, 1, 2, 3] rfl, hD.sub [4, 0, 1, 2, 3] (by decide +kernel) rfl⟩, hS.F ht⟩) hS.2.2 dX11_spot_126
                    ·
                      exact absurd c_18 (by decide +kernel)
                ·
                  exact absurd c_13 (by decide +kernel)
              ·
                have hJ9 := va_join (wr := [(a_o, (oc11 a_h a_im a_ke a_k a_wa a_th a_ha a_wk a_r a_x e_tl e_fd e_fpl a_wd e_wn a_rf e_lr)), (a_rf, (arI G 5 f_rf))]) hP hD [2, 3, 4] [0, 1] rfl rfl (by decide +kernel) (by decide +kernel) hk1 hFc hP1 hD1
                clear hP hD hPc hDc hFc ht hvm hz1 hk1 hP1 hD1
                obtain ⟨hP, hD⟩ := hJ9
                refine g5_rs [(a_o, (oc11 a_h a_im a_ke a_k a_wa a_th a_ha a_wk a_r a_x e_tl e_fd e_fpl a_wd e_wn a_rf e_lr)), (a_rf, (arI G 5 f_rf)), (a_h, (oc1 e_wa e_le e_st e_fo e_lc a_l a_g a_b a_s a_p a_w e_gb a_bb)), (a_p, (oc6 8 5 a_pn e_p)), (a_pn, (arI G 40 f_p))] hP hD ?_
                clear hP hD
                intro hP hD
                refine lv_if_ne (tgt := 45) hx hb dX11_spot_35 (by decide +kernel) (fun c_32 => ?_) (fun c_32 => ?_)
                ·
                  exact absurd c_32 (by decide +kernel)
                ·
                  refine lv_aload_n hx hb dX11_spot_38 rfl (lv_at hl 0 rfl) ?_
                  refine lv_bipush (v := (-3)) hx hb dX11_spot_39 (by decide +kernel) ?_
                  obtain ⟨hPc, hDc, hFc⟩ := g5_sub3 (wc := [(a_o, (oc11 a_h a_im a_ke a_k a_wa a_th a_ha a_wk a_r a_x e_tl e_fd e_fpl a_wd e_wn a_rf e_lr)), (a_rf, (arI G 5 f_rf))]) hP hD hS hA [0, 1] (by decide +kernel) rfl
                  refine va_calli (va_runV (As := [.int (-3)]) (rest := []) ⟨hx, hb, hml, hown, hts⟩ (x_refuse3 l G a_o a_rf a_h a_im a_ke a_k a_wa a_th a_ha a_wk a_r a_x a_wd H.size e_tl e_fd e_fpl e_wn e_lr f_rf h_e_tl h_e_wn) (cwV 1 hts gV_X11_104 rfl rfl rfl hv_X11_refuse ⟨Nat.le_of_ble_eq_true rfl, Nat.le_of_ble_eq_true rfl⟩) (g5_preV hPc hK hDc hN hT hS hFc (ci := 11) (q0 := 0) rfl rfl) rfl rfl hl.1 rfl (lv_room (Nat.le_of_ble_eq_true rfl)) dX11_spot_41 ⟨Nat.le_of_ble_eq_true rfl, Nat.le_of_ble_eq_true rfl⟩) hS (fun q _ h => hFc q h) hFc (fun r u t H locs ht hvm hw hB hz1 hk1 hS => ?_)
                  obtain ⟨hP1, hD1⟩ := hB
                  have hP1 := g5_ht ht hP1
                  obtain ⟨z33, rfl, rfl⟩ := hw
                  have hJ9 := va_join (wr := [(a_h, (oc1 e_wa e_le e_st e_fo e_lc a_l a_g a_b a_s a_p a_w e_gb a_bb)), (a_p, (oc6 8 5 a_pn e_p)), (a_pn, (arI G 40 f_p))]) hP hD [0, 1] [2, 3, 4] rfl rfl (by decide +kernel) (by decide +kernel) hk1 hFc hP1 hD1
                  clear hP hD hPc hDc hFc ht hvm hz1 hk1 hP1 hD1
                  obtain ⟨hP, hD⟩ := hJ9
                  refine g5_rs [(a_h, (oc1 e_wa e_le e_st e_fo e_lc a_l a_g a_b a_s a_p a_w e_gb a_bb)), (a_p, (oc6 8 5 a_pn e_p)), (a_pn, (arI G 40 f_p)), (a_o, (oc11 a_h a_im a_ke a_k a_wa a_th a_ha a_wk a_r a_x e_tl e_fd e_fpl a_wd e_wn a_rf (-3))), (a_rf, (arI G 5 z33))] hP hD ?_
                  clear hP hD
                  intro hP hD
                  exact W.iret (v := (-3)) hx hb hr (fun t ht hW => ⟨⟨(-3), [(a_o, (oc11 a_h a_im a_ke a_k a_wa a_th a_ha a_wk a_r a_x e_tl e_fd e_fpl a_wd e_wn a_rf (-3))), (a_rf, (arI G 5 z33)), (a_h, (oc1 e_wa e_le e_st e_fo e_lc a_l a_g a_b a_s a_p a_w e_gb a_bb)), (a_p, (oc6 8 5 a_pn e_p)), (a_pn, (arI G 40 f_p))], rfl, ⟨(-3), (-3), z33, e_p, f_p, h_e_p, e_pk, (spot_3 (f := f_ro) (c := p_c) (s := p_s) (l := p_l) (by unfold okP; omega) (cn_n e_hh e_hg e_hp ⟨by omega, by omega⟩ i_12)).1.symm, by rw [(spot_3 (f := f_ro) (c := p_c) (s := p_s) (l := p_l) (by unfold okP; omega) (cn_n e_hh e_hg e_hp ⟨by omega, by omega⟩ i_12)).2]; exact e_hp, rfl, rfl⟩, by rw [ht]; exact hP.sub [3, 4, 0, 1, 2] rfl, hD.sub [3, 4, 0, 1, 2] (by decide +kernel) rfl⟩, hS.F ht⟩) hS.2.2 dX11_spot_44
            ·
              exact absurd c_9 (by decide +kernel)
          ·
            have hJ9 := g5_same hP hk1
            clear hP hPc hDc hFc ht hvm hz1 hk1 hP1 hD1
            have hP := hJ9
            clear hJ9
            refine lv_if_ne (tgt := 27) hx hb dX11_spot_18 (by decide +kernel) (fun c_34 => ?_) (fun c_34 => ?_)
            ·
              exact absurd c_34 (by decide +kernel)
            ·
              refine lv_aload_n hx hb dX11_spot_21 rfl (lv_at hl 0 rfl) ?_
              refine lv_iconst (v := (-1)) hx hb dX11_spot_22 (by decide +kernel) ?_
              obtain ⟨hPc, hDc, hFc⟩ := g5_sub3 (wc := [(a_o, (oc11 a_h a_im a_ke a_k a_wa a_th a_ha a_wk a_r a_x e_tl e_fd e_fpl a_wd e_wn a_rf e_lr)), (a_rf, (arI G 5 f_rf))]) hP hD hS hA [0, 1] (by decide +kernel) rfl
              refine va_calli (va_runV (As := [.int (-1)]) (rest := []) ⟨hx, hb, hml, hown, hts⟩ (x_refuse1 l G a_o a_rf a_h a_im a_ke a_k a_wa a_th a_ha a_wk a_r a_x a_wd H.size e_tl e_fd e_fpl e_wn e_lr f_rf h_e_tl h_e_wn) (cwV 1 hts gV_X11_104 rfl rfl rfl hv_X11_refuse ⟨Nat.le_of_ble_eq_true rfl, Nat.le_of_ble_eq_true rfl⟩) (g5_preV hPc hK hDc hN hT hS hFc (ci := 11) (q0 := 0) rfl rfl) rfl rfl hl.1 rfl (lv_room (Nat.le_of_ble_eq_true rfl)) dX11_spot_23 ⟨Nat.le_of_ble_eq_true rfl, Nat.le_of_ble_eq_true rfl⟩) hS (fun q _ h => hFc q h) hFc (fun r u t H locs ht hvm hw hB hz1 hk1 hS => ?_)
              obtain ⟨hP1, hD1⟩ := hB
              have hP1 := g5_ht ht hP1
              obtain ⟨z35, rfl, rfl⟩ := hw
              have hJ9 := va_join (wr := [(a_h, (oc1 e_wa e_le e_st e_fo e_lc a_l a_g a_b a_s a_p a_w e_gb a_bb)), (a_p, (oc6 8 5 a_pn e_p)), (a_pn, (arI G 40 f_p))]) hP hD [0, 1] [2, 3, 4] rfl rfl (by decide +kernel) (by decide +kernel) hk1 hFc hP1 hD1
              clear hP hD hPc hDc hFc ht hvm hz1 hk1 hP1 hD1
              obtain ⟨hP, hD⟩ := hJ9
              refine g5_rs [(a_h, (oc1 e_wa e_le e_st e_fo e_lc a_l a_g a_b a_s a_p a_w e_gb a_bb)), (a_p, (oc6 8 5 a_pn e_p)), (a_pn, (arI G 40 f_p)), (a_o, (oc11 a_h a_im a_ke a_k a_wa a_th a_ha a_wk a_r a_x e_tl e_fd e_fpl a_wd e_wn a_rf (-1))), (a_rf, (arI G 5 z35))] hP hD ?_
              clear hP hD
              intro hP hD
              exact W.iret (v := (-1)) hx hb hr (fun t ht hW => ⟨⟨(-1), [(a_o, (oc11 a_h a_im a_ke a_k a_wa a_th a_ha a_wk a_r a_x e_tl e_fd e_fpl a_wd e_wn a_rf (-1))), (a_rf, (arI G 5 z35)), (a_h, (oc1 e_wa e_le e_st e_fo e_lc a_l a_g a_b a_s a_p a_w e_gb a_bb)), (a_p, (oc6 8 5 a_pn e_p)), (a_pn, (arI G 40 f_p))], rfl, ⟨(-1), (-1), z35, e_p, f_p, h_e_p, e_pk, (spot_1 (f := f_ro) (c := p_c) (s := p_s) (l := p_l) (by unfold okP; omega)).1.symm, by rw [(spot_1 (f := f_ro) (c := p_c) (s := p_s) (l := p_l) (by unfold okP; omega)).2]; exact e_hp, rfl, rfl⟩, by rw [ht]; exact hP.sub [3, 4, 0, 1, 2] rfl, hD.sub [3, 4, 0, 1, 2] (by decide +kernel) rfl⟩, hS.F ht⟩) hS.2.2 dX11_spot_26
      ·
        have hJ9 := g5_same hP hk1
        clear hP hPc hDc hFc ht hvm hz1 hk1 hP1 hD1
        have hP := hJ9
        clear hJ9
        refine lv_if_eq (tgt := 21) hx hb dX11_spot_11 (by decide +kernel) (fun c_36 => ?_) (fun c_36 => ?_)
        ·
          refine lv_aload_n hx hb dX11_spot_21 rfl (lv_at hl 0 rfl) ?_
          refine lv_iconst (v := (-1)) hx hb dX11_spot_22 (by decide +kernel) ?_
          obtain ⟨hPc, hDc, hFc⟩ := g5_sub3 (wc := [(a_o, (oc11 a_h a_im a_ke a_k a_wa a_th a_ha a_wk a_r a_x e_tl e_fd e_fpl a_wd e_wn a_rf e_lr)), (a_rf, (arI G 5 f_rf))]) hP hD hS hA [0, 1] (by decide +kernel) rfl
          refine va_calli (va_runV (As := [.int (-1)]) (rest := []) ⟨hx, hb, hml, hown, hts⟩ (x_refuse1 l G a_o a_rf a_h a_im a_ke a_k a_wa a_th a_ha a_wk a_r a_x a_wd H.size e_tl e_fd e_fpl e_wn e_lr f_rf h_e_tl h_e_wn) (cwV 1 hts gV_X11_104 rfl rfl rfl hv_X11_refuse ⟨Nat.le_of_ble_eq_true rfl, Nat.le_of_ble_eq_true rfl⟩) (g5_preV hPc hK hDc hN hT hS hFc (ci := 11) (q0 := 0) rfl rfl) rfl rfl hl.1 rfl (lv_room (Nat.le_of_ble_eq_true rfl)) dX11_spot_23 ⟨Nat.le_of_ble_eq_true rfl, Nat.le_of_ble_eq_true rfl⟩) hS (fun q _ h => hFc q h) hFc (fun r u t H locs ht hvm hw hB hz1 hk1 hS => ?_)
          obtain ⟨hP1, hD1⟩ := hB
          have hP1 := g5_ht ht hP1
          obtain ⟨z37, rfl, rfl⟩ := hw
          have hJ9 := va_join (wr := [(a_h, (oc1 e_wa e_le e_st e_fo e_lc a_l a_g a_b a_s a_p a_w e_gb a_bb)), (a_p, (oc6 8 5 a_pn e_p)), (a_pn, (arI G 40 f_p))]) hP hD [0, 1] [2, 3, 4] rfl rfl (by decide +kernel) (by decide +kernel) hk1 hFc hP1 hD1
          clear hP hD hPc hDc hFc ht hvm hz1 hk1 hP1 hD1
          obtain ⟨hP, hD⟩ := hJ9
          refine g5_rs [(a_h, (oc1 e_wa e_le e_st e_fo e_lc a_l a_g a_b a_s a_p a_w e_gb a_bb)), (a_p, (oc6 8 5 a_pn e_p)), (a_pn, (arI G 40 f_p)), (a_o, (oc11 a_h a_im a_ke a_k a_wa a_th a_ha a_wk a_r a_x e_tl e_fd e_fpl a_wd e_wn a_rf (-1))), (a_rf, (arI G 5 z37))] hP hD ?_
          clear hP hD
          intro hP hD
          exact W.iret (v := (-1)) hx hb hr (fun t ht hW => ⟨⟨(-1), [(a_o, (oc11 a_h a_im a_ke a_k a_wa a_th a_ha a_wk a_r a_x e_tl e_fd e_fpl a_wd e_wn a_rf (-1))), (a_rf, (arI G 5 z37)), (a_h, (oc1 e_wa e_le e_st e_fo e_lc a_l a_g a_b a_s a_p a_w e_gb a_bb)), (a_p, (oc6 8 5 a_pn e_p)), (a_pn, (arI G 40 f_p))], rfl, ⟨(-1), (-1), z37, e_p, f_p, h_e_p, e_pk, (spot_1 (f := f_ro) (c := p_c) (s := p_s) (l := p_l) (by unfold okP; omega)).1.symm, by rw [(spot_1 (f := f_ro) (c := p_c) (s := p_s) (l := p_l) (by unfold okP; omega)).2]; exact e_hp, rfl, rfl⟩, by rw [ht]; exact hP.sub [3, 4, 0, 1, 2] rfl, hD.sub [3, 4, 0, 1, 2] (by decide +kernel) rfl⟩, hS.F ht⟩) hS.2.2 dX11_spot_26
        ·
          exact absurd c_36 (by decide +kernel)
  ·
    have hJ9 := g5_same hP hk1
    clear hP hPc hDc hFc ht hvm hz1 hk1 hP1 hD1
    have hP := hJ9
    clear hJ9
    refine lv_if_eq (tgt := 21) hx hb dX11_spot_4 (by decide +kernel) (fun c_38 => ?_) (fun c_38 => ?_)
    ·
      refine lv_aload_n hx hb dX11_spot_21 rfl (lv_at hl 0 rfl) ?_
      refine lv_iconst (v := (-1)) hx hb dX11_spot_22 (by decide +kernel) ?_
      obtain ⟨hPc, hDc, hFc⟩ := g5_sub3 (wc := [(a_o, (oc11 a_h a_im a_ke a_k a_wa a_th a_ha a_wk a_r a_x e_tl e_fd e_fpl a_wd e_wn a_rf e_lr)), (a_rf, (arI G 5 f_rf))]) hP hD hS hA [0, 1] (by decide +kernel) rfl
      refine va_calli (va_runV (As := [.int (-1)]) (rest := []) ⟨hx, hb, hml, hown, hts⟩ (x_refuse1 l G a_o a_rf a_h a_im a_ke a_k a_wa a_th a_ha a_wk a_r a_x a_wd H.size e_tl e_fd e_fpl e_wn e_lr f_rf h_e_tl h_e_wn) (cwV 1 hts gV_X11_104 rfl rfl rfl hv_X11_refuse ⟨Nat.le_of_ble_eq_true rfl, Nat.le_of_ble_eq_true rfl⟩) (g5_preV hPc hK hDc hN hT hS hFc (ci := 11) (q0 := 0) rfl rfl) rfl rfl hl.1 rfl (lv_room (Nat.le_of_ble_eq_true rfl)) dX11_spot_23 ⟨Nat.le_of_ble_eq_true rfl, Nat.le_of_ble_eq_true rfl⟩) hS (fun q _ h => hFc q h) hFc (fun r u t H locs ht hvm hw hB hz1 hk1 hS => ?_)
      obtain ⟨hP1, hD1⟩ := hB
      have hP1 := g5_ht ht hP1
      obtain ⟨z39, rfl, rfl⟩ := hw
      have hJ9 := va_join (wr := [(a_h, (oc1 e_wa e_le e_st e_fo e_lc a_l a_g a_b a_s a_p a_w e_gb a_bb)), (a_p, (oc6 8 5 a_pn e_p)), (a_pn, (arI G 40 f_p))]) hP hD [0, 1] [2, 3, 4] rfl rfl (by decide +kernel) (by decide +kernel) hk1 hFc hP1 hD1
      clear hP hD hPc hDc hFc ht hvm hz1 hk1 hP1 hD1
      obtain ⟨hP, hD⟩ := hJ9
      refine g5_rs [(a_h, (oc1 e_wa e_le e_st e_fo e_lc a_l a_g a_b a_s a_p a_w e_gb a_bb)), (a_p, (oc6 8 5 a_pn e_p)), (a_pn, (arI G 40 f_p)), (a_o, (oc11 a_h a_im a_ke a_k a_wa a_th a_ha a_wk a_r a_x e_tl e_fd e_fpl a_wd e_wn a_rf (-1))), (a_rf, (arI G 5 z39))] hP hD ?_
      clear hP hD
      intro hP hD
      exact W.iret (v := (-1)) hx hb hr (fun t ht hW => ⟨⟨(-1), [(a_o, (oc11 a_h a_im a_ke a_k a_wa a_th a_ha a_wk a_r a_x e_tl e_fd e_fpl a_wd e_wn a_rf (-1))), (a_rf, (arI G 5 z39)), (a_h, (oc1 e_wa e_le e_st e_fo e_lc a_l a_g a_b a_s a_p a_w e_gb a_bb)), (a_p, (oc6 8 5 a_pn e_p)), (a_pn, (arI G 40 f_p))], rfl, ⟨(-1), (-1), z39, e_p, f_p, h_e_p, e_pk, (spot_1 (f := f_ro) (c := p_c) (s := p_s) (l := p_l) (by unfold okP; omega)).1.symm, by rw [(spot_1 (f := f_ro) (c := p_c) (s := p_s) (l := p_l) (by unfold okP; omega)).2]; exact e_hp, rfl, rfl⟩, by rw [ht]; exact hP.sub [3, 4, 0, 1, 2] rfl, hD.sub [3, 4, 0, 1, 2] (by decide +kernel) rfl⟩, hS.F ht⟩) hS.2.2 dX11_spot_26
    ·
      exact absurd c_38 (by decide +kernel)
set_option maxHeartbeats 4000000 in
set_option maxRecDepth 100000 in
theorem x_wishX (l : Launch) (G : g5_G) (a_o a_rf a_h a_w a_wn a_im a_ke a_k a_wa a_th a_ha a_wk a_r a_x a_wd a_l a_g a_b a_s a_p a_bb : Nat) (sz : Nat) (e_tl : Int32) (e_fd : Int32) (e_fpl : Int32) (e_wn : Int32) (e_lr : Int32) (e_le : Int32) (e_st : Int32) (e_fo : Int32) (e_lc : Int32) (e_w : Int32) (p_c : Int32) (p_w : Int32) (p_h : Int32) (p_a : Int32) (p_t : Int32) (p_i : Int32) (e_wa : Int64) (e_gb : Int64) (f_rf : Nat → Int32) (f_w : Nat → Int32) (f_ro : Nat → Int32) (h_e_tl : 0 ≤ e_tl.toInt ∧ e_tl.toInt ≤ 400) (h_e_wn : 0 ≤ e_wn.toInt ∧ e_wn.toInt ≤ 1) (h_e_w : 0 ≤ e_w.toInt ∧ e_w.toInt ≤ 6) (e_hw : QW e_w f_w f_ro) : Met l yX11_wish (wsG yX11_wish cX11_wish 8 (some .int)) ({ frames := 3, cells := 0, slots := 0, locals := 68 }) (va_Pc [.ref a_o, .int p_c, .int p_w, .int p_h, .int p_a, .int p_t, .int p_i] (g5_P G [(a_o, (oc11 a_h a_im a_ke a_k a_wa a_th a_ha a_wk a_r a_x e_tl e_fd e_fpl a_wd e_wn a_rf e_lr)), (a_rf, (arI G 5 f_rf)), (a_h, (oc1 e_wa e_le e_st e_fo e_lc a_l a_g a_b a_s a_p a_w e_gb a_bb)), (a_w, (oc6 6 6 a_wn e_w)), (a_wn, (arI G 36 f_w))] sz)) (va_Qi (fun (r : Int32) (u : va_W) => (∃ (o_r : Int32) (o_lr : Int32) (o_rf : Nat → Int32) (o_n : Int32) (o_f : Nat → Int32), (0 ≤ o_n.toInt ∧ o_n.toInt ≤ 6) ∧ (o_r = awish f_ro p_c p_w p_h p_a p_t p_i) ∧ (QW o_n o_f (swish f_ro p_c p_w p_h p_a p_t p_i)) ∧ (r = o_r) ∧ (u = [(a_o, (oc11 a_h a_im a_ke a_k a_wa a_th a_ha a_wk a_r a_x e_tl e_fd e_fpl a_wd e_wn a_rf o_lr)), (a_rf, (arI G 5 o_rf)), (a_h, (oc1 e_wa e_le e_st e_fo e_lc a_l a_g a_b a_s a_p a_w e_gb a_bb)), (a_w, (oc6 6 6 a_wn o_n)), (a_wn, (arI G 36 o_f))]))) (g5_B G (va_A [(a_o, (oc11 a_h a_im a_ke a_k a_wa a_th a_ha a_wk a_r a_x e_tl e_fd e_fpl a_wd e_wn a_rf e_lr)), (a_rf, (arI G 5 f_rf)), (a_h, (oc1 e_wa e_le e_st e_fo e_lc a_l a_g a_b a_s a_p a_w e_gb a_bb)), (a_w, (oc6 6 6 a_wn e_w)), (a_wn, (arI G 36 f_w))] sz)) (va_A [(a_o, (oc11 a_h a_im a_ke a_k a_wa a_th a_ha a_wk a_r a_x e_tl e_fd e_fpl a_wd e_wn a_rf e_lr)), (a_rf, (arI G 5 f_rf)), (a_h, (oc1 e_wa e_le e_st e_fo e_lc a_l a_g a_b a_s a_p a_w e_gb a_bb)), (a_w, (oc6 6 6 a_wn e_w)), (a_wn, (arI G 36 f_w))] sz)) 0 0 (va_A [(a_o, (oc11 a_h a_im a_ke a_k a_wa a_th a_ha a_wk a_r a_x e_tl e_fd e_fpl a_wd e_wn a_rf e_lr)), (a_rf, (arI G 5 f_rf)), (a_h, (oc1 e_wa e_le e_st e_fo e_lc a_l a_g a_b a_s a_p a_w e_gb a_bb)), (a_w, (oc6 6 6 a_wn e_w)), (a_wn, (arI G 36 f_w))] sz) := by
  refine Met.ofW (cc := cX11_wish) (maxL := 8) (ret := (some .int)) (by decide +kernel) rfl ?_
  intro p e s m args below meth c s₁ B hml hv
  obtain ⟨rfl, hsz, hP, hK, hD0, hN, hT⟩ := hv
  have hx := B.exec
  have hb := B.bytes
  have hr := B.returns
  have hts : ∀ w ∈ tblG, w.before _ s = true := fun w h => atoms_spec (ws := (wsG yX11_wish cX11_wish 8 (some .int))) B.pre w (List.mem_cons_of_mem _ h)
  have hown : s.vm.findClass RX11 = some m.cls := findClass_of_methodNamed B.named
  have hlocks := B.notSynchronized
  subst hsz
  have hD := hD0.self (sz := s.heap.size)
  generalize hAe : va_A [(a_o, (oc11 a_h a_im a_ke a_k a_wa a_th a_ha a_wk a_r a_x e_tl e_fd e_fpl a_wd e_wn a_rf e_lr)), (a_rf, (arI G 5 f_rf)), (a_h, (oc1 e_wa e_le e_st e_fo e_lc a_l a_g a_b a_s a_p a_w e_gb a_bb)), (a_w, (oc6 6 6 a_wn e_w)), (a_wn, (arI G 36 f_w))] s.heap.size = A at hD hT ⊢
  have hA : ∀ q : Nat, s.heap.size ≤ q → A q := fun q h => by rw [← hAe]; exact Or.inr h
  have hS : va_S A s.heap s.heap [] := va_S.rf
  replace hP : va_P G.1 vwCl [(a_o, (oc11 a_h a_im a_ke a_k a_wa a_th a_ha a_wk a_r a_x e_tl e_fd e_fpl a_wd e_wn a_rf e_lr)), (a_rf, (arI G 5 f_rf)), (a_h, (oc1 e_wa e_le e_st e_fo e_lc a_l a_g a_b a_s a_p a_w e_gb a_bb)), (a_w, (oc6 6 6 a_wn e_w)), (a_wn, (arI G 36 f_w))] s.heap := hP
  have hl := lv_entry ([.ref a_o, .int p_c, .int p_w, .int p_h, .int p_a, .int p_t, .int p_i]) (n := 8) (Nat.le_of_ble_eq_true rfl)
  rw [lg_entry_eq]
  generalize (lg_sl ([.ref a_o, .int p_c, .int p_w, .int p_h, .int p_a, .int p_t, .int p_i]) ++ List.replicate (8 - (lg_sl ([.ref a_o, .int p_c, .int p_w, .int p_h, .int p_a, .int p_t, .int p_i])).length) Slot.unset).toArray = ls at hl ⊢
  replace hl : lv_has ls 8 [(0, .ref a_o), (1, .int p_c), (2, .int p_w), (3, .int p_h), (4, .int p_a), (5, .int p_t), (6, .int p_i)] := hl
  refine lv_iload_n hx hb dX11_wish_0 rfl (lv_at hl 1 rfl) ?_
  refine lv_iload_n hx hb dX11_wish_1 rfl (lv_at hl 2 rfl) ?_
  refine lv_iload_n hx hb dX11_wish_2 rfl (lv_at hl 3 rfl) ?_
  obtain ⟨hPc, hDc, hFc⟩ := g5_sub3 (wc := []) hP hD hS hA [] (by decide +kernel) rfl
  refine va_calli (va_runS (As := [.int p_c, .int p_w, .int p_h]) (rest := []) ⟨hx, hb, hml, hown, hts⟩ (x_isLookX l G s.heap.size p_c p_w p_h) (va_cwS 3 hts gS_X11_207 rfl rfl rfl hs_X11_isLook ⟨Nat.le_of_ble_eq_true rfl, Nat.le_of_ble_eq_true rfl⟩) (g5_preS hPc hK hDc hN hT hS hFc) rfl rfl hl.1 rfl (lv_room (Nat.le_of_ble_eq_true rfl)) dX11_wish_3 ⟨Nat.le_of_ble_eq_true rfl, Nat.le_of_ble_eq_true rfl⟩) hS (fun q _ h => hFc q h) hFc (fun r u t H locs ht hvm hw hB hz1 hk1 hS => ?_)
  obtain ⟨hP1, hD1⟩ := hB
  have hP1 := g5_ht ht hP1
  rcases hw with ⟨(i_1 : okL p_c p_w p_h), (i_2 : 0 ≤ p_c.toInt ∧ p_c.toInt ≤ 63), (i_3 : 0 ≤ p_w.toInt ∧ p_w.toInt ≤ 3), (i_4 : 0 ≤ p_h.toInt ∧ p_h.toInt ≤ 23), rfl, rfl⟩ | ⟨(i_5 : ¬ okL p_c p_w p_h), rfl, rfl⟩
  ·
    have hJ9 := g5_same hP hk1
    clear hP hPc hDc hFc ht hvm hz1 hk1 hP1 hD1
    have hP := hJ9
    clear hJ9
    refine lv_if_eq (tgt := 33) hx hb dX11_wish_6 (by decide +kernel) (fun c_6 => ?_) (fun c_6 => ?_)
    ·
      exact absurd c_6 (by decide +kernel)
    ·
      refine lv_iload hx hb dX11_wish_9 (lv_at hl 4 rfl) ?_
      obtain ⟨hPc, hDc, hFc⟩ := g5_sub3 (wc := []) hP hD hS hA [] (by decide +kernel) rfl
      refine va_calli (va_runS (As := [.int p_a]) (rest := []) ⟨hx, hb, hml, hown, hts⟩ (x_isCellX l G H.size p_a) (va_cwS 1 hts gS_X11_97 rfl rfl rfl hs_X11_isCell ⟨Nat.le_of_ble_eq_true rfl, Nat.le_of_ble_eq_true rfl⟩) (g5_preS hPc hK hDc hN hT hS hFc) rfl rfl hl.1 rfl (lv_room (Nat.le_of_ble_eq_true rfl)) dX11_wish_11 ⟨Nat.le_of_ble_eq_true rfl, Nat.le_of_ble_eq_true rfl⟩) hS (fun q _ h => hFc q h) hFc (fun r u t H locs ht hvm hw hB hz1 hk1 hS => ?_)
      obtain ⟨hP1, hD1⟩ := hB
      have hP1 := g5_ht ht hP1
      rcases hw with ⟨(i_7 : 0 ≤ p_a.toInt ∧ p_a.toInt ≤ 63), rfl, rfl⟩ | ⟨(i_8 : p_a.toInt < 0 ∨ 63 < p_a.toInt), rfl, rfl⟩
      ·
        have hJ9 := g5_same hP hk1
        clear hP hPc hDc hFc ht hvm hz1 hk1 hP1 hD1
        have hP := hJ9
        clear hJ9
        refine lv_if_eq (tgt := 33) hx hb dX11_wish_14 (by decide +kernel) (fun c_9 => ?_) (fun c_9 => ?_)
        ·
          exact absurd c_9 (by decide +kernel)
        ·
          refine lv_iload hx hb dX11_wish_17 (lv_at hl 5 rfl) ?_
          obtain ⟨hPc, hDc, hFc⟩ := g5_sub3 (wc := []) hP hD hS hA [] (by decide +kernel) rfl
          refine va_calli (va_runS (As := [.int p_t]) (rest := []) ⟨hx, hb, hml, hown, hts⟩ (x_isHourX l G H.size p_t) (va_cwS 1 hts gS_X11_127 rfl rfl rfl hs_X11_isHour ⟨Nat.le_of_ble_eq_true rfl, Nat.le_of_ble_eq_true rfl⟩) (g5_preS hPc hK hDc hN hT hS hFc) rfl rfl hl.1 rfl (lv_room (Nat.le_of_ble_eq_true rfl)) dX11_wish_19 ⟨Nat.le_of_ble_eq_true rfl, Nat.le_of_ble_eq_true rfl⟩) hS (fun q _ h => hFc q h) hFc (fun r u t H locs ht hvm hw hB hz1 hk1 hS => ?_)
          obtain ⟨hP1, hD1⟩ := hB
          have hP1 := g5_ht ht hP1
          rcases hw with ⟨(i_10 : 0 ≤ p_t.toInt ∧ p_t.toInt ≤ 23), rfl, rfl⟩ | ⟨(i_11 : p_t.toInt < 0 ∨ 23 < p_t.toInt), rfl, rfl⟩
          ·
            have hJ9 := g5_same hP hk1
            clear hP hPc hDc hFc ht hvm hz1 hk1 hP1 hD1
            have hP := hJ9
            clear hJ9
            refine lv_if_eq (tgt := 33) hx hb dX11_wish_22 (by decide +kernel) (fun c_12 => ?_) (fun c_12 => ?_)
            ·
              exact absurd c_12 (by decide +kernel)
            ·
              refine lv_iload hx hb dX11_wish_25 (lv_at hl 6 rfl) ?_
              obtain ⟨hPc, hDc, hFc⟩ := g5_sub3 (wc := []) hP hD hS hA [] (by decide +kernel) rfl
              refine va_calli (va_runS (As := [.int p_i]) (rest := []) ⟨hx, hb, hml, hown, hts⟩ (x_isFlagX l G H.size p_i) (va_cwS 1 hts gS_X11_101 rfl rfl rfl hs_X11_isFlag ⟨Nat.le_of_ble_eq_true rfl, Nat.le_of_ble_eq_true rfl⟩) (g5_preS hPc hK hDc hN hT hS hFc) rfl rfl hl.1 rfl (lv_room (Nat.le_of_ble_eq_true rfl)) dX11_wish_27 ⟨Nat.le_of_ble_eq_true rfl, Nat.le_of_ble_eq_true rfl⟩) hS (fun q _ h => hFc q h) hFc (fun r u t H locs ht hvm hw hB hz1 hk1 hS => ?_)
              obtain ⟨hP1, hD1⟩ := hB
              have hP1 := g5_ht ht hP1
              rcases hw with ⟨(i_13 : 0 ≤ p_i.toInt ∧ p_i.toInt ≤ 1), rfl, rfl⟩ | ⟨(i_14 : p_i.toInt < 0 ∨ 1 < p_i.toInt), rfl, rfl⟩
              ·
                have hJ9 := g5_same hP hk1
                clear hP hPc hDc hFc ht hvm hz1 hk1 hP1 hD1
                have hP := hJ9
                clear hJ9
                refine lv_if_ne (tgt := 39) hx hb dX11_wish_30 (by decide +kernel) (fun c_15 => ?_) (fun c_15 => ?_)
                ·
                  refine lv_aload_n hx hb dX11_wish_39 rfl (lv_at hl 0 rfl) ?_
                  refine va_get (D := G.1) (ci := 11) (v := .ref a_h) (C := RX11) (T := TX11) (N := 17) hx hb hts inG_X11 hown hK hP 0 rfl rfl 0 (by decide +kernel) (hts _ fl_X11_12) (fun _ h9 => h9) rfl dX11_wish_40 ?_
                  refine va_get (D := G.1) (ci := 1) (v := .ref a_w) (C := RX1) (T := TX1) (N := 13) hx hb hts inG_X1 hown hK hP 2 rfl rfl 10 (by decide +kernel) (hts _ fl_X11_309) (fun _ h9 => h9) rfl dX11_wish_43 ?_
                  obtain ⟨hPc, hDc, hFc⟩ := g5_sub3 (wc := [(a_w, (oc6 6 6 a_wn e_w))]) hP hD hS hA [3] (by decide +kernel) rfl
                  refine va_calli (va_runV (As := []) (rest := []) ⟨hx, hb, hml, hown, hts⟩ (t_isFull_W l G a_w a_wn H.size e_w h_e_w) (cwV 0 hts gV_X11_140 rfl rfl rfl hv_X6_isFull ⟨Nat.le_of_ble_eq_true rfl, Nat.le_of_ble_eq_true rfl⟩) (g5_preV hPc hK hDc hN hT hS hFc (ci := 6) (q0 := 0) rfl rfl) rfl rfl hl.1 rfl (lv_room (Nat.le_of_ble_eq_true rfl)) dX11_wish_46 ⟨Nat.le_of_ble_eq_true rfl, Nat.le_of_ble_eq_true rfl⟩) hS (fun q _ h => hFc q h) hFc (fun r u t H locs ht hvm hw hB hz1 hk1 hS => ?_)
                  obtain ⟨hP1, hD1⟩ := hB
                  have hP1 := g5_ht ht hP1
                  rcases hw with ⟨(i_16 : e_w.toInt = 6), rfl, rfl⟩ | ⟨(i_17 : e_w.toInt < 6), rfl, rfl⟩
                  ·
                    have hJ9 := va_join (wr := [(a_o, (oc11 a_h a_im a_ke a_k a_wa a_th a_ha a_wk a_r a_x e_tl e_fd e_fpl a_wd e_wn a_rf e_lr)), (a_rf, (arI G 5 f_rf)), (a_h, (oc1 e_wa e_le e_st e_fo e_lc a_l a_g a_b a_s a_p a_w e_gb a_bb)), (a_wn, (arI G 36 f_w))]) hP hD [3] [0, 1, 2, 4] rfl rfl (by decide +kernel) (by decide +kernel) hk1 hFc hP1 hD1
                    clear hP hD hPc hDc hFc ht hvm hz1 hk1 hP1 hD1
                    obtain ⟨hP, hD⟩ := hJ9
                    refine g5_rs [(a_o, (oc11 a_h a_im a_ke a_k a_wa a_th a_ha a_wk a_r a_x e_tl e_fd e_fpl a_wd e_wn a_rf e_lr)), (a_rf, (arI G 5 f_rf)), (a_h, (oc1 e_wa e_le e_st e_fo e_lc a_l a_g a_b a_s a_p a_w e_gb a_bb)), (a_wn, (arI G 36 f_w)), (a_w, (oc6 6 6 a_wn e_w))] hP hD ?_
                    clear hP hD
                    intro hP hD
                    refine lv_if_eq (tgt := 59) hx hb dX11_wish_49 (by decide +kernel) (fun c_18 => ?_) (fun c_18 => ?_)
                    ·
                      exact absurd c_18 (by decide +kernel)
                    ·
                      refine lv_aload_n hx hb dX11_wish_52 rfl (lv_at hl 0 rfl) ?_
                      refine lv_bipush (v := (-5)) hx hb dX11_wish_53 (by decide +kernel) ?_
                      obtain ⟨hPc, hDc, hFc⟩ := g5_sub3 (wc := [(a_o, (oc11 a_h a_im a_ke a_k a_wa a_th a_ha a_wk a_r a_x e_tl e_fd e_fpl a_wd e_wn a_rf e_lr)), (a_rf, (arI G 5 f_rf))]) hP hD hS hA [0, 1] (by decide +kernel) rfl
                      refine va_calli (va_runV (As := [.int (-5)]) (rest := []) ⟨hx, hb, hml, hown, hts⟩ (x_refuse5 l G a_o a_rf a_h a_im a_ke a_k a_wa a_th a_ha a_wk a_r a_x a_wd H.size e_tl e_fd e_fpl e_wn e_lr f_rf h_e_tl h_e_wn) (cwV 1 hts gV_X11_104 rfl rfl rfl hv_X11_refuse ⟨Nat.le_of_ble_eq_true rfl, Nat.le_of_ble_eq_true rfl⟩) (g5_preV hPc hK hDc hN hT hS hFc (ci := 11) (q0 := 0) rfl rfl) rfl rfl hl.1 rfl (lv_room (Nat.le_of_ble_eq_true rfl)) dX11_wish_55 ⟨Nat.le_of_ble_eq_true rfl, Nat.le_of_ble_eq_true rfl⟩) hS (fun q _ h => hFc q h) hFc (fun r u t H locs ht hvm hw hB hz1 hk1 hS => ?_)
                      obtain ⟨hP1, hD1⟩ := hB
                      have hP1 := g5_ht ht hP1
                      obtain ⟨z19, rfl, rfl⟩ := hw
                      have hJ9 := va_join (wr := [(a_h, (oc1 e_wa e_le e_st e_fo e_lc a_l a_g a_b a_s a_p a_w e_gb a_bb)), (a_wn, (arI G 36 f_w)), (a_w, (oc6 6 6 a_wn e_w))]) hP hD [0, 1] [2, 3, 4] rfl rfl (by decide +kernel) (by decide +kernel) hk1 hFc hP1 hD1
                      clear hP hD hPc hDc hFc ht hvm hz1 hk1 hP1 hD1
                      obtain ⟨hP, hD⟩ := hJ9
                      refine g5_rs [(a_h, (oc1 e_wa e_le e_st e_fo e_lc a_l a_g a_b a_s a_p a_w e_gb a_bb)), (a_wn, (arI G 36 f_w)), (a_w, (oc6 6 6 a_wn e_w)), (a_o, (oc11 a_h a_im a_ke a_k a_wa a_th a_ha a_wk a_r a_x e_tl e_fd e_fpl a_wd e_wn a_rf (-5))), (a_rf, (arI G 5 z19))] hP hD ?_
                      clear hP hD
                      intro hP hD
                      exact W.iret (v := (-5)) hx hb hr (fun t ht hW => ⟨⟨(-5), [(a_o, (oc11 a_h a_im a_ke a_k a_wa a_th a_ha a_wk a_r a_x e_tl e_fd e_fpl a_wd e_wn a_rf (-5))), (a_rf, (arI G 5 z19)), (a_h, (oc1 e_wa e_le e_st e_fo e_lc a_l a_g a_b a_s a_p a_w e_gb a_bb)), (a_w, (oc6 6 6 a_wn e_w)), (a_wn, (arI G 36 f_w))], rfl, ⟨(-5), (-5), z19, e_w, f_w, h_e_w, (wish_5 (f := f_ro) (c := p_c) (w := p_w) (h := p_h) (a := p_a) (t := p_t) (i := p_i) ⟨i_1, ⟨by omega, by omega⟩, ⟨by omega, by omega⟩, ⟨by omega, by omega⟩⟩ (by rw [e_hw.2.1]; omega)).1.symm, by rw [(wish_5 (f := f_ro) (c := p_c) (w := p_w) (h := p_h) (a := p_a) (t := p_t) (i := p_i) ⟨i_1, ⟨by omega, by omega⟩, ⟨by omega, by omega⟩, ⟨by omega, by omega⟩⟩ (by rw [e_hw.2.1]; omega)).2]; exact e_hw, rfl, rfl⟩, by rw [ht]; exact hP.sub [3, 4, 0, 2, 1] rfl, hD.sub [3, 4, 0, 2, 1] (by decide +kernel) rfl⟩, hS.F ht⟩) hS.2.2 dX11_wish_58
                  ·
                    have hJ9 := va_join (wr := [(a_o, (oc11 a_h a_im a_ke a_k a_wa a_th a_ha a_wk a_r a_x e_tl e_fd e_fpl a_wd e_wn a_rf e_lr)), (a_rf, (arI G 5 f_rf)), (a_h, (oc1 e_wa e_le e_st e_fo e_lc a_l a_g a_b a_s a_p a_w e_gb a_bb)), (a_wn, (arI G 36 f_w))]) hP hD [3] [0, 1, 2, 4] rfl rfl (by decide +kernel) (by decide +kernel) hk1 hFc hP1 hD1
                    clear hP hD hPc hDc hFc ht hvm hz1 hk1 hP1 hD1
                    obtain ⟨hP, hD⟩ := hJ9
                    refine g5_rs [(a_o, (oc11 a_h a_im a_ke a_k a_wa a_th a_ha a_wk a_r a_x e_tl e_fd e_fpl a_wd e_wn a_rf e_lr)), (a_rf, (arI G 5 f_rf)), (a_h, (oc1 e_wa e_le e_st e_fo e_lc a_l a_g a_b a_s a_p a_w e_gb a_bb)), (a_wn, (arI G 36 f_w)), (a_w, (oc6 6 6 a_wn e_w))] hP hD ?_
                    clear hP hD
                    intro hP hD
                    refine lv_if_eq (tgt := 59) hx hb dX11_wish_49 (by decide +kernel) (fun c_20 => ?_) (fun c_20 => ?_)
                    ·
                      refine lv_aload_n hx hb dX11_wish_59 rfl (lv_at hl 0 rfl) ?_
                      refine va_get (D := G.1) (ci := 11) (v := .ref a_h) (C := RX11) (T := TX11) (N := 17) hx hb hts inG_X11 hown hK hP 0 rfl rfl 0 (by decide +kernel) (hts _ fl_X11_12) (fun _ h9 => h9) rfl dX11_wish_60 ?_
                      refine va_get (D := G.1) (ci := 1) (v := .ref a_w) (C := RX1) (T := TX1) (N := 13) hx hb hts inG_X1 hown hK hP 2 rfl rfl 10 (by decide +kernel) (hts _ fl_X11_309) (fun _ h9 => h9) rfl dX11_wish_63 ?_
                      refine lv_iconst (v := 0) hx hb dX11_wish_66 (by decide +kernel) ?_
                      refine W.eq (g2 := F0 m 67 ls [.int 0, .ref a_w]) rfl ?_
                      obtain ⟨hPc, hDc, hFc⟩ := g5_sub3 (wc := [(a_w, (oc6 6 6 a_wn e_w)), (a_wn, (arI G 36 f_w))]) hP hD hS hA [4, 3] (by decide +kernel) rfl
                      refine va_calli (va_runV (As := [.int 0]) (rest := []) ⟨hx, hb, hml, hown, hts⟩ (t_open_W l G a_w a_wn H.size e_w 0 f_w h_e_w) (cwV 1 hts gV_X11_146 rfl rfl rfl hv_X6_open ⟨Nat.le_of_ble_eq_true rfl, Nat.le_of_ble_eq_true rfl⟩) (g5_preV hPc hK hDc hN hT hS hFc (ci := 6) (q0 := 0) rfl rfl) rfl rfl hl.1 rfl (lv_room (Nat.le_of_ble_eq_true rfl)) dX11_wish_67 ⟨Nat.le_of_ble_eq_true rfl, Nat.le_of_ble_eq_true rfl⟩) hS (fun q _ h => hFc q h) hFc (fun r u t H locs ht hvm hw hB hz1 hk1 hS => ?_)
                      obtain ⟨hP1, hD1⟩ := hB
                      have hP1 := g5_ht ht hP1
                      rcases hw with ⟨(i_21 : e_w.toInt = 6), rfl, rfl⟩ | ⟨z25, (i_22 : e_w.toInt < 6), (i_23 : (e_w + 1).toInt = e_w.toInt + 1), (i_24 : z25 = tfil f_w e_w.toInt 6 (0 : Int32) 6), y26, rfl⟩
                      ·
                        omega
                      ·
                        have hJ9 := va_join (wr := [(a_o, (oc11 a_h a_im a_ke a_k a_wa a_th a_ha a_wk a_r a_x e_tl e_fd e_fpl a_wd e_wn a_rf e_lr)), (a_rf, (arI G 5 f_rf)), (a_h, (oc1 e_wa e_le e_st e_fo e_lc a_l a_g a_b a_s a_p a_w e_gb a_bb))]) hP hD [4, 3] [0, 1, 2] rfl rfl (by decide +kernel) (by decide +kernel) hk1 hFc hP1 hD1
                        clear hP hD hPc hDc hFc ht hvm hz1 hk1 hP1 hD1
                        obtain ⟨hP, hD⟩ := hJ9
                        refine g5_rs [(a_o, (oc11 a_h a_im a_ke a_k a_wa a_th a_ha a_wk a_r a_x e_tl e_fd e_fpl a_wd e_wn a_rf e_lr)), (a_rf, (arI G 5 f_rf)), (a_h, (oc1 e_wa e_le e_st e_fo e_lc a_l a_g a_b a_s a_p a_w e_gb a_bb)), (a_w, (oc6 6 6 a_wn (e_w + 1))), (a_wn, (arI G 36 z25))] hP hD ?_
                        clear hP hD
                        intro hP hD
                        refine g5_ti (v := e_w) y26 ?_
                        refine lv_istore (lv' := [(7, .int e_w), (0, .ref a_o), (1, .int p_c), (2, .int p_w), (3, .int p_h), (4, .int p_a), (5, .int p_t), (6, .int p_i)]) hx hb dX11_wish_70 hl (by decide +kernel) rfl ?_
                        clear hl
                        intro ls hl
                        refine lv_aload_n hx hb dX11_wish_72 rfl (lv_at hl 1 rfl) ?_
                        refine va_get (D := G.1) (ci := 11) (v := .ref a_h) (C := RX11) (T := TX11) (N := 17) hx hb hts inG_X11 hown hK hP 0 rfl rfl 0 (by decide +kernel) (hts _ fl_X11_12) (fun _ h9 => h9) rfl dX11_wish_73 ?_
                        refine va_get (D := G.1) (ci := 1) (v := .ref a_w) (C := RX1) (T := TX1) (N := 13) hx hb hts inG_X1 hown hK hP 2 rfl rfl 10 (by decide +kernel) (hts _ fl_X11_309) (fun _ h9 => h9) rfl dX11_wish_76 ?_
                        refine W.eq (g2 := F0 m 79 ls [.ref a_w]) rfl ?_
                        refine lv_iload hx hb dX11_wish_79 (lv_at hl 0 rfl) ?_
                        refine lv_iload_n hx hb dX11_wish_81 rfl (lv_at hl 2 rfl) ?_
                        refine lv_iload_n hx hb dX11_wish_82 rfl (lv_at hl 3 rfl) ?_
                        refine lv_iload_n hx hb dX11_wish_83 rfl (lv_at hl 4 rfl) ?_
                        obtain ⟨hPc, hDc, hFc⟩ := g5_sub3 (wc := [(a_w, (oc6 6 6 a_wn (e_w + 1))), (a_wn, (arI G 36 z25))]) hP hD hS hA [3, 4] (by decide +kernel) rfl
                        refine va_callv (va_runV (As := [.int e_w, .int p_c, .int p_w, .int p_h]) (rest := []) ⟨hx, hb, hml, hown, hts⟩ (t_setLook_W l G a_w a_wn H.size (e_w + 1) e_w p_c p_w p_h z25 ⟨by omega, by omega⟩) (cwV 4 hts gV_X11_268 rfl rfl rfl hv_X6_setLook ⟨Nat.le_of_ble_eq_true rfl, Nat.le_of_ble_eq_true rfl⟩) (g5_preV hPc hK hDc hN hT hS hFc (ci := 6) (q0 := 0) rfl rfl) rfl rfl hl.1 rfl (lv_room (Nat.le_of_ble_eq_true rfl)) dX11_wish_84 ⟨Nat.le_of_ble_eq_true rfl, Nat.le_of_ble_eq_true rfl⟩) hS (fun q _ h => hFc q h) hFc (fun u t H locs ht hvm hw hB hz1 hk1 hS => ?_)
                        obtain ⟨hP1, hD1⟩ := hB
                        have hP1 := g5_ht ht hP1
                        obtain ⟨z28, (i_27 : z28 = tset (tset (tset z25 (e_w + 1).toInt 6 e_w.toInt (0 : Int32).toInt p_c) (e_w + 1).toInt 6 e_w.toInt (1 : Int32).toInt p_w) (e_w + 1).toInt 6 e_w.toInt (2 : Int32).toInt p_h), rfl⟩ := hw
                        have hJ9 := va_join (wr := [(a_o, (oc11 a_h a_im a_ke a_k a_wa a_th a_ha a_wk a_r a_x e_tl e_fd e_fpl a_wd e_wn a_rf e_lr)), (a_rf, (arI G 5 f_rf)), (a_h, (oc1 e_wa e_le e_st e_fo e_lc a_l a_g a_b a_s a_p a_w e_gb a_bb))]) hP hD [3, 4] [0, 1, 2] rfl rfl (by decide +kernel) (by decide +kernel) hk1 hFc hP1 hD1
                        clear hP hD hPc hDc hFc ht hvm hz1 hk1 hP1 hD1
                        obtain ⟨hP, hD⟩ := hJ9
                        refine g5_rs [(a_o, (oc11 a_h a_im a_ke a_k a_wa a_th a_ha a_wk a_r a_x e_tl e_fd e_fpl a_wd e_wn a_rf e_lr)), (a_rf, (arI G 5 f_rf)), (a_h, (oc1 e_wa e_le e_st e_fo e_lc a_l a_g a_b a_s a_p a_w e_gb a_bb)), (a_w, (oc6 6 6 a_wn (e_w + 1))), (a_wn, (arI G 36 z28))] hP hD ?_
                        clear hP hD
                        intro hP hD
                        refine W.eq (g2 := F0 m 87 ls []) rfl ?_
                        refine lv_aload_n hx hb dX11_wish_87 rfl (lv_at hl 1 rfl) ?_
                        refine va_get (D := G.1) (ci := 11) (v := .ref a_h) (C := RX11) (T := TX11) (N := 17) hx hb hts inG_X11 hown hK hP 0 rfl rfl 0 (by decide +kernel) (hts _ fl_X11_12) (fun _ h9 => h9) rfl dX11_wish_88 ?_
                        refine va_get (D := G.1) (ci := 1) (v := .ref a_w) (C := RX1) (T := TX1) (N := 13) hx hb hts inG_X1 hown hK hP 2 rfl rfl 10 (by decide +kernel) (hts _ fl_X11_309) (fun _ h9 => h9) rfl dX11_wish_91 ?_
                        refine lv_iload hx hb dX11_wish_94 (lv_at hl 0 rfl) ?_
                        refine lv_iconst (v := 3) hx hb dX11_wish_96 (by decide +kernel) ?_
                        refine W.eq (g2 := F0 m 97 ls [.int 3, .int e_w, .ref a_w]) rfl ?_
                        refine lv_iload hx hb dX11_wish_97 (lv_at hl 5 rfl) ?_
                        obtain ⟨hPc, hDc, hFc⟩ := g5_sub3 (wc := [(a_w, (oc6 6 6 a_wn (e_w + 1))), (a_wn, (arI G 36 z28))]) hP hD hS hA [3, 4] (by decide +kernel) rfl
                        refine va_callv (va_runV (As := [.int e_w, .int 3, .int p_a]) (rest := []) ⟨hx, hb, hml, hown, hts⟩ (t_set_W l G a_w a_wn H.size (e_w + 1) e_w 3 p_a z28 ⟨by omega, by omega⟩) (cwV 3 hts gV_X11_149 rfl rfl rfl hv_X6_set ⟨Nat.le_of_ble_eq_true rfl, Nat.le_of_ble_eq_true rfl⟩) (g5_preV hPc hK hDc hN hT hS hFc (ci := 6) (q0 := 0) rfl rfl) rfl rfl hl.1 rfl (lv_room (Nat.le_of_ble_eq_true rfl)) dX11_wish_99 ⟨Nat.le_of_ble_eq_true rfl, Nat.le_of_ble_eq_true rfl⟩) hS (fun q _ h => hFc q h) hFc (fun u t H locs ht hvm hw hB hz1 hk1 hS => ?_)
                        obtain ⟨hP1, hD1⟩ := hB
                        have hP1 := g5_ht ht hP1
                        obtain ⟨z30, (i_29 : z30 = tset z28 (e_w + 1).toInt 6 e_w.toInt (3 : Int32).toInt p_a), rfl⟩ := hw
                        have hJ9 := va_join (wr := [(a_o, (oc11 a_h a_im a_ke a_k a_wa a_th a_ha a_wk a_r a_x e_tl e_fd e_fpl a_wd e_wn a_rf e_lr)), (a_rf, (arI G 5 f_rf)), (a_h, (oc1 e_wa e_le e_st e_fo e_lc a_l a_g a_b a_s a_p a_w e_gb a_bb))]) hP hD [3, 4] [0, 1, 2] rfl rfl (by decide +kernel) (by decide +kernel) hk1 hFc hP1 hD1
                        clear hP hD hPc hDc hFc ht hvm hz1 hk1 hP1 hD1
                        obtain ⟨hP, hD⟩ := hJ9
                        refine g5_rs [(a_o, (oc11 a_h a_im a_ke a_k a_wa a_th a_ha a_wk a_r a_x e_tl e_fd e_fpl a_wd e_wn a_rf e_lr)), (a_rf, (arI G 5 f_rf)), (a_h, (oc1 e_wa e_le e_st e_fo e_lc a_l a_g a_b a_s a_p a_w e_gb a_bb)), (a_w, (oc6 6 6 a_wn (e_w + 1))), (a_wn, (arI G 36 z30))] hP hD ?_
                        clear hP hD
                        intro hP hD
                        refine lv_aload_n hx hb dX11_wish_102 rfl (lv_at hl 1 rfl) ?_
                        refine va_get (D := G.1) (ci := 11) (v := .ref a_h) (C := RX11) (T := TX11) (N := 17) hx hb hts inG_X11 hown hK hP 0 rfl rfl 0 (by decide +kernel) (hts _ fl_X11_12) (fun _ h9 => h9) rfl dX11_wish_103 ?_
                        refine va_get (D := G.1) (ci := 1) (v := .ref a_w) (C := RX1) (T := TX1) (N := 13) hx hb hts inG_X1 hown hK hP 2 rfl rfl 10 (by decide +kernel) (hts _ fl_X11_309) (fun _ h9 => h9) rfl dX11_wish_106 ?_
                        refine W.eq (g2 := F0 m 109 ls [.ref a_w]) rfl ?_
                        refine lv_iload hx hb dX11_wish_109 (lv_at hl 0 rfl) ?_
                        refine lv_iconst (v := 4) hx hb dX11_wish_111 (by decide +kernel) ?_
                        refine lv_iload hx hb dX11_wish_112 (lv_at hl 6 rfl) ?_
                        obtain ⟨hPc, hDc, hFc⟩ := g5_sub3 (wc := [(a_w, (oc6 6 6 a_wn (e_w + 1))), (a_wn, (arI G 36 z30))]) hP hD hS hA [3, 4] (by decide +kernel) rfl
                        refine va_callv (va_runV (As := [.int e_w, .int 4, .int p_t]) (rest := []) ⟨hx, hb, hml, hown, hts⟩ (t_set_W l G a_w a_wn H.size (e_w + 1) e_w 4 p_t z30 ⟨by omega, by omega⟩) (cwV 3 hts gV_X11_149 rfl rfl rfl hv_X6_set ⟨Nat.le_of_ble_eq_true rfl, Nat.le_of_ble_eq_true rfl⟩) (g5_preV hPc hK hDc hN hT hS hFc (ci := 6) (q0 := 0) rfl rfl) rfl rfl hl.1 rfl (lv_room (Nat.le_of_ble_eq_true rfl)) dX11_wish_114 ⟨Nat.le_of_ble_eq_true rfl, Nat.le_of_ble_eq_true rfl⟩) hS (fun q _ h => hFc q h) hFc (fun u t H locs ht hvm hw hB hz1 hk1 hS => ?_)
                        obtain ⟨hP1, hD1⟩ := hB
                        have hP1 := g5_ht ht hP1
                        obtain ⟨z32, (i_31 : z32 = tset z30 (e_w + 1).toInt 6 e_w.toInt (4 : Int32).toInt p_t), rfl⟩ := hw
                        have hJ9 := va_join (wr := [(a_o, (oc11 a_h a_im a_ke a_k a_wa a_th a_ha a_wk a_r a_x e_tl e_fd e_fpl a_wd e_wn a_rf e_lr)), (a_rf, (arI G 5 f_rf)), (a_h, (oc1 e_wa e_le e_st e_fo e_lc a_l a_g a_b a_s a_p a_w e_gb a_bb))]) hP hD [3, 4] [0, 1, 2] rfl rfl (by decide +kernel) (by decide +kernel) hk1 hFc hP1 hD1
                        clear hP hD hPc hDc hFc ht hvm hz1 hk1 hP1 hD1
                        obtain ⟨hP, hD⟩ := hJ9
                        refine g5_rs [(a_o, (oc11 a_h a_im a_ke a_k a_wa a_th a_ha a_wk a_r a_x e_tl e_fd e_fpl a_wd e_wn a_rf e_lr)), (a_rf, (arI G 5 f_rf)), (a_h, (oc1 e_wa e_le e_st e_fo e_lc a_l a_g a_b a_s a_p a_w e_gb a_bb)), (a_w, (oc6 6 6 a_wn (e_w + 1))), (a_wn, (arI G 36 z32))] hP hD ?_
                        clear hP hD
                        intro hP hD
                        refine lv_aload_n hx hb dX11_wish_117 rfl (lv_at hl 1 rfl) ?_
                        refine W.eq (g2 := F0 m 118 ls [.ref a_o]) rfl ?_
                        refine va_get (D := G.1) (ci := 11) (v := .ref a_h) (C := RX11) (T := TX11) (N := 17) hx hb hts inG_X11 hown hK hP 0 rfl rfl 0 (by decide +kernel) (hts _ fl_X11_12) (fun _ h9 => h9) rfl dX11_wish_118 ?_
                        refine va_get (D := G.1) (ci := 1) (v := .ref a_w) (C := RX1) (T := TX1) (N := 13) hx hb hts inG_X1 hown hK hP 2 rfl rfl 10 (by decide +kernel) (hts _ fl_X11_309) (fun _ h9 => h9) rfl dX11_wish_121 ?_
                        refine lv_iload hx hb dX11_wish_124 (lv_at hl 0 rfl) ?_
                        refine lv_iconst (v := 5) hx hb dX11_wish_126 (by decide +kernel) ?_
                        refine lv_iload hx hb dX11_wish_127 (lv_at hl 7 rfl) ?_
                        refine W.eq (g2 := F0 m 129 ls [.int p_i, .int 5, .int e_w, .ref a_w]) rfl ?_
                        obtain ⟨hPc, hDc, hFc⟩ := g5_sub3 (wc := [(a_w, (oc6 6 6 a_wn (e_w + 1))), (a_wn, (arI G 36 z32))]) hP hD hS hA [3, 4] (by decide +kernel) rfl
                        refine va_callv (va_runV (As := [.int e_w, .int 5, .int p_i]) (rest := []) ⟨hx, hb, hml, hown, hts⟩ (t_set_W l G a_w a_wn H.size (e_w + 1) e_w 5 p_i z32 ⟨by omega, by omega⟩) (cwV 3 hts gV_X11_149 rfl rfl rfl hv_X6_set ⟨Nat.le_of_ble_eq_true rfl, Nat.le_of_ble_eq_true rfl⟩) (g5_preV hPc hK hDc hN hT hS hFc (ci := 6) (q0 := 0) rfl rfl) rfl rfl hl.1 rfl (lv_room (Nat.le_of_ble_eq_true rfl)) dX11_wish_129 ⟨Nat.le_of_ble_eq_true rfl, Nat.le_of_ble_eq_true rfl⟩) hS (fun q _ h => hFc q h) hFc (fun u t H locs ht hvm hw hB hz1 hk1 hS => ?_)
                        obtain ⟨hP1, hD1⟩ := hB
                        have hP1 := g5_ht ht hP1
                        obtain ⟨z34, (i_33 : z34 = tset z32 (e_w + 1).toInt 6 e_w.toInt (5 : Int32).toInt p_i), rfl⟩ := hw
                        have hJ9 := va_join (wr := [(a_o, (oc11 a_h a_im a_ke a_k a_wa a_th a_ha a_wk a_r a_x e_tl e_fd e_fpl a_wd e_wn a_rf e_lr)), (a_rf, (arI G 5 f_rf)), (a_h, (oc1 e_wa e_le e_st e_fo e_lc a_l a_g a_b a_s a_p a_w e_gb a_bb))]) hP hD [3, 4] [0, 1, 2] rfl rfl (by decide +kernel) (by decide +kernel) hk1 hFc hP1 hD1
                        clear hP hD hPc hDc hFc ht hvm hz1 hk1 hP1 hD1
                        obtain ⟨hP, hD⟩ := hJ9
                        refine g5_rs [(a_o, (oc11 a_h a_im a_ke a_k a_wa a_th a_ha a_wk a_r a_x e_tl e_fd e_fpl a_wd e_wn a_rf e_lr)), (a_rf, (arI G 5 f_rf)), (a_h, (oc1 e_wa e_le e_st e_fo e_lc a_l a_g a_b a_s a_p a_w e_gb a_bb)), (a_w, (oc6 6 6 a_wn (e_w + 1))), (a_wn, (arI G 36 z34))] hP hD ?_
                        clear hP hD
                        intro hP hD
                        refine lv_aload_n hx hb dX11_wish_132 rfl (lv_at hl 1 rfl) ?_
                        refine lv_aload_n hx hb dX11_wish_133 rfl (lv_at hl 1 rfl) ?_
                        refine va_get (D := G.1) (ci := 11) (v := .ref a_h) (C := RX11) (T := TX11) (N := 17) hx hb hts inG_X11 hown hK hP 0 rfl rfl 0 (by decide +kernel) (hts _ fl_X11_12) (fun _ h9 => h9) rfl dX11_wish_134 ?_
                        refine va_get (D := G.1) (ci := 1) (v := .ref a_w) (C := RX1) (T := TX1) (N := 13) hx hb hts inG_X1 hown hK hP 2 rfl rfl 10 (by decide +kernel) (hts _ fl_X11_309) (fun _ h9 => h9) rfl dX11_wish_137 ?_
                        refine W.eq (g2 := F0 m 140 ls [.ref a_w, .ref a_o]) rfl ?_
                        refine va_get (D := G.1) (ci := 6) (v := .int (e_w + 1)) (C := RX6) (T := TX6) (N := 4) hx hb hts inG_X6 hown hK hP 3 rfl rfl 3 (by decide +kernel) (hts _ fl_X11_238) (fun _ h9 => h9) rfl dX11_wish_140 ?_
                        obtain ⟨hPc, hDc, hFc⟩ := g5_sub3 (wc := [(a_o, (oc11 a_h a_im a_ke a_k a_wa a_th a_ha a_wk a_r a_x e_tl e_fd e_fpl a_wd e_wn a_rf e_lr))]) hP hD hS hA [0] (by decide +kernel) rfl
                        refine va_calli (va_runV (As := [.int (e_w + 1)]) (rest := []) ⟨hx, hb, hml, hown, hts⟩ (x_done l G a_o a_h a_im a_ke a_k a_wa a_th a_ha a_wk a_r a_x a_wd a_rf H.size e_tl e_fd e_fpl e_wn e_lr (e_w + 1) h_e_tl h_e_wn) (cwV 1 hts gV_X11_121 rfl rfl rfl hv_X11_done ⟨Nat.le_of_ble_eq_true rfl, Nat.le_of_ble_eq_true rfl⟩) (g5_preV hPc hK hDc hN hT hS hFc (ci := 11) (q0 := 0) rfl rfl) rfl rfl hl.1 rfl (lv_room (Nat.le_of_ble_eq_true rfl)) dX11_wish_143 ⟨Nat.le_of_ble_eq_true rfl, Nat.le_of_ble_eq_true rfl⟩) hS (fun q _ h => hFc q h) hFc (fun r u t H locs ht hvm hw hB hz1 hk1 hS => ?_)
                        obtain ⟨hP1, hD1⟩ := hB
                        have hP1 := g5_ht ht hP1
                        obtain ⟨rfl, rfl⟩ := hw
                        have hJ9 := va_join (wr := [(a_rf, (arI G 5 f_rf)), (a_h, (oc1 e_wa e_le e_st e_fo e_lc a_l a_g a_b a_s a_p a_w e_gb a_bb)), (a_w, (oc6 6 6 a_wn (e_w + 1))), (a_wn, (arI G 36 z34))]) hP hD [0] [1, 2, 3, 4] rfl rfl (by decide +kernel) (by decide +kernel) hk1 hFc hP1 hD1
                        clear hP hD hPc hDc hFc ht hvm hz1 hk1 hP1 hD1
                        obtain ⟨hP, hD⟩ := hJ9
                        refine g5_rs [(a_rf, (arI G 5 f_rf)), (a_h, (oc1 e_wa e_le e_st e_fo e_lc a_l a_g a_b a_s a_p a_w e_gb a_bb)), (a_w, (oc6 6 6 a_wn (e_w + 1))), (a_wn, (arI G 36 z34)), (a_o, (oc11 a_h a_im a_ke a_k a_wa a_th a_ha a_wk a_r a_x e_tl e_fd e_fpl a_wd e_wn a_rf 0))] hP hD ?_
                        clear hP hD
                        intro hP hD
                        exact W.iret (v := (e_w + 1)) hx hb hr (fun t ht hW => ⟨⟨(e_w + 1), [(a_o, (oc11 a_h a_im a_ke a_k a_wa a_th a_ha a_wk a_r a_x e_tl e_fd e_fpl a_wd e_wn a_rf 0)), (a_rf, (arI G 5 f_rf)), (a_h, (oc1 e_wa e_le e_st e_fo e_lc a_l a_g a_b a_s a_p a_w e_gb a_bb)), (a_w, (oc6 6 6 a_wn (e_w + 1))), (a_wn, (arI G 36 z34))], rfl, ⟨(e_w + 1), 0, f_rf, (e_w + 1), z34, ⟨by omega, by omega⟩, by rw [(wish_0 (f := f_ro) (c := p_c) (w := p_w) (h := p_h) (a := p_a) (t := p_t) (i := p_i) ⟨i_1, ⟨by omega, by omega⟩, ⟨by omega, by omega⟩, ⟨by omega, by omega⟩⟩ (by rw [e_hw.2.1]; omega)).1, e_hw.2.1], by rw [i_33, i_31, i_29, i_27, i_24]; exact hwi_wish e_hw (by omega) (by omega) ⟨i_1, ⟨by omega, by omega⟩, ⟨by omega, by omega⟩, ⟨by omega, by omega⟩⟩, rfl, rfl⟩, by rw [ht]; exact hP.sub [4, 0, 1, 2, 3] rfl, hD.sub [4, 0, 1, 2, 3] (by decide +kernel) rfl⟩, hS.F ht⟩) hS.2.2 dX11_wish_146
                    ·
                      exact absurd c_20 (by decide +kernel)
                ·
                  exact absurd c_15 (by decide +kernel)
              ·
                have hJ9 := g5_same hP hk1
                clear hP hPc hDc hFc ht hvm hz1 hk1 hP1 hD1
                have hP := hJ9
                clear hJ9
                refine lv_if_ne (tgt := 39) hx hb dX11_wish_30 (by decide +kernel) (fun c_35 => ?_) (fun c_35 => ?_)
                ·
                  exact absurd c_35 (by decide +kernel)
                ·
                  refine lv_aload_n hx hb dX11_wish_33 rfl (lv_at hl 0 rfl) ?_
                  refine lv_iconst (v := (-1)) hx hb dX11_wish_34 (by decide +kernel) ?_
                  obtain ⟨hPc, hDc, hFc⟩ := g5_sub3 (wc := [(a_o, (oc11 a_h a_im a_ke a_k a_wa a_th a_ha a_wk a_r a_x e_tl e_fd e_fpl a_wd e_wn a_rf e_lr)), (a_rf, (arI G 5 f_rf))]) hP hD hS hA [0, 1] (by decide +kernel) rfl
                  refine va_calli (va_runV (As := [.int (-1)]) (rest := []) ⟨hx, hb, hml, hown, hts⟩ (x_refuse1 l G a_o a_rf a_h a_im a_ke a_k a_wa a_th a_ha a_wk a_r a_x a_wd H.size e_tl e_fd e_fpl e_wn e_lr f_rf h_e_tl h_e_wn) (cwV 1 hts gV_X11_104 rfl rfl rfl hv_X11_refuse ⟨Nat.le_of_ble_eq_true rfl, Nat.le_of_ble_eq_true rfl⟩) (g5_preV hPc hK hDc hN hT hS hFc (ci := 11) (q0 := 0) rfl rfl) rfl rfl hl.1 rfl (lv_room (Nat.le_of_ble_eq_true rfl)) dX11_wish_35 ⟨Nat.le_of_ble_eq_true rfl, Nat.le_of_ble_eq_true rfl⟩) hS (fun q _ h => hFc q h) hFc (fun r u t H locs ht hvm hw hB hz1 hk1 hS => ?_)
                  obtain ⟨hP1, hD1⟩ := hB
                  have hP1 := g5_ht ht hP1
                  obtain ⟨z36, rfl, rfl⟩ := hw
                  have hJ9 := va_join (wr := [(a_h, (oc1 e_wa e_le e_st e_fo e_lc a_l a_g a_b a_s a_p a_w e_gb a_bb)), (a_w, (oc6 6 6 a_wn e_w)), (a_wn, (arI G 36 f_w))]) hP hD [0, 1] [2, 3, 4] rfl rfl (by decide +kernel) (by decide +kernel) hk1 hFc hP1 hD1
                  clear hP hD hPc hDc hFc ht hvm hz1 hk1 hP1 hD1
                  obtain ⟨hP, hD⟩ := hJ9
                  refine g5_rs [(a_h, (oc1 e_wa e_le e_st e_fo e_lc a_l a_g a_b a_s a_p a_w e_gb a_bb)), (a_w, (oc6 6 6 a_wn e_w)), (a_wn, (arI G 36 f_w)), (a_o, (oc11 a_h a_im a_ke a_k a_wa a_th a_ha a_wk a_r a_x e_tl e_fd e_fpl a_wd e_wn a_rf (-1))), (a_rf, (arI G 5 z36))] hP hD ?_
                  clear hP hD
                  intro hP hD
                  exact W.iret (v := (-1)) hx hb hr (fun t ht hW => ⟨⟨(-1), [(a_o, (oc11 a_h a_im a_ke a_k a_wa a_th a_ha a_wk a_r a_x e_tl e_fd e_fpl a_wd e_wn a_rf (-1))), (a_rf, (arI G 5 z36)), (a_h, (oc1 e_wa e_le e_st e_fo e_lc a_l a_g a_b a_s a_p a_w e_gb a_bb)), (a_w, (oc6 6 6 a_wn e_w)), (a_wn, (arI G 36 f_w))], rfl, ⟨(-1), (-1), z36, e_w, f_w, h_e_w, (wish_1 (f := f_ro) (c := p_c) (w := p_w) (h := p_h) (a := p_a) (t := p_t) (i := p_i) (fun q => by have q2 := q.2; omega)).1.symm, by rw [(wish_1 (f := f_ro) (c := p_c) (w := p_w) (h := p_h) (a := p_a) (t := p_t) (i := p_i) (fun q => by have q2 := q.2; omega)).2]; exact e_hw, rfl, rfl⟩, by rw [ht]; exact hP.sub [3, 4, 0, 1, 2] rfl, hD.sub [3, 4, 0, 1, 2] (by decide +kernel) rfl⟩, hS.F ht⟩) hS.2.2 dX11_wish_38
          ·
            have hJ9 := g5_same hP hk1
            clear hP hPc hDc hFc ht hvm hz1 hk1 hP1 hD1
            have hP := hJ9
            clear hJ9
            refine lv_if_eq (tgt := 33) hx hb dX11_wish_22 (by decide +kernel) (fun c_37 => ?_) (fun c_37 => ?_)
            ·
              refine lv_aload_n hx hb dX11_wish_33 rfl (lv_at hl 0 rfl) ?_
              refine lv_iconst (v := (-1)) hx hb dX11_wish_34 (by decide +kernel) ?_
              obtain ⟨hPc, hDc, hFc⟩ := g5_sub3 (wc := [(a_o, (oc11 a_h a_im a_ke a_k a_wa a_th a_ha a_wk a_r a_x e_tl e_fd e_fpl a_wd e_wn a_rf e_lr)), (a_rf, (arI G 5 f_rf))]) hP hD hS hA [0, 1] (by decide +kernel) rfl
              refine va_calli (va_runV (As := [.int (-1)]) (rest := []) ⟨hx, hb, hml, hown, hts⟩ (x_refuse1 l G a_o a_rf a_h a_im a_ke a_k a_wa a_th a_ha a_wk a_r a_x a_wd H.size e_tl e_fd e_fpl e_wn e_lr f_rf h_e_tl h_e_wn) (cwV 1 hts gV_X11_104 rfl rfl rfl hv_X11_refuse ⟨Nat.le_of_ble_eq_true rfl, Nat.le_of_ble_eq_true rfl⟩) (g5_preV hPc hK hDc hN hT hS hFc (ci := 11) (q0 := 0) rfl rfl) rfl rfl hl.1 rfl (lv_room (Nat.le_of_ble_eq_true rfl)) dX11_wish_35 ⟨Nat.le_of_ble_eq_true rfl, Nat.le_of_ble_eq_true rfl⟩) hS (fun q _ h => hFc q h) hFc (fun r u t H locs ht hvm hw hB hz1 hk1 hS => ?_)
              obtain ⟨hP1, hD1⟩ := hB
              have hP1 := g5_ht ht hP1
              obtain ⟨z38, rfl, rfl⟩ := hw
              have hJ9 := va_join (wr := [(a_h, (oc1 e_wa e_le e_st e_fo e_lc a_l a_g a_b a_s a_p a_w e_gb a_bb)), (a_w, (oc6 6 6 a_wn e_w)), (a_wn, (arI G 36 f_w))]) hP hD [0, 1] [2, 3, 4] rfl rfl (by decide +kernel) (by decide +kernel) hk1 hFc hP1 hD1
              clear hP hD hPc hDc hFc ht hvm hz1 hk1 hP1 hD1
              obtain ⟨hP, hD⟩ := hJ9
              refine g5_rs [(a_h, (oc1 e_wa e_le e_st e_fo e_lc a_l a_g a_b a_s a_p a_w e_gb a_bb)), (a_w, (oc6 6 6 a_wn e_w)), (a_wn, (arI G 36 f_w)), (a_o, (oc11 a_h a_im a_ke a_k a_wa a_th a_ha a_wk a_r a_x e_tl e_fd e_fpl a_wd e_wn a_rf (-1))), (a_rf, (arI G 5 z38))] hP hD ?_
              clear hP hD
              intro hP hD
              exact W.iret (v := (-1)) hx hb hr (fun t ht hW => ⟨⟨(-1), [(a_o, (oc11 a_h a_im a_ke a_k a_wa a_th a_ha a_wk a_r a_x e_tl e_fd e_fpl a_wd e_wn a_rf (-1))), (a_rf, (arI G 5 z38)), (a_h, (oc1 e_wa e_le e_st e_fo e_lc a_l a_g a_b a_s a_p a_w e_gb a_bb)), (a_w, (oc6 6 6 a_wn e_w)), (a_wn, (arI G 36 f_w))], rfl, ⟨(-1), (-1), z38, e_w, f_w, h_e_w, (wish_1 (f := f_ro) (c := p_c) (w := p_w) (h := p_h) (a := p_a) (t := p_t) (i := p_i) (fun q => by have q2 := q.2; omega)).1.symm, by rw [(wish_1 (f := f_ro) (c := p_c) (w := p_w) (h := p_h) (a := p_a) (t := p_t) (i := p_i) (fun q => by have q2 := q.2; omega)).2]; exact e_hw, rfl, rfl⟩, by rw [ht]; exact hP.sub [3, 4, 0, 1, 2] rfl, hD.sub [3, 4, 0, 1, 2] (by decide +kernel) rfl⟩, hS.F ht⟩) hS.2.2 dX11_wish_38
            ·
              exact absurd c_37 (by decide +kernel)
      ·
        have hJ9 := g5_same hP hk1
        clear hP hPc hDc hFc ht hvm hz1 hk1 hP1 hD1
        have hP := hJ9
        clear hJ9
        refine lv_if_eq (tgt := 33) hx hb dX11_wish_14 (by decide +kernel) (fun c_39 => ?_) (fun c_39 => ?_)
        ·
          refine lv_aload_n hx hb dX11_wish_33 rfl (lv_at hl 0 rfl) ?_
          refine lv_iconst (v := (-1)) hx hb dX11_wish_34 (by decide +kernel) ?_
          obtain ⟨hPc, hDc, hFc⟩ := g5_sub3 (wc := [(a_o, (oc11 a_h a_im a_ke a_k a_wa a_th a_ha a_wk a_r a_x e_tl e_fd e_fpl a_wd e_wn a_rf e_lr)), (a_rf, (arI G 5 f_rf))]) hP hD hS hA [0, 1] (by decide +kernel) rfl
          refine va_calli (va_runV (As := [.int (-1)]) (rest := []) ⟨hx, hb, hml, hown, hts⟩ (x_refuse1 l G a_o a_rf a_h a_im a_ke a_k a_wa a_th a_ha a_wk a_r a_x a_wd H.size e_tl e_fd e_fpl e_wn e_lr f_rf h_e_tl h_e_wn) (cwV 1 hts gV_X11_104 rfl rfl rfl hv_X11_refuse ⟨Nat.le_of_ble_eq_true rfl, Nat.le_of_ble_eq_true rfl⟩) (g5_preV hPc hK hDc hN hT hS hFc (ci := 11) (q0 := 0) rfl rfl) rfl rfl hl.1 rfl (lv_room (Nat.le_of_ble_eq_true rfl)) dX11_wish_35 ⟨Nat.le_of_ble_eq_true rfl, Nat.le_of_ble_eq_true rfl⟩) hS (fun q _ h => hFc q h) hFc (fun r u t H locs ht hvm hw hB hz1 hk1 hS => ?_)
          obtain ⟨hP1, hD1⟩ := hB
          have hP1 := g5_ht ht hP1
          obtain ⟨z40, rfl, rfl⟩ := hw
          have hJ9 := va_join (wr := [(a_h, (oc1 e_wa e_le e_st e_fo e_lc a_l a_g a_b a_s a_p a_w e_gb a_bb)), (a_w, (oc6 6 6 a_wn e_w)), (a_wn, (arI G 36 f_w))]) hP hD [0, 1] [2, 3, 4] rfl rfl (by decide +kernel) (by decide +kernel) hk1 hFc hP1 hD1
          clear hP hD hPc hDc hFc ht hvm hz1 hk1 hP1 hD1
          obtain ⟨hP, hD⟩ := hJ9
          refine g5_rs [(a_h, (oc1 e_wa e_le e_st e_fo e_lc a_l a_g a_b a_s a_p a_w e_gb a_bb)), (a_w, (oc6 6 6 a_wn e_w)), (a_wn, (arI G 36 f_w)), (a_o, (oc11 a_h a_im a_ke a_k a_wa a_th a_ha a_wk a_r a_x e_tl e_fd e_fpl a_wd e_wn a_rf (-1))), (a_rf, (arI G 5 z40))] hP hD ?_
          clear hP hD
          intro hP hD
          exact W.iret (v := (-1)) hx hb hr (fun t ht hW => ⟨⟨(-1), [(a_o, (oc11 a_h a_im a_ke a_k a_wa a_th a_ha a_wk a_r a_x e_tl e_fd e_fpl a_wd e_wn a_rf (-1))), (a_rf, (arI G 5 z40)), (a_h, (oc1 e_wa e_le e_st e_fo e_lc a_l a_g a_b a_s a_p a_w e_gb a_bb)), (a_w, (oc6 6 6 a_wn e_w)), (a_wn, (arI G 36 f_w))], rfl, ⟨(-1), (-1), z40, e_w, f_w, h_e_w, (wish_1 (f := f_ro) (c := p_c) (w := p_w) (h := p_h) (a := p_a) (t := p_t) (i := p_i) (fun q => by have q2 := q.2; omega)).1.symm, by rw [(wish_1 (f := f_ro) (c := p_c) (w := p_w) (h := p_h) (a := p_a) (t := p_t) (i := p_i) (fun q => by have q2 := q.2; omega)).2]; exact e_hw, rfl, rfl⟩, by rw [ht]; exact hP.sub [3, 4, 0, 1, 2] rfl, hD.sub [3, 4, 0, 1, 2] (by decide +kernel) rfl⟩, hS.F ht⟩) hS.2.2 dX11_wish_38
        ·
          exact absurd c_39 (by decide +kernel)
  ·
    have hJ9 := g5_same hP hk1
    clear hP hPc hDc hFc ht hvm hz1 hk1 hP1 hD1
    have hP := hJ9
    clear hJ9
    refine lv_if_eq (tgt := 33) hx hb dX11_wish_6 (by decide +kernel) (fun c_41 => ?_) (fun c_41 => ?_)
    ·
      refine lv_aload_n hx hb dX11_wish_33 rfl (lv_at hl 0 rfl) ?_
      refine lv_iconst (v := (-1)) hx hb dX11_wish_34 (by decide +kernel) ?_
      obtain ⟨hPc, hDc, hFc⟩ := g5_sub3 (wc := [(a_o, (oc11 a_h a_im a_ke a_k a_wa a_th a_ha a_wk a_r a_x e_tl e_fd e_fpl a_wd e_wn a_rf e_lr)), (a_rf, (arI G 5 f_rf))]) hP hD hS hA [0, 1] (by decide +kernel) rfl
      refine va_calli (va_runV (As := [.int (-1)]) (rest := []) ⟨hx, hb, hml, hown, hts⟩ (x_refuse1 l G a_o a_rf a_h a_im a_ke a_k a_wa a_th a_ha a_wk a_r a_x a_wd H.size e_tl e_fd e_fpl e_wn e_lr f_rf h_e_tl h_e_wn) (cwV 1 hts gV_X11_104 rfl rfl rfl hv_X11_refuse ⟨Nat.le_of_ble_eq_true rfl, Nat.le_of_ble_eq_true rfl⟩) (g5_preV hPc hK hDc hN hT hS hFc (ci := 11) (q0 := 0) rfl rfl) rfl rfl hl.1 rfl (lv_room (Nat.le_of_ble_eq_true rfl)) dX11_wish_35 ⟨Nat.le_of_ble_eq_true rfl, Nat.le_of_ble_eq_true rfl⟩) hS (fun q _ h => hFc q h) hFc (fun r u t H locs ht hvm hw hB hz1 hk1 hS => ?_)
      obtain ⟨hP1, hD1⟩ := hB
      have hP1 := g5_ht ht hP1
      obtain ⟨z42, rfl, rfl⟩ := hw
      have hJ9 := va_join (wr := [(a_h, (oc1 e_wa e_le e_st e_fo e_lc a_l a_g a_b a_s a_p a_w e_gb a_bb)), (a_w, (oc6 6 6 a_wn e_w)), (a_wn, (arI G 36 f_w))]) hP hD [0, 1] [2, 3, 4] rfl rfl (by decide +kernel) (by decide +kernel) hk1 hFc hP1 hD1
      clear hP hD hPc hDc hFc ht hvm hz1 hk1 hP1 hD1
      obtain ⟨hP, hD⟩ := hJ9
      refine g5_rs [(a_h, (oc1 e_wa e_le e_st e_fo e_lc a_l a_g a_b a_s a_p a_w e_gb a_bb)), (a_w, (oc6 6 6 a_wn e_w)), (a_wn, (arI G 36 f_w)), (a_o, (oc11 a_h a_im a_ke a_k a_wa a_th a_ha a_wk a_r a_x e_tl e_fd e_fpl a_wd e_wn a_rf (-1))), (a_rf, (arI G 5 z42))] hP hD ?_
      clear hP hD
      intro hP hD
      exact W.iret (v := (-1)) hx hb hr (fun t ht hW => ⟨⟨(-1), [(a_o, (oc11 a_h a_im a_ke a_k a_wa a_th a_ha a_wk a_r a_x e_tl e_fd e_fpl a_wd e_wn a_rf (-1))), (a_rf, (arI G 5 z42)), (a_h, (oc1 e_wa e_le e_st e_fo e_lc a_l a_g a_b a_s a_p a_w e_gb a_bb)), (a_w, (oc6 6 6 a_wn e_w)), (a_wn, (arI G 36 f_w))], rfl, ⟨(-1), (-1), z42, e_w, f_w, h_e_w, (wish_1 (f := f_ro) (c := p_c) (w := p_w) (h := p_h) (a := p_a) (t := p_t) (i := p_i) (fun q => i_5 q.1)).1.symm, by rw [(wish_1 (f := f_ro) (c := p_c) (w := p_w) (h := p_h) (a := p_a) (t := p_t) (i := p_i) (fun q => i_5 q.1)).2]; exact e_hw, rfl, rfl⟩, by rw [ht]; exact hP.sub [3, 4, 0, 1, 2] rfl, hD.sub [3, 4, 0, 1, 2] (by decide +kernel) rfl⟩, hS.F ht⟩) hS.2.2 dX11_wish_38
    ·
      exact absurd c_41 (by decide +kernel)
