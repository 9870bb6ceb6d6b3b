theorem dX11_readStay_0 : decode cX11_readStay 0 = .ok (.iload_n 1, 1) := by decide +kernel
theorem dX11_readStay_1 : decode cX11_readStay 1 = .ok (.iconst 4, 1) := by decide +kernel
theorem dX11_readStay_2 : decode cX11_readStay 2 = .ok (.iadd, 1) := by decide +kernel
theorem dX11_readStay_3 : decode cX11_readStay 3 = .ok (.aload_n 0, 1) := by decide +kernel
theorem dX11_readStay_4 : decode cX11_readStay 4 = .ok (.getfield 74, 3) := by decide +kernel
theorem dX11_readStay_7 : decode cX11_readStay 7 = .ok (.if_icmp .le 5, 3) := by decide +kernel
theorem dX11_readStay_10 : decode cX11_readStay 10 = .ok (.iconst 0, 1) := by decide +kernel
theorem dX11_readStay_11 : decode cX11_readStay 11 = .ok (.ireturn, 1) := by decide +kernel
theorem dX11_readStay_12 : decode cX11_readStay 12 = .ok (.aload_n 0, 1) := by decide +kernel
theorem dX11_readStay_13 : decode cX11_readStay 13 = .ok (.getfield 70, 3) := by decide +kernel
theorem dX11_readStay_16 : decode cX11_readStay 16 = .ok (.iload_n 1, 1) := by decide +kernel
theorem dX11_readStay_17 : decode cX11_readStay 17 = .ok (.iaload, 1) := by decide +kernel
theorem dX11_readStay_18 : decode cX11_readStay 18 = .ok (.istore_n 2, 1) := by decide +kernel
theorem dX11_readStay_19 : decode cX11_readStay 19 = .ok (.aload_n 0, 1) := by decide +kernel
theorem dX11_readStay_20 : decode cX11_readStay 20 = .ok (.getfield 70, 3) := by decide +kernel
theorem dX11_readStay_23 : decode cX11_readStay 23 = .ok (.iload_n 1, 1) := by decide +kernel
theorem dX11_readStay_24 : decode cX11_readStay 24 = .ok (.iconst 1, 1) := by decide +kernel
theorem dX11_readStay_25 : decode cX11_readStay 25 = .ok (.iadd, 1) := by decide +kernel
theorem dX11_readStay_26 : decode cX11_readStay 26 = .ok (.iaload, 1) := by decide +kernel
theorem dX11_readStay_27 : decode cX11_readStay 27 = .ok (.istore_n 3, 1) := by decide +kernel
theorem dX11_readStay_28 : decode cX11_readStay 28 = .ok (.aload_n 0, 1) := by decide +kernel
theorem dX11_readStay_29 : decode cX11_readStay 29 = .ok (.getfield 70, 3) := by decide +kernel
theorem dX11_readStay_32 : decode cX11_readStay 32 = .ok (.iload_n 1, 1) := by decide +kernel
theorem dX11_readStay_33 : decode cX11_readStay 33 = .ok (.iconst 2, 1) := by decide +kernel
theorem dX11_readStay_34 : decode cX11_readStay 34 = .ok (.iadd, 1) := by decide +kernel
theorem dX11_readStay_35 : decode cX11_readStay 35 = .ok (.iaload, 1) := by decide +kernel
theorem dX11_readStay_36 : decode cX11_readStay 36 = .ok (.istore 4, 2) := by decide +kernel
theorem dX11_readStay_38 : decode cX11_readStay 38 = .ok (.aload_n 0, 1) := by decide +kernel
theorem dX11_readStay_39 : decode cX11_readStay 39 = .ok (.getfield 70, 3) := by decide +kernel
theorem dX11_readStay_42 : decode cX11_readStay 42 = .ok (.iload_n 1, 1) := by decide +kernel
theorem dX11_readStay_43 : decode cX11_readStay 43 = .ok (.iconst 3, 1) := by decide +kernel
theorem dX11_readStay_44 : decode cX11_readStay 44 = .ok (.iadd, 1) := by decide +kernel
theorem dX11_readStay_45 : decode cX11_readStay 45 = .ok (.iaload, 1) := by decide +kernel
theorem dX11_readStay_46 : decode cX11_readStay 46 = .ok (.sipush 255, 3) := by decide +kernel
theorem dX11_readStay_49 : decode cX11_readStay 49 = .ok (.if_icmp .ne 7, 3) := by decide +kernel
theorem dX11_readStay_52 : decode cX11_readStay 52 = .ok (.iconst (-1), 1) := by decide +kernel
theorem dX11_readStay_53 : decode cX11_readStay 53 = .ok (.goto 11, 3) := by decide +kernel
theorem dX11_readStay_56 : decode cX11_readStay 56 = .ok (.aload_n 0, 1) := by decide +kernel
theorem dX11_readStay_57 : decode cX11_readStay 57 = .ok (.getfield 70, 3) := by decide +kernel
theorem dX11_readStay_60 : decode cX11_readStay 60 = .ok (.iload_n 1, 1) := by decide +kernel
theorem dX11_readStay_61 : decode cX11_readStay 61 = .ok (.iconst 3, 1) := by decide +kernel
theorem dX11_readStay_62 : decode cX11_readStay 62 = .ok (.iadd, 1) := by decide +kernel
theorem dX11_readStay_63 : decode cX11_readStay 63 = .ok (.iaload, 1) := by decide +kernel
theorem dX11_readStay_64 : decode cX11_readStay 64 = .ok (.istore 5, 2) := by decide +kernel
theorem dX11_readStay_66 : decode cX11_readStay 66 = .ok (.aload_n 0, 1) := by decide +kernel
theorem dX11_readStay_67 : decode cX11_readStay 67 = .ok (.getfield 12, 3) := by decide +kernel
theorem dX11_readStay_70 : decode cX11_readStay 70 = .ok (.getfield 167, 3) := by decide +kernel
theorem dX11_readStay_73 : decode cX11_readStay 73 = .ok (.iload_n 2, 1) := by decide +kernel
theorem dX11_readStay_74 : decode cX11_readStay 74 = .ok (.invokevirtual 160, 3) := by decide +kernel
theorem dX11_readStay_77 : decode cX11_readStay 77 = .ok (.ifCond .eq 26, 3) := by decide +kernel
theorem dX11_readStay_80 : decode cX11_readStay 80 = .ok (.iload_n 3, 1) := by decide +kernel
theorem dX11_readStay_81 : decode cX11_readStay 81 = .ok (.iload 4, 2) := by decide +kernel
theorem dX11_readStay_83 : decode cX11_readStay 83 = .ok (.iload 5, 2) := by decide +kernel
theorem dX11_readStay_85 : decode cX11_readStay 85 = .ok (.invokestatic 170, 3) := by decide +kernel
theorem dX11_readStay_88 : decode cX11_readStay 88 = .ok (.ifCond .eq 15, 3) := by decide +kernel
theorem dX11_readStay_91 : decode cX11_readStay 91 = .ok (.aload_n 0, 1) := by decide +kernel
theorem dX11_readStay_92 : decode cX11_readStay 92 = .ok (.getfield 12, 3) := by decide +kernel
theorem dX11_readStay_95 : decode cX11_readStay 95 = .ok (.iload 5, 2) := by decide +kernel
theorem dX11_readStay_97 : decode cX11_readStay 97 = .ok (.invokevirtual 174, 3) := by decide +kernel
theorem dX11_readStay_100 : decode cX11_readStay 100 = .ok (.ifCond .eq 5, 3) := by decide +kernel
theorem dX11_readStay_103 : decode cX11_readStay 103 = .ok (.iconst 0, 1) := by decide +kernel
theorem dX11_readStay_104 : decode cX11_readStay 104 = .ok (.ireturn, 1) := by decide +kernel
theorem dX11_readStay_105 : decode cX11_readStay 105 = .ok (.aload_n 0, 1) := by decide +kernel
theorem dX11_readStay_106 : decode cX11_readStay 106 = .ok (.getfield 12, 3) := by decide +kernel
theorem dX11_readStay_109 : decode cX11_readStay 109 = .ok (.iload_n 2, 1) := by decide +kernel
theorem dX11_readStay_110 : decode cX11_readStay 110 = .ok (.iload_n 3, 1) := by decide +kernel
theorem dX11_readStay_111 : decode cX11_readStay 111 = .ok (.iload 4, 2) := by decide +kernel
theorem dX11_readStay_113 : decode cX11_readStay 113 = .ok (.iload 5, 2) := by decide +kernel
theorem dX11_readStay_115 : decode cX11_readStay 115 = .ok (.invokevirtual 177, 3) := by decide +kernel
theorem dX11_readStay_118 : decode cX11_readStay 118 = .ok (.iconst 1, 1) := by decide +kernel
theorem dX11_readStay_119 : decode cX11_readStay 119 = .ok (.ireturn, 1) := by decide +kernel
set_option maxHeartbeats 4000000 in
set_option maxRecDepth 100000 in
theorem x_readStay (l : Launch) (G : g5_G) (a_o a_h a_b a_bn a_bb a_x a_im a_ke a_k a_wa a_th a_ha a_wk a_r a_wd a_rf a_l a_g a_s a_p a_w : Nat) (sz : Nat) (e_tl : Int32) (e_fd : Int32) (e_fpl : Int32) (e_wn : Int32) (e_lr : Int32) (e_le : Int32) (e_st : Int32) (e_fo : Int32) (e_lc : Int32) (e_b : Int32) (p_a : Int32) (e_wa : Int64) (e_gb : Int64) (f_b : Nat → Int32) (f_bb : Nat → Int64) (f_x : Nat → Int32) (h_e_tl : 0 ≤ e_tl.toInt ∧ e_tl.toInt ≤ 400) (h_e_wn : 0 ≤ e_wn.toInt ∧ e_wn.toInt ≤ 1) (h_e_b : 0 ≤ e_b.toInt ∧ e_b.toInt ≤ 5) (h_p_a : 0 ≤ p_a.toInt ∧ p_a.toInt ≤ 400) : Met l yX11_readStay (wsG yX11_readStay cX11_readStay 6 (some .boolean)) ({ frames := 3, cells := 0, slots := 0, locals := 73 }) (va_Pc [.ref a_o, .int p_a] (g5_P G [(a_o, .inr (11, [.ref a_h, .ref a_im, .ref a_ke, .ref a_k, .ref a_wa, .ref a_th, .ref a_ha, .ref a_wk, .ref a_r, .ref a_x, .int e_tl, .int e_fd, .int e_fpl, .ref a_wd, .int e_wn, .ref a_rf, .int e_lr])), (a_h, .inr (1, [.long e_wa, .int e_le, .int e_st, .int e_fo, .int e_lc, .ref a_l, .ref a_g, .ref a_b, .ref a_s, .ref a_p, .ref a_w, .long e_gb, .ref a_bb])), (a_b, .inr (6, [.int 5, .int 24, .ref a_bn, .int e_b])), (a_bn, .inl (G.2 0, 120, .inl f_b)), (a_bb, .inl (G.2 1, 24, .inr (.inl f_bb))), (a_x, .inl (G.2 0, 400, .inl f_x))] sz)) (va_Qi (fun (r : Int32) (u : va_W) => (∃ (o_r : Int32) (o_f : Nat → Int32) (o_bb : Nat → Int64), (0 ≤ o_r.toInt ∧ o_r.toInt ≤ 1) ∧ (r = o_r) ∧ (u = [(a_o, .inr (11, [.ref a_h, .ref a_im, .ref a_ke, .ref a_k, .ref a_wa, .ref a_th, .ref a_ha, .ref a_wk, .ref a_r, .ref a_x, .int e_tl, .int e_fd, .int e_fpl, .ref a_wd, .int e_wn, .ref a_rf, .int e_lr])), (a_h, .inr (1, [.long e_wa, .int e_le, .int e_st, .int e_fo, .int e_lc, .ref a_l, .ref a_g, .ref a_b, .ref a_s, .ref a_p, .ref a_w, .long e_gb, .ref a_bb])), (a_b, .inr (6, [.int 5, .int 24, .ref a_bn, .int e_b])), (a_bn, .inl (G.2 0, 120, .inl o_f)), (a_bb, .inl (G.2 1, 24, .inr (.inl o_bb))), (a_x, .inl (G.2 0, 400, .inl f_x))]))) (g5_B G (va_A [(a_o, .inr (11, [.ref a_h, .ref a_im, .ref a_ke, .ref a_k, .ref a_wa, .ref a_th, .ref a_ha, .ref a_wk, .ref a_r, .ref a_x, .int e_tl, .int e_fd, .int e_fpl, .ref a_wd, .int e_wn, .ref a_rf, .int e_lr])), (a_h, .inr (1, [.long e_wa, .int e_le, .int e_st, .int e_fo, .int e_lc, .ref a_l, .ref a_g, .ref a_b, .ref a_s, .ref a_p, .ref a_w, .long e_gb, .ref a_bb])), (a_b, .inr (6, [.int 5, .int 24, .ref a_bn, .int e_b])), (a_bn, .inl (G.2 0, 120, .inl f_b)), (a_bb, .inl (G.2 1, 24, .inr (.inl f_bb))), (a_x, .inl (G.2 0, 400, .inl f_x))] sz)) (va_A [(a_o, .inr (11, [.ref a_h, .ref a_im, .ref a_ke, .ref a_k, .ref a_wa, .ref a_th, .ref a_ha, .ref a_wk, .ref a_r, .ref a_x, .int e_tl, .int e_fd, .int e_fpl, .ref a_wd, .int e_wn, .ref a_rf, .int e_lr])), (a_h, .inr (1, [.long e_wa, .int e_le, .int e_st, .int e_fo, .int e_lc, .ref a_l, .ref a_g, .ref a_b, .ref a_s, .ref a_p, .ref a_w, .long e_gb, .ref a_bb])), (a_b, .inr (6, [.int 5, .int 24, .ref a_bn, .int e_b])), (a_bn, .inl (G.2 0, 120, .inl f_b)), (a_bb, .inl (G.2 1, 24, .inr (.inl f_bb))), (a_x, .inl (G.2 0, 400, .inl f_x))] sz)) 0 0 (va_A [(a_o, .inr (11, [.ref a_h, .ref a_im, .ref a_ke, .ref a_k, .ref a_wa, .ref a_th, .ref a_ha, .ref a_wk, .ref a_r, .ref a_x, .int e_tl, .int e_fd, .int e_fpl, .ref a_wd, .int e_wn, .ref a_rf, .int e_lr])), (a_h, .inr (1, [.long e_wa, .int e_le, .int e_st, .int e_fo, .int e_lc, .ref a_l, .ref a_g, .ref a_b, .ref a_s, .ref a_p, .ref a_w, .long e_gb, .ref a_bb])), (a_b, .inr (6, [.int 5, .int 24, .ref a_bn, .int e_b])), (a_bn, .inl (G.2 0, 120, .inl f_b)), (a_bb, .inl (G.2 1, 24, .inr (.inl f_bb))), (a_x, .inl (G.2 0, 400, .inl f_x))] sz) := by
  refine Met.ofW (cc := cX11_readStay) (maxL := 6) (ret := (some .boolean)) (by decide) rfl ?_
  intro p e s m args below meth c s₁ B hml hv
  obtain ⟨rfl, hsz, hP, hK, hD0, hN, hT⟩ := hv
  have hx := B.exec
  have hb := B.bytes
  have hr := B.returns
  have hts : ∀ w ∈ tblG, w.before _ s = true := fun w h => atoms_spec (ws := (wsG yX11_readStay cX11_readStay 6 (some .boolean))) B.pre w (List.mem_cons_of_mem _ h)
  have hown : s.vm.findClass RX11 = some m.cls := findClass_of_methodNamed B.named
  have hlocks := B.notSynchronized
  subst hsz
  have hD := hD0.self (sz := s.heap.size)
  generalize hAe : va_A [(a_o, .inr (11, [.ref a_h, .ref a_im, .ref a_ke, .ref a_k, .ref a_wa, .ref a_th, .ref a_ha, .ref a_wk, .ref a_r, .ref a_x, .int e_tl, .int e_fd, .int e_fpl, .ref a_wd, .int e_wn, .ref a_rf, .int e_lr])), (a_h, .inr (1, [.long e_wa, .int e_le, .int e_st, .int e_fo, .int e_lc, .ref a_l, .ref a_g, .ref a_b, .ref a_s, .ref a_p, .ref a_w, .long e_gb, .ref a_bb])), (a_b, .inr (6, [.int 5, .int 24, .ref a_bn, .int e_b])), (a_bn, .inl (G.2 0, 120, .inl f_b)), (a_bb, .inl (G.2 1, 24, .inr (.inl f_bb))), (a_x, .inl (G.2 0, 400, .inl f_x))] s.heap.size = A at hD hT ⊢
  have hA : ∀ q : Nat, s.heap.size ≤ q → A q := fun q h => by rw [← hAe]; exact Or.inr h
  have hS : va_S A s.heap s.heap [] := va_S.rf
  have hP : va_P G.1 vwCl [(a_o, .inr (11, [.ref a_h, .ref a_im, .ref a_ke, .ref a_k, .ref a_wa, .ref a_th, .ref a_ha, .ref a_wk, .ref a_r, .ref a_x, .int e_tl, .int e_fd, .int e_fpl, .ref a_wd, .int e_wn, .ref a_rf, .int e_lr])), (a_h, .inr (1, [.long e_wa, .int e_le, .int e_st, .int e_fo, .int e_lc, .ref a_l, .ref a_g, .ref a_b, .ref a_s, .ref a_p, .ref a_w, .long e_gb, .ref a_bb])), (a_b, .inr (6, [.int 5, .int 24, .ref a_bn, .int e_b])), (a_bn, .inl (G.2 0, 120, .inl f_b)), (a_bb, .inl (G.2 1, 24, .inr (.inl f_bb))), (a_x, .inl (G.2 0, 400, .inl f_x))] s.heap := hP
  have hl := lv_entry ([.ref a_o, .int p_a]) (n := 6) (Nat.le_of_ble_eq_true rfl)
  rw [lg_entry_eq]
  generalize (lg_sl ([.ref a_o, .int p_a]) ++ List.replicate (6 - (lg_sl ([.ref a_o, .int p_a])).length) Slot.unset).toArray = ls at hl ⊢
  have hl : lv_has ls 6 [(0, .ref a_o), (1, .int p_a)] := hl
  refine lv_iload_n hx hb dX11_readStay_0 rfl (lv_at hl 1 rfl) ?_
  refine lv_iconst (v := 4) hx hb dX11_readStay_1 (by decide) ?_
  refine lv_iadd hx hb dX11_readStay_2 ?_
  have t_1 : (p_a + 4).toInt = p_a.toInt + 4 := g5_iadd (a := p_a.toInt) (b := 4) (by rfl) (by decide) (by omega) (by omega)
  refine lv_aload_n hx hb dX11_readStay_3 rfl (lv_at hl 0 rfl) ?_
  refine va_get (D := G.1) (ci := 11) (v := .int e_tl) (C := RX11) (T := TX11) (N := 17) hx hb hts inG_X11 hown hK hP 0 rfl rfl 10 (by decide) (hts _ fl_X11_74) (fun _ h9 => h9) rfl dX11_readStay_4 ?_
  refine lv_icmp_le (tgt := 12) hx hb dX11_readStay_7 (by decide) (fun c_2 => ?_) (fun c_2 => ?_)
  ·
    have i_2 : (p_a.toInt + 4) ≤ e_tl.toInt := by have z := g5_le (a := (p_a + 4).toInt) (b := e_tl.toInt) (by rfl) (by rfl) c_2; omega
    refine lv_aload_n hx hb dX11_readStay_12 rfl (lv_at hl 0 rfl) ?_
    refine va_get (D := G.1) (ci := 11) (v := .ref a_x) (C := RX11) (T := TX11) (N := 17) hx hb hts inG_X11 hown hK hP 0 rfl rfl 9 (by decide) (hts _ fl_X11_70) (fun _ h9 => h9) rfl dX11_readStay_13 ?_
    refine lv_iload_n hx hb dX11_readStay_16 rfl (lv_at hl 1 rfl) ?_
    refine va_iald hx hb hK hP 5 0 rfl rfl (i := p_a) (vp_in_iff.mpr ⟨by omega, by omega⟩) dX11_readStay_17 ?_
    refine lv_istore_n (lv' := [(2, .int (f_x p_a.toNatClampNeg)), (0, .ref a_o), (1, .int p_a)]) hx hb dX11_readStay_18 rfl hl (by decide) rfl (fun ls hl => ?_)
    refine lv_aload_n hx hb dX11_readStay_19 rfl (lv_at hl 1 rfl) ?_
    refine va_get (D := G.1) (ci := 11) (v := .ref a_x) (C := RX11) (T := TX11) (N := 17) hx hb hts inG_X11 hown hK hP 0 rfl rfl 9 (by decide) (hts _ fl_X11_70) (fun _ h9 => h9) rfl dX11_readStay_20 ?_
    refine lv_iload_n hx hb dX11_readStay_23 rfl (lv_at hl 2 rfl) ?_
    refine lv_iconst (v := 1) hx hb dX11_readStay_24 (by decide) ?_
    refine lv_iadd hx hb dX11_readStay_25 ?_
    have t_3 : (p_a + 1).toInt = p_a.toInt + 1 := g5_iadd (a := p_a.toInt) (b := 1) (by rfl) (by decide) (by omega) (by omega)
    refine va_iald hx hb hK hP 5 0 rfl rfl (i := (p_a + 1)) (vp_in_iff.mpr ⟨by omega, by omega⟩) dX11_readStay_26 ?_
    refine lv_istore_n (lv' := [(3, .int (f_x (p_a + 1).toNatClampNeg)), (2, .int (f_x p_a.toNatClampNeg)), (0, .ref a_o), (1, .int p_a)]) hx hb dX11_readStay_27 rfl hl (by decide) rfl (fun ls hl => ?_)
    refine lv_aload_n hx hb dX11_readStay_28 rfl (lv_at hl 2 rfl) ?_
    refine va_get (D := G.1) (ci := 11) (v := .ref a_x) (C := RX11) (T := TX11) (N := 17) hx hb hts inG_X11 hown hK hP 0 rfl rfl 9 (by decide) (hts _ fl_X11_70) (fun _ h9 => h9) rfl dX11_readStay_29 ?_
    refine lv_iload_n hx hb dX11_readStay_32 rfl (lv_at hl 3 rfl) ?_
    refine lv_iconst (v := 2) hx hb dX11_readStay_33 (by decide) ?_
    refine lv_iadd hx hb dX11_readStay_34 ?_
    have t_4 : (p_a + 2).toInt = p_a.toInt + 2 := g5_iadd (a := p_a.toInt) (b := 2) (by rfl) (by decide) (by omega) (by omega)
    refine va_iald hx hb hK hP 5 0 rfl rfl (i := (p_a + 2)) (vp_in_iff.mpr ⟨by omega, by omega⟩) dX11_readStay_35 ?_
    refine lv_istore (lv' := [(4, .int (f_x (p_a + 2).toNatClampNeg)), (3, .int (f_x (p_a + 1).toNatClampNeg)), (2, .int (f_x p_a.toNatClampNeg)), (0, .ref a_o), (1, .int p_a)]) hx hb dX11_readStay_36 hl (by decide) rfl (fun ls hl => ?_)
    refine lv_aload_n hx hb dX11_readStay_38 rfl (lv_at hl 3 rfl) ?_
    refine va_get (D := G.1) (ci := 11) (v := .ref a_x) (C := RX11) (T := TX11) (N := 17) hx hb hts inG_X11 hown hK hP 0 rfl rfl 9 (by decide) (hts _ fl_X11_70) (fun _ h9 => h9) rfl dX11_readStay_39 ?_
    refine lv_iload_n hx hb dX11_readStay_42 rfl (lv_at hl 4 rfl) ?_
    refine lv_iconst (v := 3) hx hb dX11_readStay_43 (by decide) ?_
    refine lv_iadd hx hb dX11_readStay_44 ?_
    have t_5 : (p_a + 3).toInt = p_a.toInt + 3 := g5_iadd (a := p_a.toInt) (b := 3) (by rfl) (by decide) (by omega) (by omega)
    refine va_iald hx hb hK hP 5 0 rfl rfl (i := (p_a + 3)) (vp_in_iff.mpr ⟨by omega, by omega⟩) dX11_readStay_45 ?_
    refine lv_sipush (v := 255) hx hb dX11_readStay_46 (by decide) ?_
    refine lv_icmp_ne (tgt := 56) hx hb dX11_readStay_49 (by decide) (fun c_6 => ?_) (fun c_6 => ?_)
    ·
      have n_6 : gNe ((f_x (p_a + 3).toNatClampNeg).toInt) (255) := by have z := g5_ne (a := (f_x (p_a + 3).toNatClampNeg).toInt) (b := 255) (by rfl) (by decide) c_6; unfold gNe; omega
      refine lv_aload_n hx hb dX11_readStay_56 rfl (lv_at hl 3 rfl) ?_
      refine va_get (D := G.1) (ci := 11) (v := .ref a_x) (C := RX11) (T := TX11) (N := 17) hx hb hts inG_X11 hown hK hP 0 rfl rfl 9 (by decide) (hts _ fl_X11_70) (fun _ h9 => h9) rfl dX11_readStay_57 ?_
      refine lv_iload_n hx hb dX11_readStay_60 rfl (lv_at hl 4 rfl) ?_
      refine lv_iconst (v := 3) hx hb dX11_readStay_61 (by decide) ?_
      refine lv_iadd hx hb dX11_readStay_62 ?_
      have t_7 : (p_a + 3).toInt = p_a.toInt + 3 := g5_iadd (a := p_a.toInt) (b := 3) (by rfl) (by decide) (by omega) (by omega)
      refine va_iald hx hb hK hP 5 0 rfl rfl (i := (p_a + 3)) (vp_in_iff.mpr ⟨by omega, by omega⟩) dX11_readStay_63 ?_
      refine lv_istore (lv' := [(5, .int (f_x (p_a + 3).toNatClampNeg)), (4, .int (f_x (p_a + 2).toNatClampNeg)), (3, .int (f_x (p_a + 1).toNatClampNeg)), (2, .int (f_x p_a.toNatClampNeg)), (0, .ref a_o), (1, .int p_a)]) hx hb dX11_readStay_64 hl (by decide) rfl (fun ls hl => ?_)
      refine lv_aload_n hx hb dX11_readStay_66 rfl (lv_at hl 4 rfl) ?_
      refine va_get (D := G.1) (ci := 11) (v := .ref a_h) (C := RX11) (T := TX11) (N := 17) hx hb hts inG_X11 hown hK hP 0 rfl rfl 0 (by decide) (hts _ fl_X11_12) (fun _ h9 => h9) rfl dX11_readStay_67 ?_
      refine va_get (D := G.1) (ci := 1) (v := .ref a_b) (C := RX1) (T := TX1) (N := 13) hx hb hts inG_X1 hown hK hP 1 rfl rfl 7 (by decide) (hts _ fl_X11_167) (fun _ h9 => h9) rfl dX11_readStay_70 ?_
      refine lv_iload_n hx hb dX11_readStay_73 rfl (lv_at hl 3 rfl) ?_
      have hPc := hP.sub (ws' := [(a_b, .inr (6, [.int 5, .int 24, .ref a_bn, .int e_b]))]) [2] rfl
      have hDc := hD.sub (ws' := [(a_b, .inr (6, [.int 5, .int 24, .ref a_bn, .int e_b]))]) [2] (by decide) rfl
      have hFc := va_free (wc := [(a_b, .inr (6, [.int 5, .int 24, .ref a_bn, .int e_b]))]) hD hS hA [2] rfl
      refine va_calli (va_runV (As := [.int (f_x p_a.toNatClampNeg)]) (rest := []) ⟨hx, hb, hml, hown, hts⟩ (t_has_B l G a_b a_bn s.heap.size e_b (f_x p_a.toNatClampNeg) ⟨by omega, by omega⟩) (cwV 1 hts gV_X11_160 rfl rfl rfl hv_X6_has ⟨Nat.le_of_ble_eq_true rfl, Nat.le_of_ble_eq_true rfl⟩) (g5_preV hPc hK hDc hN hT hS hFc (ci := 6) (q0 := 0) rfl rfl) rfl rfl hl.1 rfl (lv_room (Nat.le_of_ble_eq_true rfl)) dX11_readStay_74 ⟨Nat.le_of_ble_eq_true rfl, Nat.le_of_ble_eq_true rfl⟩) hS (fun q _ h => hFc q h) hFc (fun r u t H1 locs ht hvm hw hB hz1 hk1 hS => ?_)
      obtain ⟨hP1, hD1⟩ := hB
      rw [ht] at hP1
      rcases hw with ⟨i_8, rfl, rfl⟩ | ⟨i_9, rfl, rfl⟩
      ·
        have i_8 : 0 ≤ (f_x p_a.toNatClampNeg).toInt ∧ (f_x p_a.toNatClampNeg).toInt < e_b.toInt := i_8
        obtain ⟨hP, hD⟩ := va_join (wr := [(a_o, .inr (11, [.ref a_h, .ref a_im, .ref a_ke, .ref a_k, .ref a_wa, .ref a_th, .ref a_ha, .ref a_wk, .ref a_r, .ref a_x, .int e_tl, .int e_fd, .int e_fpl, .ref a_wd, .int e_wn, .ref a_rf, .int e_lr])), (a_h, .inr (1, [.long e_wa, .int e_le, .int e_st, .int e_fo, .int e_lc, .ref a_l, .ref a_g, .ref a_b, .ref a_s, .ref a_p, .ref a_w, .long e_gb, .ref a_bb])), (a_bn, .inl (G.2 0, 120, .inl f_b)), (a_bb, .inl (G.2 1, 24, .inr (.inl f_bb))), (a_x, .inl (G.2 0, 400, .inl f_x))]) (w1 := [(a_b, .inr (6, [.int 5, .int 24, .ref a_bn, .int e_b]))]) hP hD [2] [0, 1, 3, 4, 5] rfl rfl (by decide) (by decide) hk1 hFc hP1 hD1
        generalize H1 = H at hP hS ⊢
        have hP : va_P G.1 vwCl [(a_o, .inr (11, [.ref a_h, .ref a_im, .ref a_ke, .ref a_k, .ref a_wa, .ref a_th, .ref a_ha, .ref a_wk, .ref a_r, .ref a_x, .int e_tl, .int e_fd, .int e_fpl, .ref a_wd, .int e_wn, .ref a_rf, .int e_lr])), (a_h, .inr (1, [.long e_wa, .int e_le, .int e_st, .int e_fo, .int e_lc, .ref a_l, .ref a_g, .ref a_b, .ref a_s, .ref a_p, .ref a_w, .long e_gb, .ref a_bb])), (a_bn, .inl (G.2 0, 120, .inl f_b)), (a_bb, .inl (G.2 1, 24, .inr (.inl f_bb))), (a_x, .inl (G.2 0, 400, .inl f_x)), (a_b, .inr (6, [.int 5, .int 24, .ref a_bn, .int e_b]))] H := hP
        have hD : va_D A [(a_o, .inr (11, [.ref a_h, .ref a_im, .ref a_ke, .ref a_k, .ref a_wa, .ref a_th, .ref a_ha, .ref a_wk, .ref a_r, .ref a_x, .int e_tl, .int e_fd, .int e_fpl, .ref a_wd, .int e_wn, .ref a_rf, .int e_lr])), (a_h, .inr (1, [.long e_wa, .int e_le, .int e_st, .int e_fo, .int e_lc, .ref a_l, .ref a_g, .ref a_b, .ref a_s, .ref a_p, .ref a_w, .long e_gb, .ref a_bb])), (a_bn, .inl (G.2 0, 120, .inl f_b)), (a_bb, .inl (G.2 1, 24, .inr (.inl f_bb))), (a_x, .inl (G.2 0, 400, .inl f_x)), (a_b, .inr (6, [.int 5, .int 24, .ref a_bn, .int e_b]))] := hD
        refine lv_if_eq (tgt := 103) hx hb dX11_readStay_77 (by decide) (fun c_10 => ?_) (fun c_10 => ?_)
        ·
          exact absurd c_10 (by decide)
        ·
          refine lv_iload_n hx hb dX11_readStay_80 rfl (lv_at hl 2 rfl) ?_
          refine lv_iload hx hb dX11_readStay_81 (lv_at hl 1 rfl) ?_
          refine lv_iload hx hb dX11_readStay_83 (lv_at hl 0 rfl) ?_
          have hPc := hP.sub (ws' := []) [] rfl
          have hDc := hD.sub (ws' := []) [] (by decide) rfl
          have hFc := va_free (wc := []) hD hS hA [] rfl
          refine va_calli (va_runS (As := [.int (f_x (p_a + 1).toNatClampNeg), .int (f_x (p_a + 2).toNatClampNeg), .int (f_x (p_a + 3).toNatClampNeg)]) (rest := []) ⟨hx, hb, hml, hown, hts⟩ (x_isStay l G H.size (f_x (p_a + 1).toNatClampNeg) (f_x (p_a + 2).toNatClampNeg) (f_x (p_a + 3).toNatClampNeg)) (va_cwS 3 hts gS_X11_170 rfl rfl rfl hs_X11_isStay ⟨Nat.le_of_ble_eq_true rfl, Nat.le_of_ble_eq_true rfl⟩) (g5_preS hPc hK hDc hN hT hS hFc) rfl rfl hl.1 rfl (lv_room (Nat.le_of_ble_eq_true rfl)) dX11_readStay_85 ⟨Nat.le_of_ble_eq_true rfl, Nat.le_of_ble_eq_true rfl⟩) hS (fun q _ h => hFc q h) hFc (fun r u t H1 locs ht hvm hw hB hz1 hk1 hS => ?_)
          obtain ⟨hP1, hD1⟩ := hB
          rw [ht] at hP1
          rcases hw with ⟨i_11, i_12, i_13, i_14, rfl, rfl⟩ | ⟨rfl, rfl⟩
          ·
            have i_11 : 0 ≤ (f_x (p_a + 1).toNatClampNeg).toInt ∧ (f_x (p_a + 1).toNatClampNeg).toInt ≤ 23 := i_11
            have i_12 : 0 ≤ (f_x (p_a + 2).toNatClampNeg).toInt ∧ (f_x (p_a + 2).toNatClampNeg).toInt ≤ 23 := i_12
            have i_13 : -1 ≤ (f_x (p_a + 3).toNatClampNeg).toInt ∧ (f_x (p_a + 3).toNatClampNeg).toInt ≤ 63 := i_13
            have i_14 : (f_x (p_a + 1).toNatClampNeg).toInt ≤ (f_x (p_a + 2).toNatClampNeg).toInt := i_14
            have hP := g5_same hP hk1
            generalize H1 = H at hP hS ⊢
            refine lv_if_eq (tgt := 103) hx hb dX11_readStay_88 (by decide) (fun c_15 => ?_) (fun c_15 => ?_)
            ·
              exact absurd c_15 (by decide)
            ·
              refine lv_aload_n hx hb dX11_readStay_91 rfl (lv_at hl 4 rfl) ?_
              refine va_get (D := G.1) (ci := 11) (v := .ref a_h) (C := RX11) (T := TX11) (N := 17) hx hb hts inG_X11 hown hK hP 0 rfl rfl 0 (by decide) (hts _ fl_X11_12) (fun _ h9 => h9) rfl dX11_readStay_92 ?_
              refine lv_iload hx hb dX11_readStay_95 (lv_at hl 0 rfl) ?_
              have hPc := hP.sub (ws' := [(a_h, .inr (1, [.long e_wa, .int e_le, .int e_st, .int e_fo, .int e_lc, .ref a_l, .ref a_g, .ref a_b, .ref a_s, .ref a_p, .ref a_w, .long e_gb, .ref a_bb]))]) [1] rfl
              have hDc := hD.sub (ws' := [(a_h, .inr (1, [.long e_wa, .int e_le, .int e_st, .int e_fo, .int e_lc, .ref a_l, .ref a_g, .ref a_b, .ref a_s, .ref a_p, .ref a_w, .long e_gb, .ref a_bb]))]) [1] (by decide) rfl
              have hFc := va_free (wc := [(a_h, .inr (1, [.long e_wa, .int e_le, .int e_st, .int e_fo, .int e_lc, .ref a_l, .ref a_g, .ref a_b, .ref a_s, .ref a_p, .ref a_w, .long e_gb, .ref a_bb]))]) hD hS hA [1] rfl
              refine va_calli (va_runV (As := [.int (f_x (p_a + 3).toNatClampNeg)]) (rest := []) ⟨hx, hb, hml, hown, hts⟩ (h_isWalled l G a_h a_l a_g a_b a_s a_p a_w a_bb H.size e_le e_st e_fo e_lc (f_x (p_a + 3).toNatClampNeg) e_wa e_gb ⟨by omega, by omega⟩) (cwV 1 hts gV_X11_174 rfl rfl rfl hv_X1_isWalled ⟨Nat.le_of_ble_eq_true rfl, Nat.le_of_ble_eq_true rfl⟩) (g5_preV hPc hK hDc hN hT hS hFc (ci := 1) (q0 := 0) rfl rfl) rfl rfl hl.1 rfl (lv_room (Nat.le_of_ble_eq_true rfl)) dX11_readStay_97 ⟨Nat.le_of_ble_eq_true rfl, Nat.le_of_ble_eq_true rfl⟩) hS (fun q _ h => hFc q h) hFc (fun r u t H1 locs ht hvm hw hB hz1 hk1 hS => ?_)
              obtain ⟨hP1, hD1⟩ := hB
              rw [ht] at hP1
              rcases hw with ⟨i_16, rfl, rfl⟩ | ⟨i_17, rfl, rfl⟩
              ·
                have i_16 : 0 ≤ (f_x (p_a + 3).toNatClampNeg).toInt ∧ onB e_wa (f_x (p_a + 3).toNatClampNeg).toInt = true := i_16
                obtain ⟨hP, hD⟩ := va_join (wr := [(a_o, .inr (11, [.ref a_h, .ref a_im, .ref a_ke, .ref a_k, .ref a_wa, .ref a_th, .ref a_ha, .ref a_wk, .ref a_r, .ref a_x, .int e_tl, .int e_fd, .int e_fpl, .ref a_wd, .int e_wn, .ref a_rf, .int e_lr])), (a_bn, .inl (G.2 0, 120, .inl f_b)), (a_bb, .inl (G.2 1, 24, .inr (.inl f_bb))), (a_x, .inl (G.2 0, 400, .inl f_x)), (a_b, .inr (6, [.int 5, .int 24, .ref a_bn, .int e_b]))]) (w1 := [(a_h, .inr (1, [.long e_wa, .int e_le, .int e_st, .int e_fo, .int e_lc, .ref a_l, .ref a_g, .ref a_b, .ref a_s, .ref a_p, .ref a_w, .long e_gb, .ref a_bb]))]) hP hD [1] [0, 2, 3, 4, 5] rfl rfl (by decide) (by decide) hk1 hFc hP1 hD1
                generalize H1 = H at hP hS ⊢
                have hP : va_P G.1 vwCl [(a_o, .inr (11, [.ref a_h, .ref a_im, .ref a_ke, .ref a_k, .ref a_wa, .ref a_th, .ref a_ha, .ref a_wk, .ref a_r, .ref a_x, .int e_tl, .int e_fd, .int e_fpl, .ref a_wd, .int e_wn, .ref a_rf, .int e_lr])), (a_bn, .inl (G.2 0, 120, .inl f_b)), (a_bb, .inl (G.2 1, 24, .inr (.inl f_bb))), (a_x, .inl (G.2 0, 400, .inl f_x)), (a_b, .inr (6, [.int 5, .int 24, .ref a_bn, .int e_b])), (a_h, .inr (1, [.long e_wa, .int e_le, .int e_st, .int e_fo, .int e_lc, .ref a_l, .ref a_g, .ref a_b, .ref a_s, .ref a_p, .ref a_w, .long e_gb, .ref a_bb]))] H := hP
                have hD : va_D A [(a_o, .inr (11, [.ref a_h, .ref a_im, .ref a_ke, .ref a_k, .ref a_wa, .ref a_th, .ref a_ha, .ref a_wk, .ref a_r, .ref a_x, .int e_tl, .int e_fd, .int e_fpl, .ref a_wd, .int e_wn, .ref a_rf, .int e_lr])), (a_bn, .inl (G.2 0, 120, .inl f_b)), (a_bb, .inl (G.2 1, 24, .inr (.inl f_bb))), (a_x, .inl (G.2 0, 400, .inl f_x)), (a_b, .inr (6, [.int 5, .int 24, .ref a_bn, .int e_b])), (a_h, .inr (1, [.long e_wa, .int e_le, .int e_st, .int e_fo, .int e_lc, .ref a_l, .ref a_g, .ref a_b, .ref a_s, .ref a_p, .ref a_w, .long e_gb, .ref a_bb]))] := hD
                refine lv_if_eq (tgt := 105) hx hb dX11_readStay_100 (by decide) (fun c_18 => ?_) (fun c_18 => ?_)
                ·
                  exact absurd c_18 (by decide)
                ·
                  refine lv_iconst (v := 0) hx hb dX11_readStay_103 (by decide) ?_
                  exact W.zret (v := 0) hx hb hr rfl (fun t ht hW => ⟨⟨0, [(a_o, .inr (11, [.ref a_h, .ref a_im, .ref a_ke, .ref a_k, .ref a_wa, .ref a_th, .ref a_ha, .ref a_wk, .ref a_r, .ref a_x, .int e_tl, .int e_fd, .int e_fpl, .ref a_wd, .int e_wn, .ref a_rf, .int e_lr])), (a_h, .inr (1, [.long e_wa, .int e_le, .int e_st, .int e_fo, .int e_lc, .ref a_l, .ref a_g, .ref a_b, .ref a_s, .ref a_p, .ref a_w, .long e_gb, .ref a_bb])), (a_b, .inr (6, [.int 5, .int 24, .ref a_bn, .int e_b])), (a_bn, .inl (G.2 0, 120, .inl f_b)), (a_bb, .inl (G.2 1, 24, .inr (.inl f_bb))), (a_x, .inl (G.2 0, 400, .inl f_x))], rfl, ⟨0, f_b, f_bb, ⟨by have zc_o_r : (0 : Int32).toInt = 0 := (by decide); omega, by have zc_o_r : (0 : Int32).toInt = 0 := (by decide); omega⟩, rfl, rfl⟩, by rw [ht]; exact hP.sub [0, 5, 4, 1, 2, 3] rfl, hD.sub [0, 5, 4, 1, 2, 3] (by decide) rfl⟩, hS.F ht⟩) hS.2.2 dX11_readStay_104
              ·
                have i_17 : (f_x (p_a + 3).toNatClampNeg).toInt = -1 ∨ onB e_wa (f_x (p_a + 3).toNatClampNeg).toInt = false := i_17
                obtain ⟨hP, hD⟩ := va_join (wr := [(a_o, .inr (11, [.ref a_h, .ref a_im, .ref a_ke, .ref a_k, .ref a_wa, .ref a_th, .ref a_ha, .ref a_wk, .ref a_r, .ref a_x, .int e_tl, .int e_fd, .int e_fpl, .ref a_wd, .int e_wn, .ref a_rf, .int e_lr])), (a_bn, .inl (G.2 0, 120, .inl f_b)), (a_bb, .inl (G.2 1, 24, .inr (.inl f_bb))), (a_x, .inl (G.2 0, 400, .inl f_x)), (a_b, .inr (6, [.int 5, .int 24, .ref a_bn, .int e_b]))]) (w1 := [(a_h, .inr (1, [.long e_wa, .int e_le, .int e_st, .int e_fo, .int e_lc, .ref a_l, .ref a_g, .ref a_b, .ref a_s, .ref a_p, .ref a_w, .long e_gb, .ref a_bb]))]) hP hD [1] [0, 2, 3, 4, 5] rfl rfl (by decide) (by decide) hk1 hFc hP1 hD1
                generalize H1 = H at hP hS ⊢
                have hP : va_P G.1 vwCl [(a_o, .inr (11, [.ref a_h, .ref a_im, .ref a_ke, .ref a_k, .ref a_wa, .ref a_th, .ref a_ha, .ref a_wk, .ref a_r, .ref a_x, .int e_tl, .int e_fd, .int e_fpl, .ref a_wd, .int e_wn, .ref a_rf, .int e_lr])), (a_bn, .inl (G.2 0, 120, .inl f_b)), (a_bb, .inl (G.2 1, 24, .inr (.inl f_bb))), (a_x, .inl (G.2 0, 400, .inl f_x)), (a_b, .inr (6, [.int 5, .int 24, .ref a_bn, .int e_b])), (a_h, .inr (1, [.long e_wa, .int e_le, .int e_st, .int e_fo, .int e_lc, .ref a_l, .ref a_g, .ref a_b, .ref a_s, .ref a_p, .ref a_w, .long e_gb, .ref a_bb]))] H := hP
                have hD : va_D A [(a_o, .inr (11, [.ref a_h, .ref a_im, .ref a_ke, .ref a_k, .ref a_wa, .ref a_th, .ref a_ha, .ref a_wk, .ref a_r, .ref a_x, .int e_tl, .int e_fd, .int e_fpl, .ref a_wd, .int e_wn, .ref a_rf, .int e_lr])), (a_bn, .inl (G.2 0, 120, .inl f_b)), (a_bb, .inl (G.2 1, 24, .inr (.inl f_bb))), (a_x, .inl (G.2 0, 400, .inl f_x)), (a_b, .inr (6, [.int 5, .int 24, .ref a_bn, .int e_b])), (a_h, .inr (1, [.long e_wa, .int e_le, .int e_st, .int e_fo, .int e_lc, .ref a_l, .ref a_g, .ref a_b, .ref a_s, .ref a_p, .ref a_w, .long e_gb, .ref a_bb]))] := hD
                refine lv_if_eq (tgt := 105) hx hb dX11_readStay_100 (by decide) (fun c_19 => ?_) (fun c_19 => ?_)
                ·
                  refine lv_aload_n hx hb dX11_readStay_105 rfl (lv_at hl 4 rfl) ?_
                  refine va_get (D := G.1) (ci := 11) (v := .ref a_h) (C := RX11) (T := TX11) (N := 17) hx hb hts inG_X11 hown hK hP 0 rfl rfl 0 (by decide) (hts _ fl_X11_12) (fun _ h9 => h9) rfl dX11_readStay_106 ?_
                  refine lv_iload_n hx hb dX11_readStay_109 rfl (lv_at hl 3 rfl) ?_
                  refine lv_iload_n hx hb dX11_readStay_110 rfl (lv_at hl 2 rfl) ?_
                  refine lv_iload hx hb dX11_readStay_111 (lv_at hl 1 rfl) ?_
                  refine lv_iload hx hb dX11_readStay_113 (lv_at hl 0 rfl) ?_
                  have hPc := hP.sub (ws' := [(a_h, .inr (1, [.long e_wa, .int e_le, .int e_st, .int e_fo, .int e_lc, .ref a_l, .ref a_g, .ref a_b, .ref a_s, .ref a_p, .ref a_w, .long e_gb, .ref a_bb])), (a_b, .inr (6, [.int 5, .int 24, .ref a_bn, .int e_b])), (a_bn, .inl (G.2 0, 120, .inl f_b)), (a_bb, .inl (G.2 1, 24, .inr (.inl f_bb)))]) [5, 4, 1, 2] rfl
                  have hDc := hD.sub (ws' := [(a_h, .inr (1, [.long e_wa, .int e_le, .int e_st, .int e_fo, .int e_lc, .ref a_l, .ref a_g, .ref a_b, .ref a_s, .ref a_p, .ref a_w, .long e_gb, .ref a_bb])), (a_b, .inr (6, [.int 5, .int 24, .ref a_bn, .int e_b])), (a_bn, .inl (G.2 0, 120, .inl f_b)), (a_bb, .inl (G.2 1, 24, .inr (.inl f_bb)))]) [5, 4, 1, 2] (by decide) rfl
                  have hFc := va_free (wc := [(a_h, .inr (1, [.long e_wa, .int e_le, .int e_st, .int e_fo, .int e_lc, .ref a_l, .ref a_g, .ref a_b, .ref a_s, .ref a_p, .ref a_w, .long e_gb, .ref a_bb])), (a_b, .inr (6, [.int 5, .int 24, .ref a_bn, .int e_b])), (a_bn, .inl (G.2 0, 120, .inl f_b)), (a_bb, .inl (G.2 1, 24, .inr (.inl f_bb)))]) hD hS hA [5, 4, 1, 2] rfl
                  refine va_callv (va_runV (As := [.int (f_x p_a.toNatClampNeg), .int (f_x (p_a + 1).toNatClampNeg), .int (f_x (p_a + 2).toNatClampNeg), .int (f_x (p_a + 3).toNatClampNeg)]) (rest := []) ⟨hx, hb, hml, hown, hts⟩ (h_putN l G a_h a_b a_bn a_bb a_l a_g a_s a_p a_w H.size e_le e_st e_fo e_lc e_b (f_x p_a.toNatClampNeg) (f_x (p_a + 1).toNatClampNeg) (f_x (p_a + 2).toNatClampNeg) (f_x (p_a + 3).toNatClampNeg) e_wa e_gb f_b f_bb ⟨by omega, by omega⟩ ⟨by omega, by omega⟩ ⟨by omega, by omega⟩) (cwV 4 hts gV_X11_177 rfl rfl rfl hv_X1_put ⟨Nat.le_of_ble_eq_true rfl, Nat.le_of_ble_eq_true rfl⟩) (g5_preV hPc hK hDc hN hT hS hFc (ci := 1) (q0 := 0) rfl rfl) rfl rfl hl.1 rfl (lv_room (Nat.le_of_ble_eq_true rfl)) dX11_readStay_115 ⟨Nat.le_of_ble_eq_true rfl, Nat.le_of_ble_eq_true rfl⟩) hS (fun q _ h => hFc q h) hFc (fun u t H1 locs ht hvm hw hB hz1 hk1 hS => ?_)
                  obtain ⟨hP1, hD1⟩ := hB
                  rw [ht] at hP1
                  obtain ⟨z20, z21, rfl⟩ := hw
                  obtain ⟨hP, hD⟩ := va_join (wr := [(a_o, .inr (11, [.ref a_h, .ref a_im, .ref a_ke, .ref a_k, .ref a_wa, .ref a_th, .ref a_ha, .ref a_wk, .ref a_r, .ref a_x, .int e_tl, .int e_fd, .int e_fpl, .ref a_wd, .int e_wn, .ref a_rf, .int e_lr])), (a_x, .inl (G.2 0, 400, .inl f_x))]) (w1 := [(a_h, .inr (1, [.long e_wa, .int e_le, .int e_st, .int e_fo, .int e_lc, .ref a_l, .ref a_g, .ref a_b, .ref a_s, .ref a_p, .ref a_w, .long e_gb, .ref a_bb])), (a_b, .inr (6, [.int 5, .int 24, .ref a_bn, .int e_b])), (a_bn, .inl (G.2 0, 120, .inl z20)), (a_bb, .inl (G.2 1, 24, .inr (.inl z21)))]) hP hD [5, 4, 1, 2] [0, 3] rfl rfl (by decide) (by decide) hk1 hFc hP1 hD1
                  generalize H1 = H at hP hS ⊢
                  have hP : va_P G.1 vwCl [(a_o, .inr (11, [.ref a_h, .ref a_im, .ref a_ke, .ref a_k, .ref a_wa, .ref a_th, .ref a_ha, .ref a_wk, .ref a_r, .ref a_x, .int e_tl, .int e_fd, .int e_fpl, .ref a_wd, .int e_wn, .ref a_rf, .int e_lr])), (a_x, .inl (G.2 0, 400, .inl f_x)), (a_h, .inr (1, [.long e_wa, .int e_le, .int e_st, .int e_fo, .int e_lc, .ref a_l, .ref a_g, .ref a_b, .ref a_s, .ref a_p, .ref a_w, .long e_gb, .ref a_bb])), (a_b, .inr (6, [.int 5, .int 24, .ref a_bn, .int e_b])), (a_bn, .inl (G.2 0, 120, .inl z20)), (a_bb, .inl (G.2 1, 24, .inr (.inl z21)))] H := hP
                  have hD : va_D A [(a_o, .inr (11, [.ref a_h, .ref a_im, .ref a_ke, .ref a_k, .ref a_wa, .ref a_th, .ref a_ha, .ref a_wk, .ref a_r, .ref a_x, .int e_tl, .int e_fd, .int e_fpl, .ref a_wd, .int e_wn, .ref a_rf, .int e_lr])), (a_x, .inl (G.2 0, 400, .inl f_x)), (a_h, .inr (1, [.long e_wa, .int e_le, .int e_st, .int e_fo, .int e_lc, .ref a_l, .ref a_g, .ref a_b, .ref a_s, .ref a_p, .ref a_w, .long e_gb, .ref a_bb])), (a_b, .inr (6, [.int 5, .int 24, .ref a_bn, .int e_b])), (a_bn, .inl (G.2 0, 120, .inl z20)), (a_bb, .inl (G.2 1, 24, .inr (.inl z21)))] := hD
                  refine lv_iconst (v := 1) hx hb dX11_readStay_118 (by decide) ?_
                  exact W.zret (v := 1) hx hb hr rfl (fun t ht hW => ⟨⟨1, [(a_o, .inr (11, [.ref a_h, .ref a_im, .ref a_ke, .ref a_k, .ref a_wa, .ref a_th, .ref a_ha, .ref a_wk, .ref a_r, .ref a_x, .int e_tl, .int e_fd, .int e_fpl, .ref a_wd, .int e_wn, .ref a_rf, .int e_lr])), (a_h, .inr (1, [.long e_wa, .int e_le, .int e_st, .int e_fo, .int e_lc, .ref a_l, .ref a_g, .ref a_b, .ref a_s, .ref a_p, .ref a_w, .long e_gb, .ref a_bb])), (a_b, .inr (6, [.int 5, .int 24, .ref a_bn, .int e_b])), (a_bn, .inl (G.2 0, 120, .inl z20)), (a_bb, .inl (G.2 1, 24, .inr (.inl z21))), (a_x, .inl (G.2 0, 400, .inl f_x))], rfl, ⟨1, z20, z21, ⟨by have zc_o_r : (1 : Int32).toInt = 1 := (by decide); omega, by have zc_o_r : (1 : Int32).toInt = 1 := (by decide); omega⟩, rfl, rfl⟩, by rw [ht]; exact hP.sub [0, 2, 3, 4, 5, 1] rfl, hD.sub [0, 2, 3, 4, 5, 1] (by decide) rfl⟩, hS.F ht⟩) hS.2.2 dX11_readStay_119
                ·
                  exact absurd c_19 (by decide)
          ·
            have hP := g5_same hP hk1
            generalize H1 = H at hP hS ⊢
            refine lv_if_eq (tgt := 103) hx hb dX11_readStay_88 (by decide) (fun c_22 => ?_) (fun c_22 => ?_)
            ·
              refine lv_iconst (v := 0) hx hb dX11_readStay_103 (by decide) ?_
              exact W.zret (v := 0) hx hb hr rfl (fun t ht hW => ⟨⟨0, [(a_o, .inr (11, [.ref a_h, .ref a_im, .ref a_ke, .ref a_k, .ref a_wa, .ref a_th, .ref a_ha, .ref a_wk, .ref a_r, .ref a_x, .int e_tl, .int e_fd, .int e_fpl, .ref a_wd, .int e_wn, .ref a_rf, .int e_lr])), (a_h, .inr (1, [.long e_wa, .int e_le, .int e_st, .int e_fo, .int e_lc, .ref a_l, .ref a_g, .ref a_b, .ref a_s, .ref a_p, .ref a_w, .long e_gb, .ref a_bb])), (a_b, .inr (6, [.int 5, .int 24, .ref a_bn, .int e_b])), (a_bn, .inl (G.2 0, 120, .inl f_b)), (a_bb, .inl (G.2 1, 24, .inr (.inl f_bb))), (a_x, .inl (G.2 0, 400, .inl f_x))], rfl, ⟨0, f_b, f_bb, ⟨by have zc_o_r : (0 : Int32).toInt = 0 := (by decide); omega, by have zc_o_r : (0 : Int32).toInt = 0 := (by decide); omega⟩, rfl, rfl⟩, by rw [ht]; exact hP.sub [0, 1, 5, 2, 3, 4] rfl, hD.sub [0, 1, 5, 2, 3, 4] (by decide) rfl⟩, hS.F ht⟩) hS.2.2 dX11_readStay_104
            ·
              exact absurd c_22 (by decide)
      ·
        have i_9 : (f_x p_a.toNatClampNeg).toInt < 0 ∨ e_b.toInt ≤ (f_x p_a.toNatClampNeg).toInt := i_9
        obtain ⟨hP, hD⟩ := va_join (wr := [(a_o, .inr (11, [.ref a_h, .ref a_im, .ref a_ke, .ref a_k, .ref a_wa, .ref a_th, .ref a_ha, .ref a_wk, .ref a_r, .ref a_x, .int e_tl, .int e_fd, .int e_fpl, .ref a_wd, .int e_wn, .ref a_rf, .int e_lr])), (a_h, .inr (1, [.long e_wa, .int e_le, .int e_st, .int e_fo, .int e_lc, .ref a_l, .ref a_g, .ref a_b, .ref a_s, .ref a_p, .ref a_w, .long e_gb, .ref a_bb])), (a_bn, .inl (G.2 0, 120, .inl f_b)), (a_bb, .inl (G.2 1, 24, .inr (.inl f_bb))), (a_x, .inl (G.2 0, 400, .inl f_x))]) (w1 := [(a_b, .inr (6, [.int 5, .int 24, .ref a_bn, .int e_b]))]) hP hD [2] [0, 1, 3, 4, 5] rfl rfl (by decide) (by decide) hk1 hFc hP1 hD1
        generalize H1 = H at hP hS ⊢
        have hP : va_P G.1 vwCl [(a_o, .inr (11, [.ref a_h, .ref a_im, .ref a_ke, .ref a_k, .ref a_wa, .ref a_th, .ref a_ha, .ref a_wk, .ref a_r, .ref a_x, .int e_tl, .int e_fd, .int e_fpl, .ref a_wd, .int e_wn, .ref a_rf, .int e_lr])), (a_h, .inr (1, [.long e_wa, .int e_le, .int e_st, .int e_fo, .int e_lc, .ref a_l, .ref a_g, .ref a_b, .ref a_s, .ref a_p, .ref a_w, .long e_gb, .ref a_bb])), (a_bn, .inl (G.2 0, 120, .inl f_b)), (a_bb, .inl (G.2 1, 24, .inr (.inl f_bb))), (a_x, .inl (G.2 0, 400, .inl f_x)), (a_b, .inr (6, [.int 5, .int 24, .ref a_bn, .int e_b]))] H := hP
        have hD : va_D A [(a_o, .inr (11, [.ref a_h, .ref a_im, .ref a_ke, .ref a_k, .ref a_wa, .ref a_th, .ref a_ha, .ref a_wk, .ref a_r, .ref a_x, .int e_tl, .int e_fd, .int e_fpl, .ref a_wd, .int e_wn, .ref a_rf, .int e_lr])), (a_h, .inr (1, [.long e_wa, .int e_le, .int e_st, .int e_fo, .int e_lc, .ref a_l, .ref a_g, .ref a_b, .ref a_s, .ref a_p, .ref a_w, .long e_gb, .ref a_bb])), (a_bn, .inl (G.2 0, 120, .inl f_b)), (a_bb, .inl (G.2 1, 24, .inr (.inl f_bb))), (a_x, .inl (G.2 0, 400, .inl f_x)), (a_b, .inr (6, [.int 5, .int 24, .ref a_bn, .int e_b]))] := hD
        refine lv_if_eq (tgt := 103) hx hb dX11_readStay_77 (by decide) (fun c_23 => ?_) (fun c_23 => ?_)
        ·
          refine lv_iconst (v := 0) hx hb dX11_readStay_103 (by decide) ?_
          exact W.zret (v := 0) hx hb hr rfl (fun t ht hW => ⟨⟨0, [(a_o, .inr (11, [.ref a_h, .ref a_im, .ref a_ke, .ref a_k, .ref a_wa, .ref a_th, .ref a_ha, .ref a_wk, .ref a_r, .ref a_x, .int e_tl, .int e_fd, .int e_fpl, .ref a_wd, .int e_wn, .ref a_rf, .int e_lr])), (a_h, .inr (1, [.long e_wa, .int e_le, .int e_st, .int e_fo, .int e_lc, .ref a_l, .ref a_g, .ref a_b, .ref a_s, .ref a_p, .ref a_w, .long e_gb, .ref a_bb])), (a_b, .inr (6, [.int 5, .int 24, .ref a_bn, .int e_b])), (a_bn, .inl (G.2 0, 120, .inl f_b)), (a_bb, .inl (G.2 1, 24, .inr (.inl f_bb))), (a_x, .inl (G.2 0, 400, .inl f_x))], rfl, ⟨0, f_b, f_bb, ⟨by have zc_o_r : (0 : Int32).toInt = 0 := (by decide); omega, by have zc_o_r : (0 : Int32).toInt = 0 := (by decide); omega⟩, rfl, rfl⟩, by rw [ht]; exact hP.sub [0, 1, 5, 2, 3, 4] rfl, hD.sub [0, 1, 5, 2, 3, 4] (by decide) rfl⟩, hS.F ht⟩) hS.2.2 dX11_readStay_104
        ·
          exact absurd c_23 (by decide)
    ·
      have i_6 : (f_x (p_a + 3).toNatClampNeg).toInt = 255 := by have z := g5_neN (a := (f_x (p_a + 3).toNatClampNeg).toInt) (b := 255) (by rfl) (by decide) c_6; omega
      refine lv_iconst (v := (-1)) hx hb dX11_readStay_52 (by decide) ?_
      refine lv_goto (tgt := 64) hx hb dX11_readStay_53 (by decide) ?_
      refine lv_istore (lv' := [(5, .int (-1)), (4, .int (f_x (p_a + 2).toNatClampNeg)), (3, .int (f_x (p_a + 1).toNatClampNeg)), (2, .int (f_x p_a.toNatClampNeg)), (0, .ref a_o), (1, .int p_a)]) hx hb dX11_readStay_64 hl (by decide) rfl (fun ls hl => ?_)
      refine lv_aload_n hx hb dX11_readStay_66 rfl (lv_at hl 4 rfl) ?_
      refine va_get (D := G.1) (ci := 11) (v := .ref a_h) (C := RX11) (T := TX11) (N := 17) hx hb hts inG_X11 hown hK hP 0 rfl rfl 0 (by decide) (hts _ fl_X11_12) (fun _ h9 => h9) rfl dX11_readStay_67 ?_
      refine va_get (D := G.1) (ci := 1) (v := .ref a_b) (C := RX1) (T := TX1) (N := 13) hx hb hts inG_X1 hown hK hP 1 rfl rfl 7 (by decide) (hts _ fl_X11_167) (fun _ h9 => h9) rfl dX11_readStay_70 ?_
      refine lv_iload_n hx hb dX11_readStay_73 rfl (lv_at hl 3 rfl) ?_
      have hPc := hP.sub (ws' := [(a_b, .inr (6, [.int 5, .int 24, .ref a_bn, .int e_b]))]) [2] rfl
      have hDc := hD.sub (ws' := [(a_b, .inr (6, [.int 5, .int 24, .ref a_bn, .int e_b]))]) [2] (by decide) rfl
      have hFc := va_free (wc := [(a_b, .inr (6, [.int 5, .int 24, .ref a_bn, .int e_b]))]) hD hS hA [2] rfl
      refine va_calli (va_runV (As := [.int (f_x p_a.toNatClampNeg)]) (rest := []) ⟨hx, hb, hml, hown, hts⟩ (t_has_B l G a_b a_bn s.heap.size e_b (f_x p_a.toNatClampNeg) ⟨by omega, by omega⟩) (cwV 1 hts gV_X11_160 rfl rfl rfl hv_X6_has ⟨Nat.le_of_ble_eq_true rfl, Nat.le_of_ble_eq_true rfl⟩) (g5_preV hPc hK hDc hN hT hS hFc (ci := 6) (q0 := 0) rfl rfl) rfl rfl hl.1 rfl (lv_room (Nat.le_of_ble_eq_true rfl)) dX11_readStay_74 ⟨Nat.le_of_ble_eq_true rfl, Nat.le_of_ble_eq_true rfl⟩) hS (fun q _ h => hFc q h) hFc (fun r u t H1 locs ht hvm hw hB hz1 hk1 hS => ?_)
      obtain ⟨hP1, hD1⟩ := hB
      rw [ht] at hP1
      rcases hw with ⟨i_24, rfl, rfl⟩ | ⟨i_25, rfl, rfl⟩
      ·
        have i_24 : 0 ≤ (f_x p_a.toNatClampNeg).toInt ∧ (f_x p_a.toNatClampNeg).toInt < e_b.toInt := i_24
        obtain ⟨hP, hD⟩ := va_join (wr := [(a_o, .inr (11, [.ref a_h, .ref a_im, .ref a_ke, .ref a_k, .ref a_wa, .ref a_th, .ref a_ha, .ref a_wk, .ref a_r, .ref a_x, .int e_tl, .int e_fd, .int e_fpl, .ref a_wd, .int e_wn, .ref a_rf, .int e_lr])), (a_h, .inr (1, [.long e_wa, .int e_le, .int e_st, .int e_fo, .int e_lc, .ref a_l, .ref a_g, .ref a_b, .ref a_s, .ref a_p, .ref a_w, .long e_gb, .ref a_bb])), (a_bn, .inl (G.2 0, 120, .inl f_b)), (a_bb, .inl (G.2 1, 24, .inr (.inl f_bb))), (a_x, .inl (G.2 0, 400, .inl f_x))]) (w1 := [(a_b, .inr (6, [.int 5, .int 24, .ref a_bn, .int e_b]))]) hP hD [2] [0, 1, 3, 4, 5] rfl rfl (by decide) (by decide) hk1 hFc hP1 hD1
        generalize H1 = H at hP hS ⊢
        have hP : va_P G.1 vwCl [(a_o, .inr (11, [.ref a_h, .ref a_im, .ref a_ke, .ref a_k, .ref a_wa, .ref a_th, .ref a_ha, .ref a_wk, .ref a_r, .ref a_x, .int e_tl, .int e_fd, .int e_fpl, .ref a_wd, .int e_wn, .ref a_rf, .int e_lr])), (a_h, .inr (1, [.long e_wa, .int e_le, .int e_st, .int e_fo, .int e_lc, .ref a_l, .ref a_g, .ref a_b, .ref a_s, .ref a_p, .ref a_w, .long e_gb, .ref a_bb])), (a_bn, .inl (G.2 0, 120, .inl f_b)), (a_bb, .inl (G.2 1, 24, .inr (.inl f_bb))), (a_x, .inl (G.2 0, 400, .inl f_x)), (a_b, .inr (6, [.int 5, .int 24, .ref a_bn, .int e_b]))] H := hP
        have hD : va_D A [(a_o, .inr (11, [.ref a_h, .ref a_im, .ref a_ke, .ref a_k, .ref a_wa, .ref a_th, .ref a_ha, .ref a_wk, .ref a_r, .ref a_x, .int e_tl, .int e_fd, .int e_fpl, .ref a_wd, .int e_wn, .ref a_rf, .int e_lr])), (a_h, .inr (1, [.long e_wa, .int e_le, .int e_st, .int e_fo, .int e_lc, .ref a_l, .ref a_g, .ref a_b, .ref a_s, .ref a_p, .ref a_w, .long e_gb, .ref a_bb])), (a_bn, .inl (G.2 0, 120, .inl f_b)), (a_bb, .inl (G.2 1, 24, .inr (.inl f_bb))), (a_x, .inl (G.2 0, 400, .inl f_x)), (a_b, .inr (6, [.int 5, .int 24, .ref a_bn, .int e_b]))] := hD
        refine lv_if_eq (tgt := 103) hx hb dX11_readStay_77 (by decide) (fun c_26 => ?_) (fun c_26 => ?_)
        ·
          exact absurd c_26 (by decide)
        ·
          refine lv_iload_n hx hb dX11_readStay_80 rfl (lv_at hl 2 rfl) ?_
          refine lv_iload hx hb dX11_readStay_81 (lv_at hl 1 rfl) ?_
          refine lv_iload hx hb dX11_readStay_83 (lv_at hl 0 rfl) ?_
          have hPc := hP.sub (ws' := []) [] rfl
          have hDc := hD.sub (ws' := []) [] (by decide) rfl
          have hFc := va_free (wc := []) hD hS hA [] rfl
          refine va_calli (va_runS (As := [.int (f_x (p_a + 1).toNatClampNeg), .int (f_x (p_a + 2).toNatClampNeg), .int (-1)]) (rest := []) ⟨hx, hb, hml, hown, hts⟩ (x_isStay l G H.size (f_x (p_a + 1).toNatClampNeg) (f_x (p_a + 2).toNatClampNeg) (-1)) (va_cwS 3 hts gS_X11_170 rfl rfl rfl hs_X11_isStay ⟨Nat.le_of_ble_eq_true rfl, Nat.le_of_ble_eq_true rfl⟩) (g5_preS hPc hK hDc hN hT hS hFc) rfl rfl hl.1 rfl (lv_room (Nat.le_of_ble_eq_true rfl)) dX11_readStay_85 ⟨Nat.le_of_ble_eq_true rfl, Nat.le_of_ble_eq_true rfl⟩) hS (fun q _ h => hFc q h) hFc (fun r u t H1 locs ht hvm hw hB hz1 hk1 hS => ?_)
          obtain ⟨hP1, hD1⟩ := hB
          rw [ht] at hP1
          rcases hw with ⟨i_27, i_28, i_29, i_30, rfl, rfl⟩ | ⟨rfl, rfl⟩
          ·
            have i_27 : 0 ≤ (f_x (p_a + 1).toNatClampNeg).toInt ∧ (f_x (p_a + 1).toNatClampNeg).toInt ≤ 23 := i_27
            have i_28 : 0 ≤ (f_x (p_a + 2).toNatClampNeg).toInt ∧ (f_x (p_a + 2).toNatClampNeg).toInt ≤ 23 := i_28
            have i_29 : -1 ≤ ((-1) : Int32).toInt ∧ ((-1) : Int32).toInt ≤ 63 := i_29
            have i_30 : (f_x (p_a + 1).toNatClampNeg).toInt ≤ (f_x (p_a + 2).toNatClampNeg).toInt := i_30
            have hP := g5_same hP hk1
            generalize H1 = H at hP hS ⊢
            refine lv_if_eq (tgt := 103) hx hb dX11_readStay_88 (by decide) (fun c_31 => ?_) (fun c_31 => ?_)
            ·
              exact absurd c_31 (by decide)
            ·
              refine lv_aload_n hx hb dX11_readStay_91 rfl (lv_at hl 4 rfl) ?_
              refine va_get (D := G.1) (ci := 11) (v := .ref a_h) (C := RX11) (T := TX11) (N := 17) hx hb hts inG_X11 hown hK hP 0 rfl rfl 0 (by decide) (hts _ fl_X11_12) (fun _ h9 => h9) rfl dX11_readStay_92 ?_
              refine lv_iload hx hb dX11_readStay_95 (lv_at hl 0 rfl) ?_
              have hPc := hP.sub (ws' := [(a_h, .inr (1, [.long e_wa, .int e_le, .int e_st, .int e_fo, .int e_lc, .ref a_l, .ref a_g, .ref a_b, .ref a_s, .ref a_p, .ref a_w, .long e_gb, .ref a_bb]))]) [1] rfl
              have hDc := hD.sub (ws' := [(a_h, .inr (1, [.long e_wa, .int e_le, .int e_st, .int e_fo, .int e_lc, .ref a_l, .ref a_g, .ref a_b, .ref a_s, .ref a_p, .ref a_w, .long e_gb, .ref a_bb]))]) [1] (by decide) rfl
              have hFc := va_free (wc := [(a_h, .inr (1, [.long e_wa, .int e_le, .int e_st, .int e_fo, .int e_lc, .ref a_l, .ref a_g, .ref a_b, .ref a_s, .ref a_p, .ref a_w, .long e_gb, .ref a_bb]))]) hD hS hA [1] rfl
              refine va_calli (va_runV (As := [.int (-1)]) (rest := []) ⟨hx, hb, hml, hown, hts⟩ (h_isWalled l G a_h a_l a_g a_b a_s a_p a_w a_bb H.size e_le e_st e_fo e_lc (-1) e_wa e_gb ⟨by decide, by decide⟩) (cwV 1 hts gV_X11_174 rfl rfl rfl hv_X1_isWalled ⟨Nat.le_of_ble_eq_true rfl, Nat.le_of_ble_eq_true rfl⟩) (g5_preV hPc hK hDc hN hT hS hFc (ci := 1) (q0 := 0) rfl rfl) rfl rfl hl.1 rfl (lv_room (Nat.le_of_ble_eq_true rfl)) dX11_readStay_97 ⟨Nat.le_of_ble_eq_true rfl, Nat.le_of_ble_eq_true rfl⟩) hS (fun q _ h => hFc q h) hFc (fun r u t H1 locs ht hvm hw hB hz1 hk1 hS => ?_)
              obtain ⟨hP1, hD1⟩ := hB
              rw [ht] at hP1
              rcases hw with ⟨i_32, rfl, rfl⟩ | ⟨i_33, rfl, rfl⟩
              ·
                have i_32 : 0 ≤ ((-1) : Int32).toInt ∧ onB e_wa ((-1) : Int32).toInt = true := i_32
                obtain ⟨hP, hD⟩ := va_join (wr := [(a_o, .inr (11, [.ref a_h, .ref a_im, .ref a_ke, .ref a_k, .ref a_wa, .ref a_th, .ref a_ha, .ref a_wk, .ref a_r, .ref a_x, .int e_tl, .int e_fd, .int e_fpl, .ref a_wd, .int e_wn, .ref a_rf, .int e_lr])), (a_bn, .inl (G.2 0, 120, .inl f_b)), (a_bb, .inl (G.2 1, 24, .inr (.inl f_bb))), (a_x, .inl (G.2 0, 400, .inl f_x)), (a_b, .inr (6, [.int 5, .int 24, .ref a_bn, .int e_b]))]) (w1 := [(a_h, .inr (1, [.long e_wa, .int e_le, .int e_st, .int e_fo, .int e_lc, .ref a_l, .ref a_g, .ref a_b, .ref a_s, .ref a_p, .ref a_w, .long e_gb, .ref a_bb]))]) hP hD [1] [0, 2, 3, 4, 5] rfl rfl (by decide) (by decide) hk1 hFc hP1 hD1
                generalize H1 = H at hP hS ⊢
                have hP : va_P G.1 vwCl [(a_o, .inr (11, [.ref a_h, .ref a_im, .ref a_ke, .ref a_k, .ref a_wa, .ref a_th, .ref a_ha, .ref a_wk, .ref a_r, .ref a_x, .int e_tl, .int e_fd, .int e_fpl, .ref a_wd, .int e_wn, .ref a_rf, .int e_lr])), (a_bn, .inl (G.2 0, 120, .inl f_b)), (a_bb, .inl (G.2 1, 24, .inr (.inl f_bb))), (a_x, .inl (G.2 0, 400, .inl f_x)), (a_b, .inr (6, [.int 5, .int 24, .ref a_bn, .int e_b])), (a_h, .inr (1, [.long e_wa, .int e_le, .int e_st, .int e_fo, .int e_lc, .ref a_l, .ref a_g, .ref a_b, .ref a_s, .ref a_p, .ref a_w, .long e_gb, .ref a_bb]))] H := hP
                have hD : va_D A [(a_o, .inr (11, [.ref a_h, .ref a_im, .ref a_ke, .ref a_k, .ref a_wa, .ref a_th, .ref a_ha, .ref a_wk, .ref a_r, .ref a_x, .int e_tl, .int e_fd, .int e_fpl, .ref a_wd, .int e_wn, .ref a_rf, .int e_lr])), (a_bn, .inl (G.2 0, 120, .inl f_b)), (a_bb, .inl (G.2 1, 24, .inr (.inl f_bb))), (a_x, .inl (G.2 0, 400, .inl f_x)), (a_b, .inr (6, [.int 5, .int 24, .ref a_bn, .int e_b])), (a_h, .inr (1, [.long e_wa, .int e_le, .int e_st, .int e_fo, .int e_lc, .ref a_l, .ref a_g, .ref a_b, .ref a_s, .ref a_p, .ref a_w, .long e_gb, .ref a_bb]))] := hD
                refine lv_if_eq (tgt := 105) hx hb dX11_readStay_100 (by decide) (fun c_34 => ?_) (fun c_34 => ?_)
                ·
                  exact absurd c_34 (by decide)
                ·
                  refine lv_iconst (v := 0) hx hb dX11_readStay_103 (by decide) ?_
                  exact W.zret (v := 0) hx hb hr rfl (fun t ht hW => ⟨⟨0, [(a_o, .inr (11, [.ref a_h, .ref a_im, .ref a_ke, .ref a_k, .ref a_wa, .ref a_th, .ref a_ha, .ref a_wk, .ref a_r, .ref a_x, .int e_tl, .int e_fd, .int e_fpl, .ref a_wd, .int e_wn, .ref a_rf, .int e_lr])), (a_h, .inr (1, [.long e_wa, .int e_le, .int e_st, .int e_fo, .int e_lc, .ref a_l, .ref a_g, .ref a_b, .ref a_s, .ref a_p, .ref a_w, .long e_gb, .ref a_bb])), (a_b, .inr (6, [.int 5, .int 24, .ref a_bn, .int e_b])), (a_bn, .inl (G.2 0, 120, .inl f_b)), (a_bb, .inl (G.2 1, 24, .inr (.inl f_bb))), (a_x, .inl (G.2 0, 400, .inl f_x))], rfl, ⟨0, f_b, f_bb, ⟨by have zc_o_r : (0 : Int32).toInt = 0 := (by decide); omega, by have zc_o_r : (0 : Int32).toInt = 0 := (by decide); omega⟩, rfl, rfl⟩, by rw [ht]; exact hP.sub [0, 5, 4, 1, 2, 3] rfl, hD.sub [0, 5, 4, 1, 2, 3] (by decide) rfl⟩, hS.F ht⟩) hS.2.2 dX11_readStay_104
              ·
                have i_33 : ((-1) : Int32).toInt = -1 ∨ onB e_wa ((-1) : Int32).toInt = false := i_33
                obtain ⟨hP, hD⟩ := va_join (wr := [(a_o, .inr (11, [.ref a_h, .ref a_im, .ref a_ke, .ref a_k, .ref a_wa, .ref a_th, .ref a_ha, .ref a_wk, .ref a_r, .ref a_x, .int e_tl, .int e_fd, .int e_fpl, .ref a_wd, .int e_wn, .ref a_rf, .int e_lr])), (a_bn, .inl (G.2 0, 120, .inl f_b)), (a_bb, .inl (G.2 1, 24, .inr (.inl f_bb))), (a_x, .inl (G.2 0, 400, .inl f_x)), (a_b, .inr (6, [.int 5, .int 24, .ref a_bn, .int e_b]))]) (w1 := [(a_h, .inr (1, [.long e_wa, .int e_le, .int e_st, .int e_fo, .int e_lc, .ref a_l, .ref a_g, .ref a_b, .ref a_s, .ref a_p, .ref a_w, .long e_gb, .ref a_bb]))]) hP hD [1] [0, 2, 3, 4, 5] rfl rfl (by decide) (by decide) hk1 hFc hP1 hD1
                generalize H1 = H at hP hS ⊢
                have hP : va_P G.1 vwCl [(a_o, .inr (11, [.ref a_h, .ref a_im, .ref a_ke, .ref a_k, .ref a_wa, .ref a_th, .ref a_ha, .ref a_wk, .ref a_r, .ref a_x, .int e_tl, .int e_fd, .int e_fpl, .ref a_wd, .int e_wn, .ref a_rf, .int e_lr])), (a_bn, .inl (G.2 0, 120, .inl f_b)), (a_bb, .inl (G.2 1, 24, .inr (.inl f_bb))), (a_x, .inl (G.2 0, 400, .inl f_x)), (a_b, .inr (6, [.int 5, .int 24, .ref a_bn, .int e_b])), (a_h, .inr (1, [.long e_wa, .int e_le, .int e_st, .int e_fo, .int e_lc, .ref a_l, .ref a_g, .ref a_b, .ref a_s, .ref a_p, .ref a_w, .long e_gb, .ref a_bb]))] H := hP
                have hD : va_D A [(a_o, .inr (11, [.ref a_h, .ref a_im, .ref a_ke, .ref a_k, .ref a_wa, .ref a_th, .ref a_ha, .ref a_wk, .ref a_r, .ref a_x, .int e_tl, .int e_fd, .int e_fpl, .ref a_wd, .int e_wn, .ref a_rf, .int e_lr])), (a_bn, .inl (G.2 0, 120, .inl f_b)), (a_bb, .inl (G.2 1, 24, .inr (.inl f_bb))), (a_x, .inl (G.2 0, 400, .inl f_x)), (a_b, .inr (6, [.int 5, .int 24, .ref a_bn, .int e_b])), (a_h, .inr (1, [.long e_wa, .int e_le, .int e_st, .int e_fo, .int e_lc, .ref a_l, .ref a_g, .ref a_b, .ref a_s, .ref a_p, .ref a_w, .long e_gb, .ref a_bb]))] := hD
                refine lv_if_eq (tgt := 105) hx hb dX11_readStay_100 (by decide) (fun c_35 => ?_) (fun c_35 => ?_)
                ·
                  refine lv_aload_n hx hb dX11_readStay_105 rfl (lv_at hl 4 rfl) ?_
                  refine va_get (D := G.1) (ci := 11) (v := .ref a_h) (C := RX11) (T := TX11) (N := 17) hx hb hts inG_X11 hown hK hP 0 rfl rfl 0 (by decide) (hts _ fl_X11_12) (fun _ h9 => h9) rfl dX11_readStay_106 ?_
                  refine lv_iload_n hx hb dX11_readStay_109 rfl (lv_at hl 3 rfl) ?_
                  refine lv_iload_n hx hb dX11_readStay_110 rfl (lv_at hl 2 rfl) ?_
                  refine lv_iload hx hb dX11_readStay_111 (lv_at hl 1 rfl) ?_
                  refine lv_iload hx hb dX11_readStay_113 (lv_at hl 0 rfl) ?_
                  have hPc := hP.sub (ws' := [(a_h, .inr (1, [.long e_wa, .int e_le, .int e_st, .int e_fo, .int e_lc, .ref a_l, .ref a_g, .ref a_b, .ref a_s, .ref a_p, .ref a_w, .long e_gb, .ref a_bb])), (a_b, .inr (6, [.int 5, .int 24, .ref a_bn, .int e_b])), (a_bn, .inl (G.2 0, 120, .inl f_b)), (a_bb, .inl (G.2 1, 24, .inr (.inl f_bb)))]) [5, 4, 1, 2] rfl
                  have hDc := hD.sub (ws' := [(a_h, .inr (1, [.long e_wa, .int e_le, .int e_st, .int e_fo, .int e_lc, .ref a_l, .ref a_g, .ref a_b, .ref a_s, .ref a_p, .ref a_w, .long e_gb, .ref a_bb])), (a_b, .inr (6, [.int 5, .int 24, .ref a_bn, .int e_b])), (a_bn, .inl (G.2 0, 120, .inl f_b)), (a_bb, .inl (G.2 1, 24, .inr (.inl f_bb)))]) [5, 4, 1, 2] (by decide) rfl
                  have hFc := va_free (wc := [(a_h, .inr (1, [.long e_wa, .int e_le, .int e_st, .int e_fo, .int e_lc, .ref a_l, .ref a_g, .ref a_b, .ref a_s, .ref a_p, .ref a_w, .long e_gb, .ref a_bb])), (a_b, .inr (6, [.int 5, .int 24, .ref a_bn, .int e_b])), (a_bn, .inl (G.2 0, 120, .inl f_b)), (a_bb, .inl (G.2 1, 24, .inr (.inl f_bb)))]) hD hS hA [5, 4, 1, 2] rfl
                  refine va_callv (va_runV (As := [.int (f_x p_a.toNatClampNeg), .int (f_x (p_a + 1).toNatClampNeg), .int (f_x (p_a + 2).toNatClampNeg), .int (-1)]) (rest := []) ⟨hx, hb, hml, hown, hts⟩ (h_putN l G a_h a_b a_bn a_bb a_l a_g a_s a_p a_w H.size e_le e_st e_fo e_lc e_b (f_x p_a.toNatClampNeg) (f_x (p_a + 1).toNatClampNeg) (f_x (p_a + 2).toNatClampNeg) (-1) e_wa e_gb f_b f_bb ⟨by omega, by omega⟩ ⟨by omega, by omega⟩ ⟨by omega, by omega⟩) (cwV 4 hts gV_X11_177 rfl rfl rfl hv_X1_put ⟨Nat.le_of_ble_eq_true rfl, Nat.le_of_ble_eq_true rfl⟩) (g5_preV hPc hK hDc hN hT hS hFc (ci := 1) (q0 := 0) rfl rfl) rfl rfl hl.1 rfl (lv_room (Nat.le_of_ble_eq_true rfl)) dX11_readStay_115 ⟨Nat.le_of_ble_eq_true rfl, Nat.le_of_ble_eq_true rfl⟩) hS (fun q _ h => hFc q h) hFc (fun u t H1 locs ht hvm hw hB hz1 hk1 hS => ?_)
                  obtain ⟨hP1, hD1⟩ := hB
                  rw [ht] at hP1
                  obtain ⟨z36, z37, rfl⟩ := hw
                  obtain ⟨hP, hD⟩ := va_join (wr := [(a_o, .inr (11, [.ref a_h, .ref a_im, .ref a_ke, .ref a_k, .ref a_wa, .ref a_th, .ref a_ha, .ref a_wk, .ref a_r, .ref a_x, .int e_tl, .int e_fd, .int e_fpl, .ref a_wd, .int e_wn, .ref a_rf, .int e_lr])), (a_x, .inl (G.2 0, 400, .inl f_x))]) (w1 := [(a_h, .inr (1, [.long e_wa, .int e_le, .int e_st, .int e_fo, .int e_lc, .ref a_l, .ref a_g, .ref a_b, .ref a_s, .ref a_p, .ref a_w, .long e_gb, .ref a_bb])), (a_b, .inr (6, [.int 5, .int 24, .ref a_bn, .int e_b])), (a_bn, .inl (G.2 0, 120, .inl z36)), (a_bb, .inl (G.2 1, 24, .inr (.inl z37)))]) hP hD [5, 4, 1, 2] [0, 3] rfl rfl (by decide) (by decide) hk1 hFc hP1 hD1
                  generalize H1 = H at hP hS ⊢
                  have hP : va_P G.1 vwCl [(a_o, .inr (11, [.ref a_h, .ref a_im, .ref a_ke, .ref a_k, .ref a_wa, .ref a_th, .ref a_ha, .ref a_wk, .ref a_r, .ref a_x, .int e_tl, .int e_fd, .int e_fpl, .ref a_wd, .int e_wn, .ref a_rf, .int e_lr])), (a_x, .inl (G.2 0, 400, .inl f_x)), (a_h, .inr (1, [.long e_wa, .int e_le, .int e_st, .int e_fo, .int e_lc, .ref a_l, .ref a_g, .ref a_b, .ref a_s, .ref a_p, .ref a_w, .long e_gb, .ref a_bb])), (a_b, .inr (6, [.int 5, .int 24, .ref a_bn, .int e_b])), (a_bn, .inl (G.2 0, 120, .inl z36)), (a_bb, .inl (G.2 1, 24, .inr (.inl z37)))] H := hP
                  have hD : va_D A [(a_o, .inr (11, [.ref a_h, .ref a_im, .ref a_ke, .ref a_k, .ref a_wa, .ref a_th, .ref a_ha, .ref a_wk, .ref a_r, .ref a_x, .int e_tl, .int e_fd, .int e_fpl, .ref a_wd, .int e_wn, .ref a_rf, .int e_lr])), (a_x, .inl (G.2 0, 400, .inl f_x)), (a_h, .inr (1, [.long e_wa, .int e_le, .int e_st, .int e_fo, .int e_lc, .ref a_l, .ref a_g, .ref a_b, .ref a_s, .ref a_p, .ref a_w, .long e_gb, .ref a_bb])), (a_b, .inr (6, [.int 5, .int 24, .ref a_bn, .int e_b])), (a_bn, .inl (G.2 0, 120, .inl z36)), (a_bb, .inl (G.2 1, 24, .inr (.inl z37)))] := hD
                  refine lv_iconst (v := 1) hx hb dX11_readStay_118 (by decide) ?_
                  exact W.zret (v := 1) hx hb hr rfl (fun t ht hW => ⟨⟨1, [(a_o, .inr (11, [.ref a_h, .ref a_im, .ref a_ke, .ref a_k, .ref a_wa, .ref a_th, .ref a_ha, .ref a_wk, .ref a_r, .ref a_x, .int e_tl, .int e_fd, .int e_fpl, .ref a_wd, .int e_wn, .ref a_rf, .int e_lr])), (a_h, .inr (1, [.long e_wa, .int e_le, .int e_st, .int e_fo, .int e_lc, .ref a_l, .ref a_g, .ref a_b, .ref a_s, .ref a_p, .ref a_w, .long e_gb, .ref a_bb])), (a_b, .inr (6, [.int 5, .int 24, .ref a_bn, .int e_b])), (a_bn, .inl (G.2 0, 120, .inl z36)), (a_bb, .inl (G.2 1, 24, .inr (.inl z37))), (a_x, .inl (G.2 0, 400, .inl f_x))], rfl, ⟨1, z36, z37, ⟨by have zc_o_r : (1 : Int32).toInt = 1 := (by decide); omega, by have zc_o_r : (1 : Int32).toInt = 1 := (by decide); omega⟩, rfl, rfl⟩, by rw [ht]; exact hP.sub [0, 2, 3, 4, 5, 1] rfl, hD.sub [0, 2, 3, 4, 5, 1] (by decide) rfl⟩, hS.F ht⟩) hS.2.2 dX11_readStay_119
                ·
                  exact absurd c_35 (by decide)
          ·
            have hP := g5_same hP hk1
            generalize H1 = H at hP hS ⊢
            refine lv_if_eq (tgt := 103) hx hb dX11_readStay_88 (by decide) (fun c_38 => ?_) (fun c_38 => ?_)
            ·
              refine lv_iconst (v := 0) hx hb dX11_readStay_103 (by decide) ?_
              exact W.zret (v := 0) hx hb hr rfl (fun t ht hW => ⟨⟨0, [(a_o, .inr (11, [.ref a_h, .ref a_im, .ref a_ke, .ref a_k, .ref a_wa, .ref a_th, .ref a_ha, .ref a_wk, .ref a_r, .ref a_x, .int e_tl, .int e_fd, .int e_fpl, .ref a_wd, .int e_wn, .ref a_rf, .int e_lr])), (a_h, .inr (1, [.long e_wa, .int e_le, .int e_st, .int e_fo, .int e_lc, .ref a_l, .ref a_g, .ref a_b, .ref a_s, .ref a_p, .ref a_w, .long e_gb, .ref a_bb])), (a_b, .inr (6, [.int 5, .int 24, .ref a_bn, .int e_b])), (a_bn, .inl (G.2 0, 120, .inl f_b)), (a_bb, .inl (G.2 1, 24, .inr (.inl f_bb))), (a_x, .inl (G.2 0, 400, .inl f_x))], rfl, ⟨0, f_b, f_bb, ⟨by have zc_o_r : (0 : Int32).toInt = 0 := (by decide); omega, by have zc_o_r : (0 : Int32).toInt = 0 := (by decide); omega⟩, rfl, rfl⟩, by rw [ht]; exact hP.sub [0, 1, 5, 2, 3, 4] rfl, hD.sub [0, 1, 5, 2, 3, 4] (by decide) rfl⟩, hS.F ht⟩) hS.2.2 dX11_readStay_104
            ·
              exact absurd c_38 (by decide)
      ·
        have i_25 : (f_x p_a.toNatClampNeg).toInt < 0 ∨ e_b.toInt ≤ (f_x p_a.toNatClampNeg).toInt := i_25
        obtain ⟨hP, hD⟩ := va_join (wr := [(a_o, .inr (11, [.ref a_h, .ref a_im, .ref a_ke, .ref a_k, .ref a_wa, .ref a_th, .ref a_ha, .ref a_wk, .ref a_r, .ref a_x, .int e_tl, .int e_fd, .int e_fpl, .ref a_wd, .int e_wn, .ref a_rf, .int e_lr])), (a_h, .inr (1, [.long e_wa, .int e_le, .int e_st, .int e_fo, .int e_lc, .ref a_l, .ref a_g, .ref a_b, .ref a_s, .ref a_p, .ref a_w, .long e_gb, .ref a_bb])), (a_bn, .inl (G.2 0, 120, .inl f_b)), (a_bb, .inl (G.2 1, 24, .inr (.inl f_bb))), (a_x, .inl (G.2 0, 400, .inl f_x))]) (w1 := [(a_b, .inr (6, [.int 5, .int 24, .ref a_bn, .int e_b]))]) hP hD [2] [0, 1, 3, 4, 5] rfl rfl (by decide) (by decide) hk1 hFc hP1 hD1
        generalize H1 = H at hP hS ⊢
        have hP : va_P G.1 vwCl [(a_o, .inr (11, [.ref a_h, .ref a_im, .ref a_ke, .ref a_k, .ref a_wa, .ref a_th, .ref a_ha, .ref a_wk, .ref a_r, .ref a_x, .int e_tl, .int e_fd, .int e_fpl, .ref a_wd, .int e_wn, .ref a_rf, .int e_lr])), (a_h, .inr (1, [.long e_wa, .int e_le, .int e_st, .int e_fo, .int e_lc, .ref a_l, .ref a_g, .ref a_b, .ref a_s, .ref a_p, .ref a_w, .long e_gb, .ref a_bb])), (a_bn, .inl (G.2 0, 120, .inl f_b)), (a_bb, .inl (G.2 1, 24, .inr (.inl f_bb))), (a_x, .inl (G.2 0, 400, .inl f_x)), (a_b, .inr (6, [.int 5, .int 24, .ref a_bn, .int e_b]))] H := hP
        have hD : va_D A [(a_o, .inr (11, [.ref a_h, .ref a_im, .ref a_ke, .ref a_k, .ref a_wa, .ref a_th, .ref a_ha, .ref a_wk, .ref a_r, .ref a_x, .int e_tl, .int e_fd, .int e_fpl, .ref a_wd, .int e_wn, .ref a_rf, .int e_lr])), (a_h, .inr (1, [.long e_wa, .int e_le, .int e_st, .int e_fo, .int e_lc, .ref a_l, .ref a_g, .ref a_b, .ref a_s, .ref a_p, .ref a_w, .long e_gb, .ref a_bb])), (a_bn, .inl (G.2 0, 120, .inl f_b)), (a_bb, .inl (G.2 1, 24, .inr (.inl f_bb))), (a_x, .inl (G.2 0, 400, .inl f_x)), (a_b, .inr (6, [.int 5, .int 24, .ref a_bn, .int e_b]))] := hD
        refine lv_if_eq (tgt := 103) hx hb dX11_readStay_77 (by decide) (fun c_39 => ?_) (fun c_39 => ?_)
        ·
          refine lv_iconst (v := 0) hx hb dX11_readStay_103 (by decide) ?_
          exact W.zret (v := 0) hx hb hr rfl (fun t ht hW => ⟨⟨0, [(a_o, .inr (11, [.ref a_h, .ref a_im, .ref a_ke, .ref a_k, .ref a_wa, .ref a_th, .ref a_ha, .ref a_wk, .ref a_r, .ref a_x, .int e_tl, .int e_fd, .int e_fpl, .ref a_wd, .int e_wn, .ref a_rf, .int e_lr])), (a_h, .inr (1, [.long e_wa, .int e_le, .int e_st, .int e_fo, .int e_lc, .ref a_l, .ref a_g, .ref a_b, .ref a_s, .ref a_p, .ref a_w, .long e_gb, .ref a_bb])), (a_b, .inr (6, [.int 5, .int 24, .ref a_bn, .int e_b])), (a_bn, .inl (G.2 0, 120, .inl f_b)), (a_bb, .inl (G.2 1, 24, .inr (.inl f_bb))), (a_x, .inl (G.2 0, 400, .inl f_x))], rfl, ⟨0, f_b, f_bb, ⟨by have zc_o_r : (0 : Int32).toInt = 0 := (by decide); omega, by have zc_o_r : (0 : Int32).toInt = 0 := (by decide); omega⟩, rfl, rfl⟩, by rw [ht]; exact hP.sub [0, 1, 5, 2, 3, 4] rfl, hD.sub [0, 1, 5, 2, 3, 4] (by decide) rfl⟩, hS.F ht⟩) hS.2.2 dX11_readStay_104
        ·
          exact absurd c_39 (by decide)
  ·
    have i_2 : (p_a.toInt + 4) > e_tl.toInt := by have z := g5_leN (a := (p_a + 4).toInt) (b := e_tl.toInt) (by rfl) (by rfl) c_2; omega
    refine lv_iconst (v := 0) hx hb dX11_readStay_10 (by decide) ?_
    exact W.zret (v := 0) hx hb hr rfl (fun t ht hW => ⟨⟨0, [(a_o, .inr (11, [.ref a_h, .ref a_im, .ref a_ke, .ref a_k, .ref a_wa, .ref a_th, .ref a_ha, .ref a_wk, .ref a_r, .ref a_x, .int e_tl, .int e_fd, .int e_fpl, .ref a_wd, .int e_wn, .ref a_rf, .int e_lr])), (a_h, .inr (1, [.long e_wa, .int e_le, .int e_st, .int e_fo, .int e_lc, .ref a_l, .ref a_g, .ref a_b, .ref a_s, .ref a_p, .ref a_w, .long e_gb, .ref a_bb])), (a_b, .inr (6, [.int 5, .int 24, .ref a_bn, .int e_b])), (a_bn, .inl (G.2 0, 120, .inl f_b)), (a_bb, .inl (G.2 1, 24, .inr (.inl f_bb))), (a_x, .inl (G.2 0, 400, .inl f_x))], rfl, ⟨0, f_b, f_bb, ⟨by have zc_o_r : (0 : Int32).toInt = 0 := (by decide); omega, by have zc_o_r : (0 : Int32).toInt = 0 := (by decide); omega⟩, rfl, rfl⟩, by rw [ht]; exact hP.sub [0, 1, 2, 3, 4, 5] rfl, hD.sub [0, 1, 2, 3, 4, 5] (by decide) rfl⟩, hS.F ht⟩) hS.2.2 dX11_readStay_11
theorem dX11_row_0 : decode cX11_row 0 = .ok (.aload_n 0, 1) := by decide +kernel
theorem dX11_row_1 : decode cX11_row 1 = .ok (.getfield 74, 3) := by decide +kernel
theorem dX11_row_4 : decode cX11_row 4 = .ok (.ifCond .ne 10, 3) := by decide +kernel
theorem dX11_row_7 : decode cX11_row 7 = .ok (.aload_n 0, 1) := by decide +kernel
theorem dX11_row_8 : decode cX11_row 8 = .ok (.bipush (-6), 2) := by decide +kernel
theorem dX11_row_10 : decode cX11_row 10 = .ok (.invokevirtual 104, 3) := by decide +kernel
theorem dX11_row_13 : decode cX11_row 13 = .ok (.ireturn, 1) := by decide +kernel
theorem dX11_row_14 : decode cX11_row 14 = .ok (.iconst 0, 1) := by decide +kernel
theorem dX11_row_15 : decode cX11_row 15 = .ok (.istore_n 1, 1) := by decide +kernel
theorem dX11_row_16 : decode cX11_row 16 = .ok (.iconst 0, 1) := by decide +kernel
theorem dX11_row_17 : decode cX11_row 17 = .ok (.istore_n 2, 1) := by decide +kernel
theorem dX11_row_18 : decode cX11_row 18 = .ok (.iconst 0, 1) := by decide +kernel
theorem dX11_row_19 : decode cX11_row 19 = .ok (.istore_n 3, 1) := by decide +kernel
theorem dX11_row_20 : decode cX11_row 20 = .ok (.iload_n 3, 1) := by decide +kernel
theorem dX11_row_21 : decode cX11_row 21 = .ok (.aload_n 0, 1) := by decide +kernel
theorem dX11_row_22 : decode cX11_row 22 = .ok (.getfield 74, 3) := by decide +kernel
theorem dX11_row_25 : decode cX11_row 25 = .ok (.if_icmp .ge 26, 3) := by decide +kernel
theorem dX11_row_28 : decode cX11_row 28 = .ok (.aload_n 0, 1) := by decide +kernel
theorem dX11_row_29 : decode cX11_row 29 = .ok (.iload_n 3, 1) := by decide +kernel
theorem dX11_row_30 : decode cX11_row 30 = .ok (.invokevirtual 189, 3) := by decide +kernel
theorem dX11_row_33 : decode cX11_row 33 = .ok (.ifCond .eq 9, 3) := by decide +kernel
theorem dX11_row_36 : decode cX11_row 36 = .ok (.iinc 1 1, 3) := by decide +kernel
theorem dX11_row_39 : decode cX11_row 39 = .ok (.goto 6, 3) := by decide +kernel
theorem dX11_row_42 : decode cX11_row 42 = .ok (.iinc 2 1, 3) := by decide +kernel
theorem dX11_row_45 : decode cX11_row 45 = .ok (.iinc 3 4, 3) := by decide +kernel
theorem dX11_row_48 : decode cX11_row 48 = .ok (.goto (-28), 3) := by decide +kernel
theorem dX11_row_51 : decode cX11_row 51 = .ok (.aload_n 0, 1) := by decide +kernel
theorem dX11_row_52 : decode cX11_row 52 = .ok (.iload_n 2, 1) := by decide +kernel
theorem dX11_row_53 : decode cX11_row 53 = .ok (.putfield 78, 3) := by decide +kernel
theorem dX11_row_56 : decode cX11_row 56 = .ok (.aload_n 0, 1) := by decide +kernel
theorem dX11_row_57 : decode cX11_row 57 = .ok (.iconst 0, 1) := by decide +kernel
theorem dX11_row_58 : decode cX11_row 58 = .ok (.putfield 74, 3) := by decide +kernel
theorem dX11_row_61 : decode cX11_row 61 = .ok (.aload_n 0, 1) := by decide +kernel
theorem dX11_row_62 : decode cX11_row 62 = .ok (.iload_n 1, 1) := by decide +kernel
theorem dX11_row_63 : decode cX11_row 63 = .ok (.invokevirtual 121, 3) := by decide +kernel
theorem dX11_row_66 : decode cX11_row 66 = .ok (.ireturn, 1) := by decide +kernel
theorem ml_X11_189 : Cond.methodLink RX11 189 yX11_readStay ∈ tblG := tg 629 (by decide +kernel) (by decide +kernel)
theorem im_X11_readStay : Cond.instanceMethod yX11_readStay ∈ tblG := tg 631 (by decide +kernel) (by decide +kernel)
theorem se_X11_readStay : Cond.selects RX11 yX11_readStay yX11_readStay ∈ tblG := tg 3 (by decide +kernel) (by decide +kernel)
theorem cd_X11_readStay : Cond.code yX11_readStay cX11_readStay 6 (some .boolean) ∈ tblG := tg 632 (by decide +kernel) (by decide +kernel)
theorem gW_X11_readStay : GoodIn tblG (wsG yX11_readStay cX11_readStay 6 (some .boolean)) := tgi cd_X11_readStay
theorem gV_X11_189 : GoodIn tblG (wsV RX11 189 RX11 yX11_readStay (wsG yX11_readStay cX11_readStay 6 (some .boolean))) := tgV ml_X11_189 im_X11_readStay se_X11_readStay ini_X11 gW_X11_readStay
theorem hv_X11_readStay : yX11_readStay.cls = RX11 ∧ yX11_readStay.cls ≠ "java/lang/invoke/MethodHandle" ∧ yX11_readStay.cls ≠ "java/lang/invoke/VarHandle" ∧ (parseMethodDescriptor yX11_readStay.desc).map (fun d => d.parameters.length) = some 1 := by decide +kernel
set_option maxHeartbeats 4000000 in
set_option maxRecDepth 100000 in
theorem x_row (l : Launch) (G : g5_G) (a_o a_rf a_h a_b a_bn a_bb a_x a_im a_ke a_k a_wa a_th a_ha a_wk a_r a_wd a_l a_g a_s a_p a_w : Nat) (sz : Nat) (e_tl : Int32) (e_fd : Int32) (e_fpl : Int32) (e_wn : Int32) (e_lr : Int32) (e_le : Int32) (e_st : Int32) (e_fo : Int32) (e_lc : Int32) (e_b : Int32) (e_wa : Int64) (e_gb : Int64) (f_rf : Nat → Int32) (f_b : Nat → Int32) (f_bb : Nat → Int64) (f_x : Nat → Int32) (h_e_tl : 0 ≤ e_tl.toInt ∧ e_tl.toInt ≤ 400) (h_e_wn : 0 ≤ e_wn.toInt ∧ e_wn.toInt ≤ 1) (h_e_b : 0 ≤ e_b.toInt ∧ e_b.toInt ≤ 5) : Met l yX11_row (wsG yX11_row cX11_row 4 (some .int)) ({ frames := 4, cells := 0, slots := 0, locals := 98 }) (va_Pc [.ref a_o] (g5_P G [(a_o, .inr (11, [.ref a_h, .ref a_im, .ref a_ke, .ref a_k, .ref a_wa, .ref a_th, .ref a_ha, .ref a_wk, .ref a_r, .ref a_x, .int e_tl, .int e_fd, .int e_fpl, .ref a_wd, .int e_wn, .ref a_rf, .int e_lr])), (a_rf, .inl (G.2 0, 5, .inl f_rf)), (a_h, .inr (1, [.long e_wa, .int e_le, .int e_st, .int e_fo, .int e_lc, .ref a_l, .ref a_g, .ref a_b, .ref a_s, .ref a_p, .ref a_w, .long e_gb, .ref a_bb])), (a_b, .inr (6, [.int 5, .int 24, .ref a_bn, .int e_b])), (a_bn, .inl (G.2 0, 120, .inl f_b)), (a_bb, .inl (G.2 1, 24, .inr (.inl f_bb))), (a_x, .inl (G.2 0, 400, .inl f_x))] sz)) (va_Qi (fun (r : Int32) (u : va_W) => (∃ (o_r : Int32) (o_lr : Int32) (o_rf : Nat → Int32) (o_fd : Int32) (o_f : Nat → Int32) (o_bb : Nat → Int64), (r = o_r) ∧ (u = [(a_o, .inr (11, [.ref a_h, .ref a_im, .ref a_ke, .ref a_k, .ref a_wa, .ref a_th, .ref a_ha, .ref a_wk, .ref a_r, .ref a_x, .int 0, .int o_fd, .int e_fpl, .ref a_wd, .int e_wn, .ref a_rf, .int o_lr])), (a_rf, .inl (G.2 0, 5, .inl o_rf)), (a_h, .inr (1, [.long e_wa, .int e_le, .int e_st, .int e_fo, .int e_lc, .ref a_l, .ref a_g, .ref a_b, .ref a_s, .ref a_p, .ref a_w, .long e_gb, .ref a_bb])), (a_b, .inr (6, [.int 5, .int 24, .ref a_bn, .int e_b])), (a_bn, .inl (G.2 0, 120, .inl o_f)), (a_bb, .inl (G.2 1, 24, .inr (.inl o_bb))), (a_x, .inl (G.2 0, 400, .inl f_x))])) ∨ (∃ (o_rf : Nat → Int32), (e_tl.toInt = 0) ∧ (r = (-6)) ∧ (u = [(a_o, .inr (11, [.ref a_h, .ref a_im, .ref a_ke, .ref a_k, .ref a_wa, .ref a_th, .ref a_ha, .ref a_wk, .ref a_r, .ref a_x, .int e_tl, .int e_fd, .int e_fpl, .ref a_wd, .int e_wn, .ref a_rf, .int (-6)])), (a_rf, .inl (G.2 0, 5, .inl o_rf)), (a_h, .inr (1, [.long e_wa, .int e_le, .int e_st, .int e_fo, .int e_lc, .ref a_l, .ref a_g, .ref a_b, .ref a_s, .ref a_p, .ref a_w, .long e_gb, .ref a_bb])), (a_b, .inr (6, [.int 5, .int 24, .ref a_bn, .int e_b])), (a_bn, .inl (G.2 0, 120, .inl f_b)), (a_bb, .inl (G.2 1, 24, .inr (.inl f_bb))), (a_x, .inl (G.2 0, 400, .inl f_x))]))) (g5_B G (va_A [(a_o, .inr (11, [.ref a_h, .ref a_im, .ref a_ke, .ref a_k, .ref a_wa, .ref a_th, .ref a_ha, .ref a_wk, .ref a_r, .ref a_x, .int e_tl, .int e_fd, .int e_fpl, .ref a_wd, .int e_wn, .ref a_rf, .int e_lr])), (a_rf, .inl (G.2 0, 5, .inl f_rf)), (a_h, .inr (1, [.long e_wa, .int e_le, .int e_st, .int e_fo, .int e_lc, .ref a_l, .ref a_g, .ref a_b, .ref a_s, .ref a_p, .ref a_w, .long e_gb, .ref a_bb])), (a_b, .inr (6, [.int 5, .int 24, .ref a_bn, .int e_b])), (a_bn, .inl (G.2 0, 120, .inl f_b)), (a_bb, .inl (G.2 1, 24, .inr (.inl f_bb))), (a_x, .inl (G.2 0, 400, .inl f_x))] sz)) (va_A [(a_o, .inr (11, [.ref a_h, .ref a_im, .ref a_ke, .ref a_k, .ref a_wa, .ref a_th, .ref a_ha, .ref a_wk, .ref a_r, .ref a_x, .int e_tl, .int e_fd, .int e_fpl, .ref a_wd, .int e_wn, .ref a_rf, .int e_lr])), (a_rf, .inl (G.2 0, 5, .inl f_rf)), (a_h, .inr (1, [.long e_wa, .int e_le, .int e_st, .int e_fo, .int e_lc, .ref a_l, .ref a_g, .ref a_b, .ref a_s, .ref a_p, .ref a_w, .long e_gb, .ref a_bb])), (a_b, .inr (6, [.int 5, .int 24, .ref a_bn, .int e_b])), (a_bn, .inl (G.2 0, 120, .inl f_b)), (a_bb, .inl (G.2 1, 24, .inr (.inl f_bb))), (a_x, .inl (G.2 0, 400, .inl f_x))] sz)) 0 0 (va_A [(a_o, .inr (11, [.ref a_h, .ref a_im, .ref a_ke, .ref a_k, .ref a_wa, .ref a_th, .ref a_ha, .ref a_wk, .ref a_r, .ref a_x, .int e_tl, .int e_fd, .int e_fpl, .ref a_wd, .int e_wn, .ref a_rf, .int e_lr])), (a_rf, .inl (G.2 0, 5, .inl f_rf)), (a_h, .inr (1, [.long e_wa, .int e_le, .int e_st, .int e_fo, .int e_lc, .ref a_l, .ref a_g, .ref a_b, .ref a_s, .ref a_p, .ref a_w, .long e_gb, .ref a_bb])), (a_b, .inr (6, [.int 5, .int 24, .ref a_bn, .int e_b])), (a_bn, .inl (G.2 0, 120, .inl f_b)), (a_bb, .inl (G.2 1, 24, .inr (.inl f_bb))), (a_x, .inl (G.2 0, 400, .inl f_x))] sz) := by
  refine Met.ofW (cc := cX11_row) (maxL := 4) (ret := (some .int)) (by decide) rfl ?_
  intro p e s m args below meth c s₁ B hml hv
  obtain ⟨rfl, hsz, hP, hK, hD0, hN, hT⟩ := hv
  have hx := B.exec
  have hb := B.bytes
  have hr := B.returns
  have hts : ∀ w ∈ tblG, w.before _ s = true := fun w h => atoms_spec (ws := (wsG yX11_row cX11_row 4 (some .int))) B.pre w (List.mem_cons_of_mem _ h)
  have hown : s.vm.findClass RX11 = some m.cls := findClass_of_methodNamed B.named
  have hlocks := B.notSynchronized
  subst hsz
  have hD := hD0.self (sz := s.heap.size)
  generalize hAe : va_A [(a_o, .inr (11, [.ref a_h, .ref a_im, .ref a_ke, .ref a_k, .ref a_wa, .ref a_th, .ref a_ha, .ref a_wk, .ref a_r, .ref a_x, .int e_tl, .int e_fd, .int e_fpl, .ref a_wd, .int e_wn, .ref a_rf, .int e_lr])), (a_rf, .inl (G.2 0, 5, .inl f_rf)), (a_h, .inr (1, [.long e_wa, .int e_le, .int e_st, .int e_fo, .int e_lc, .ref a_l, .ref a_g, .ref a_b, .ref a_s, .ref a_p, .ref a_w, .long e_gb, .ref a_bb])), (a_b, .inr (6, [.int 5, .int 24, .ref a_bn, .int e_b])), (a_bn, .inl (G.2 0, 120, .inl f_b)), (a_bb, .inl (G.2 1, 24, .inr (.inl f_bb))), (a_x, .inl (G.2 0, 400, .inl f_x))] s.heap.size = A at hD hT ⊢
  have hA : ∀ q : Nat, s.heap.size ≤ q → A q := fun q h => by rw [← hAe]; exact Or.inr h
  have hS : va_S A s.heap s.heap [] := va_S.rf
  have hP : va_P G.1 vwCl [(a_o, .inr (11, [.ref a_h, .ref a_im, .ref a_ke, .ref a_k, .ref a_wa, .ref a_th, .ref a_ha, .ref a_wk, .ref a_r, .ref a_x, .int e_tl, .int e_fd, .int e_fpl, .ref a_wd, .int e_wn, .ref a_rf, .int e_lr])), (a_rf, .inl (G.2 0, 5, .inl f_rf)), (a_h, .inr (1, [.long e_wa, .int e_le, .int e_st, .int e_fo, .int e_lc, .ref a_l, .ref a_g, .ref a_b, .ref a_s, .ref a_p, .ref a_w, .long e_gb, .ref a_bb])), (a_b, .inr (6, [.int 5, .int 24, .ref a_bn, .int e_b])), (a_bn, .inl (G.2 0, 120, .inl f_b)), (a_bb, .inl (G.2 1, 24, .inr (.inl f_bb))), (a_x, .inl (G.2 0, 400, .inl f_x))] s.heap := hP
  have hl := lv_entry ([.ref a_o]) (n := 4) (Nat.le_of_ble_eq_true rfl)
  rw [lg_entry_eq]
  generalize (lg_sl ([.ref a_o]) ++ List.replicate (4 - (lg_sl ([.ref a_o])).length) Slot.unset).toArray = ls at hl ⊢
  have hl : lv_has ls 4 [(0, .ref a_o)] := hl
  refine lv_aload_n hx hb dX11_row_0 rfl (lv_at hl 0 rfl) ?_
  refine va_get (D := G.1) (ci := 11) (v := .int e_tl) (C := RX11) (T := TX11) (N := 17) hx hb hts inG_X11 hown hK hP 0 rfl rfl 10 (by decide) (hts _ fl_X11_74) (fun _ h9 => h9) rfl dX11_row_1 ?_
  refine lv_if_ne (tgt := 14) hx hb dX11_row_4 (by decide) (fun c_1 => ?_) (fun c_1 => ?_)
  ·
    have n_1 : gNe (e_tl.toInt) (0) := by have z := g5_ne (a := e_tl.toInt) (b := 0) (by rfl) (by decide) c_1; unfold gNe; omega
    have i_1 : e_tl.toInt ≥ 1 := by have z := g5_ne (a := e_tl.toInt) (b := 0) (by rfl) (by decide) c_1; omega
    refine lv_iconst (v := 0) hx hb dX11_row_14 (by decide) ?_
    refine lv_istore_n (lv' := [(1, .int 0), (0, .ref a_o)]) hx hb dX11_row_15 rfl hl (by decide) rfl (fun ls hl => ?_)
    refine lv_iconst (v := 0) hx hb dX11_row_16 (by decide) ?_
    refine lv_istore_n (lv' := [(2, .int 0), (1, .int 0), (0, .ref a_o)]) hx hb dX11_row_17 rfl hl (by decide) rfl (fun ls hl => ?_)
    refine lv_iconst (v := 0) hx hb dX11_row_18 (by decide) ?_
    refine lv_istore_n (lv' := [(3, .int 0), (2, .int 0), (1, .int 0), (0, .ref a_o)]) hx hb dX11_row_19 rfl hl (by decide) rfl (fun ls hl => ?_)
    refine g5_loop (α := (Int32) × (Int32) × (Int32) × (Nat → Int32) × (Nat → Int64)) (fun (q : (Int32) × (Int32) × (Int32) × (Nat → Int32) × (Nat → Int64)) (ls : Array Slot) (H : Heap) (locs : List Loc) => match q with | (k_a, k_b, k_c, k_f, k_bb) => lv_has ls 4 [(1, .int k_b), (2, .int k_c), (3, .int k_a), (0, .ref a_o)] ∧ va_P G.1 vwCl [(a_o, .inr (11, [.ref a_h, .ref a_im, .ref a_ke, .ref a_k, .ref a_wa, .ref a_th, .ref a_ha, .ref a_wk, .ref a_r, .ref a_x, .int e_tl, .int e_fd, .int e_fpl, .ref a_wd, .int e_wn, .ref a_rf, .int e_lr])), (a_rf, .inl (G.2 0, 5, .inl f_rf)), (a_h, .inr (1, [.long e_wa, .int e_le, .int e_st, .int e_fo, .int e_lc, .ref a_l, .ref a_g, .ref a_b, .ref a_s, .ref a_p, .ref a_w, .long e_gb, .ref a_bb])), (a_b, .inr (6, [.int 5, .int 24, .ref a_bn, .int e_b])), (a_bn, .inl (G.2 0, 120, .inl k_f)), (a_bb, .inl (G.2 1, 24, .inr (.inl k_bb))), (a_x, .inl (G.2 0, 400, .inl f_x))] H ∧ va_D A [(a_o, .inr (11, [.ref a_h, .ref a_im, .ref a_ke, .ref a_k, .ref a_wa, .ref a_th, .ref a_ha, .ref a_wk, .ref a_r, .ref a_x, .int e_tl, .int e_fd, .int e_fpl, .ref a_wd, .int e_wn, .ref a_rf, .int e_lr])), (a_rf, .inl (G.2 0, 5, .inl f_rf)), (a_h, .inr (1, [.long e_wa, .int e_le, .int e_st, .int e_fo, .int e_lc, .ref a_l, .ref a_g, .ref a_b, .ref a_s, .ref a_p, .ref a_w, .long e_gb, .ref a_bb])), (a_b, .inr (6, [.int 5, .int 24, .ref a_bn, .int e_b])), (a_bn, .inl (G.2 0, 120, .inl k_f)), (a_bb, .inl (G.2 1, 24, .inr (.inl k_bb))), (a_x, .inl (G.2 0, 400, .inl f_x))] ∧ va_S A s.heap H locs ∧ (0 ≤ k_a.toInt ∧ k_a.toInt ≤ 403)) (fun (q : (Int32) × (Int32) × (Int32) × (Nat → Int32) × (Nat → Int64)) => match q with | (k_a, k_b, k_c, k_f, k_bb) => Int.toNat (404 - k_a.toInt)) (0, 0, 0, f_b, f_bb) ⟨lv_sub hl [2, 1, 0, 3] rfl, hP, hD, hS, ⟨by decide, by decide⟩⟩ ?_
    rintro ⟨k_a, k_b, k_c, k_f, k_bb⟩ ls H locs ⟨hl, hP, hD, hS, i_2⟩ ih_20_3
    have hl : lv_has ls 4 [(1, .int k_b), (2, .int k_c), (3, .int k_a), (0, .ref a_o)] := hl
    have i_2 : 0 ≤ k_a.toInt ∧ k_a.toInt ≤ 403 := i_2
    have hP : va_P G.1 vwCl [(a_o, .inr (11, [.ref a_h, .ref a_im, .ref a_ke, .ref a_k, .ref a_wa, .ref a_th, .ref a_ha, .ref a_wk, .ref a_r, .ref a_x, .int e_tl, .int e_fd, .int e_fpl, .ref a_wd, .int e_wn, .ref a_rf, .int e_lr])), (a_rf, .inl (G.2 0, 5, .inl f_rf)), (a_h, .inr (1, [.long e_wa, .int e_le, .int e_st, .int e_fo, .int e_lc, .ref a_l, .ref a_g, .ref a_b, .ref a_s, .ref a_p, .ref a_w, .long e_gb, .ref a_bb])), (a_b, .inr (6, [.int 5, .int 24, .ref a_bn, .int e_b])), (a_bn, .inl (G.2 0, 120, .inl k_f)), (a_bb, .inl (G.2 1, 24, .inr (.inl k_bb))), (a_x, .inl (G.2 0, 400, .inl f_x))] H := hP
    have hD : va_D A [(a_o, .inr (11, [.ref a_h, .ref a_im, .ref a_ke, .ref a_k, .ref a_wa, .ref a_th, .ref a_ha, .ref a_wk, .ref a_r, .ref a_x, .int e_tl, .int e_fd, .int e_fpl, .ref a_wd, .int e_wn, .ref a_rf, .int e_lr])), (a_rf, .inl (G.2 0, 5, .inl f_rf)), (a_h, .inr (1, [.long e_wa, .int e_le, .int e_st, .int e_fo, .int e_lc, .ref a_l, .ref a_g, .ref a_b, .ref a_s, .ref a_p, .ref a_w, .long e_gb, .ref a_bb])), (a_b, .inr (6, [.int 5, .int 24, .ref a_bn, .int e_b])), (a_bn, .inl (G.2 0, 120, .inl k_f)), (a_bb, .inl (G.2 1, 24, .inr (.inl k_bb))), (a_x, .inl (G.2 0, 400, .inl f_x))] := hD
    refine lv_iload_n hx hb dX11_row_20 rfl (lv_at hl 2 rfl) ?_
    refine lv_aload_n hx hb dX11_row_21 rfl (lv_at hl 3 rfl) ?_
    refine va_get (D := G.1) (ci := 11) (v := .int e_tl) (C := RX11) (T := TX11) (N := 17) hx hb hts inG_X11 hown hK hP 0 rfl rfl 10 (by decide) (hts _ fl_X11_74) (fun _ h9 => h9) rfl dX11_row_22 ?_
    refine lv_icmp_ge (tgt := 51) hx hb dX11_row_25 (by decide) (fun c_4 => ?_) (fun c_4 => ?_)
    ·
      have i_4 : k_a.toInt ≥ e_tl.toInt := by have z := g5_ge (a := k_a.toInt) (b := e_tl.toInt) (by rfl) (by rfl) c_4; omega
      refine lv_aload_n hx hb dX11_row_51 rfl (lv_at hl 3 rfl) ?_
      refine lv_iload_n hx hb dX11_row_52 rfl (lv_at hl 1 rfl) ?_
      refine va_put (D := G.1) (ci := 11) (v := .int k_c) (ty := .int) (C := RX11) (T := TX11) (N := 17) hx hb hts inG_X11 tyX11 tyX11_ok nmX11 hown hK hP hD hS 0 rfl rfl 11 (by decide) (hts _ fl_X11_78) (fun _ h9 => h9) rfl (by decide +kernel) rfl rfl (Nat.le_of_ble_eq_true rfl) dX11_row_53 (fun H locs hP hD hS => ?_)
      have hP : va_P G.1 vwCl [(a_o, .inr (11, [.ref a_h, .ref a_im, .ref a_ke, .ref a_k, .ref a_wa, .ref a_th, .ref a_ha, .ref a_wk, .ref a_r, .ref a_x, .int e_tl, .int k_c, .int e_fpl, .ref a_wd, .int e_wn, .ref a_rf, .int e_lr])), (a_rf, .inl (G.2 0, 5, .inl f_rf)), (a_h, .inr (1, [.long e_wa, .int e_le, .int e_st, .int e_fo, .int e_lc, .ref a_l, .ref a_g, .ref a_b, .ref a_s, .ref a_p, .ref a_w, .long e_gb, .ref a_bb])), (a_b, .inr (6, [.int 5, .int 24, .ref a_bn, .int e_b])), (a_bn, .inl (G.2 0, 120, .inl k_f)), (a_bb, .inl (G.2 1, 24, .inr (.inl k_bb))), (a_x, .inl (G.2 0, 400, .inl f_x))] H := hP
      have hD : va_D A [(a_o, .inr (11, [.ref a_h, .ref a_im, .ref a_ke, .ref a_k, .ref a_wa, .ref a_th, .ref a_ha, .ref a_wk, .ref a_r, .ref a_x, .int e_tl, .int k_c, .int e_fpl, .ref a_wd, .int e_wn, .ref a_rf, .int e_lr])), (a_rf, .inl (G.2 0, 5, .inl f_rf)), (a_h, .inr (1, [.long e_wa, .int e_le, .int e_st, .int e_fo, .int e_lc, .ref a_l, .ref a_g, .ref a_b, .ref a_s, .ref a_p, .ref a_w, .long e_gb, .ref a_bb])), (a_b, .inr (6, [.int 5, .int 24, .ref a_bn, .int e_b])), (a_bn, .inl (G.2 0, 120, .inl k_f)), (a_bb, .inl (G.2 1, 24, .inr (.inl k_bb))), (a_x, .inl (G.2 0, 400, .inl f_x))] := hD
      refine lv_aload_n hx hb dX11_row_56 rfl (lv_at hl 3 rfl) ?_
      refine lv_iconst (v := 0) hx hb dX11_row_57 (by decide) ?_
      refine va_put (D := G.1) (ci := 11) (v := .int 0) (ty := .int) (C := RX11) (T := TX11) (N := 17) hx hb hts inG_X11 tyX11 tyX11_ok nmX11 hown hK hP hD hS 0 rfl rfl 10 (by decide) (hts _ fl_X11_74) (fun _ h9 => h9) rfl (by decide +kernel) rfl rfl (Nat.le_of_ble_eq_true rfl) dX11_row_58 (fun H locs hP hD hS => ?_)
      have hP : va_P G.1 vwCl [(a_o, .inr (11, [.ref a_h, .ref a_im, .ref a_ke, .ref a_k, .ref a_wa, .ref a_th, .ref a_ha, .ref a_wk, .ref a_r, .ref a_x, .int 0, .int k_c, .int e_fpl, .ref a_wd, .int e_wn, .ref a_rf, .int e_lr])), (a_rf, .inl (G.2 0, 5, .inl f_rf)), (a_h, .inr (1, [.long e_wa, .int e_le, .int e_st, .int e_fo, .int e_lc, .ref a_l, .ref a_g, .ref a_b, .ref a_s, .ref a_p, .ref a_w, .long e_gb, .ref a_bb])), (a_b, .inr (6, [.int 5, .int 24, .ref a_bn, .int e_b])), (a_bn, .inl (G.2 0, 120, .inl k_f)), (a_bb, .inl (G.2 1, 24, .inr (.inl k_bb))), (a_x, .inl (G.2 0, 400, .inl f_x))] H := hP
      have hD : va_D A [(a_o, .inr (11, [.ref a_h, .ref a_im, .ref a_ke, .ref a_k, .ref a_wa, .ref a_th, .ref a_ha, .ref a_wk, .ref a_r, .ref a_x, .int 0, .int k_c, .int e_fpl, .ref a_wd, .int e_wn, .ref a_rf, .int e_lr])), (a_rf, .inl (G.2 0, 5, .inl f_rf)), (a_h, .inr (1, [.long e_wa, .int e_le, .int e_st, .int e_fo, .int e_lc, .ref a_l, .ref a_g, .ref a_b, .ref a_s, .ref a_p, .ref a_w, .long e_gb, .ref a_bb])), (a_b, .inr (6, [.int 5, .int 24, .ref a_bn, .int e_b])), (a_bn, .inl (G.2 0, 120, .inl k_f)), (a_bb, .inl (G.2 1, 24, .inr (.inl k_bb))), (a_x, .inl (G.2 0, 400, .inl f_x))] := hD
      refine lv_aload_n hx hb dX11_row_61 rfl (lv_at hl 3 rfl) ?_
      refine lv_iload_n hx hb dX11_row_62 rfl (lv_at hl 0 rfl) ?_
      have hPc := hP.sub (ws' := [(a_o, .inr (11, [.ref a_h, .ref a_im, .ref a_ke, .ref a_k, .ref a_wa, .ref a_th, .ref a_ha, .ref a_wk, .ref a_r, .ref a_x, .int 0, .int k_c, .int e_fpl, .ref a_wd, .int e_wn, .ref a_rf, .int e_lr]))]) [0] rfl
      have hDc := hD.sub (ws' := [(a_o, .inr (11, [.ref a_h, .ref a_im, .ref a_ke, .ref a_k, .ref a_wa, .ref a_th, .ref a_ha, .ref a_wk, .ref a_r, .ref a_x, .int 0, .int k_c, .int e_fpl, .ref a_wd, .int e_wn, .ref a_rf, .int e_lr]))]) [0] (by decide) rfl
      have hFc := va_free (wc := [(a_o, .inr (11, [.ref a_h, .ref a_im, .ref a_ke, .ref a_k, .ref a_wa, .ref a_th, .ref a_ha, .ref a_wk, .ref a_r, .ref a_x, .int 0, .int k_c, .int e_fpl, .ref a_wd, .int e_wn, .ref a_rf, .int e_lr]))]) hD hS hA [0] rfl
      refine va_calli (va_runV (As := [.int k_b]) (rest := []) ⟨hx, hb, hml, hown, hts⟩ (x_done l G a_o a_h a_im a_ke a_k a_wa a_th a_ha a_wk a_r a_x a_wd a_rf H.size 0 k_c e_fpl e_wn e_lr k_b ⟨by decide, by decide⟩ ⟨by omega, by omega⟩) (cwV 1 hts gV_X11_121 rfl rfl rfl hv_X11_done ⟨Nat.le_of_ble_eq_true rfl, Nat.le_of_ble_eq_true rfl⟩) (g5_preV hPc hK hDc hN hT hS hFc (ci := 11) (q0 := 0) rfl rfl) rfl rfl hl.1 rfl (lv_room (Nat.le_of_ble_eq_true rfl)) dX11_row_63 ⟨Nat.le_of_ble_eq_true rfl, Nat.le_of_ble_eq_true rfl⟩) hS (fun q _ h => hFc q h) hFc (fun r u t H1 locs ht hvm hw hB hz1 hk1 hS => ?_)
      obtain ⟨hP1, hD1⟩ := hB
      rw [ht] at hP1
      obtain ⟨y5, rfl⟩ := hw
      obtain ⟨hP, hD⟩ := va_join (wr := [(a_rf, .inl (G.2 0, 5, .inl f_rf)), (a_h, .inr (1, [.long e_wa, .int e_le, .int e_st, .int e_fo, .int e_lc, .ref a_l, .ref a_g, .ref a_b, .ref a_s, .ref a_p, .ref a_w, .long e_gb, .ref a_bb])), (a_b, .inr (6, [.int 5, .int 24, .ref a_bn, .int e_b])), (a_bn, .inl (G.2 0, 120, .inl k_f)), (a_bb, .inl (G.2 1, 24, .inr (.inl k_bb))), (a_x, .inl (G.2 0, 400, .inl f_x))]) (w1 := [(a_o, .inr (11, [.ref a_h, .ref a_im, .ref a_ke, .ref a_k, .ref a_wa, .ref a_th, .ref a_ha, .ref a_wk, .ref a_r, .ref a_x, .int 0, .int k_c, .int e_fpl, .ref a_wd, .int e_wn, .ref a_rf, .int 0]))]) hP hD [0] [1, 2, 3, 4, 5, 6] rfl rfl (by decide) (by decide) hk1 hFc hP1 hD1
      generalize H1 = H at hP hS ⊢
      have hP : va_P G.1 vwCl [(a_rf, .inl (G.2 0, 5, .inl f_rf)), (a_h, .inr (1, [.long e_wa, .int e_le, .int e_st, .int e_fo, .int e_lc, .ref a_l, .ref a_g, .ref a_b, .ref a_s, .ref a_p, .ref a_w, .long e_gb, .ref a_bb])), (a_b, .inr (6, [.int 5, .int 24, .ref a_bn, .int e_b])), (a_bn, .inl (G.2 0, 120, .inl k_f)), (a_bb, .inl (G.2 1, 24, .inr (.inl k_bb))), (a_x, .inl (G.2 0, 400, .inl f_x)), (a_o, .inr (11, [.ref a_h, .ref a_im, .ref a_ke, .ref a_k, .ref a_wa, .ref a_th, .ref a_ha, .ref a_wk, .ref a_r, .ref a_x, .int 0, .int k_c, .int e_fpl, .ref a_wd, .int e_wn, .ref a_rf, .int 0]))] H := hP
      have hD : va_D A [(a_rf, .inl (G.2 0, 5, .inl f_rf)), (a_h, .inr (1, [.long e_wa, .int e_le, .int e_st, .int e_fo, .int e_lc, .ref a_l, .ref a_g, .ref a_b, .ref a_s, .ref a_p, .ref a_w, .long e_gb, .ref a_bb])), (a_b, .inr (6, [.int 5, .int 24, .ref a_bn, .int e_b])), (a_bn, .inl (G.2 0, 120, .inl k_f)), (a_bb, .inl (G.2 1, 24, .inr (.inl k_bb))), (a_x, .inl (G.2 0, 400, .inl f_x)), (a_o, .inr (11, [.ref a_h, .ref a_im, .ref a_ke, .ref a_k, .ref a_wa, .ref a_th, .ref a_ha, .ref a_wk, .ref a_r, .ref a_x, .int 0, .int k_c, .int e_fpl, .ref a_wd, .int e_wn, .ref a_rf, .int 0]))] := hD
      refine g5_ti (v := k_b) y5 ?_
      exact W.iret (v := k_b) hx hb hr (fun t ht hW => ⟨⟨k_b, [(a_o, .inr (11, [.ref a_h, .ref a_im, .ref a_ke, .ref a_k, .ref a_wa, .ref a_th, .ref a_ha, .ref a_wk, .ref a_r, .ref a_x, .int 0, .int k_c, .int e_fpl, .ref a_wd, .int e_wn, .ref a_rf, .int 0])), (a_rf, .inl (G.2 0, 5, .inl f_rf)), (a_h, .inr (1, [.long e_wa, .int e_le, .int e_st, .int e_fo, .int e_lc, .ref a_l, .ref a_g, .ref a_b, .ref a_s, .ref a_p, .ref a_w, .long e_gb, .ref a_bb])), (a_b, .inr (6, [.int 5, .int 24, .ref a_bn, .int e_b])), (a_bn, .inl (G.2 0, 120, .inl k_f)), (a_bb, .inl (G.2 1, 24, .inr (.inl k_bb))), (a_x, .inl (G.2 0, 400, .inl f_x))], rfl, Or.inl (⟨k_b, 0, f_rf, k_c, k_f, k_bb, rfl, rfl⟩), by rw [ht]; exact hP.sub [6, 0, 1, 2, 3, 4, 5] rfl, hD.sub [6, 0, 1, 2, 3, 4, 5] (by decide) rfl⟩, hS.F ht⟩) hS.2.2 dX11_row_66
    ·
      have i_4 : k_a.toInt < e_tl.toInt := by have z := g5_geN (a := k_a.toInt) (b := e_tl.toInt) (by rfl) (by rfl) c_4; omega
      refine lv_aload_n hx hb dX11_row_28 rfl (lv_at hl 3 rfl) ?_
      refine lv_iload_n hx hb dX11_row_29 rfl (lv_at hl 2 rfl) ?_
      have hPc := hP.sub (ws' := [(a_o, .inr (11, [.ref a_h, .ref a_im, .ref a_ke, .ref a_k, .ref a_wa, .ref a_th, .ref a_ha, .ref a_wk, .ref a_r, .ref a_x, .int e_tl, .int e_fd, .int e_fpl, .ref a_wd, .int e_wn, .ref a_rf, .int e_lr])), (a_h, .inr (1, [.long e_wa, .int e_le, .int e_st, .int e_fo, .int e_lc, .ref a_l, .ref a_g, .ref a_b, .ref a_s, .ref a_p, .ref a_w, .long e_gb, .ref a_bb])), (a_b, .inr (6, [.int 5, .int 24, .ref a_bn, .int e_b])), (a_bn, .inl (G.2 0, 120, .inl k_f)), (a_bb, .inl (G.2 1, 24, .inr (.inl k_bb))), (a_x, .inl (G.2 0, 400, .inl f_x))]) [0, 2, 3, 4, 5, 6] rfl
      have hDc := hD.sub (ws' := [(a_o, .inr (11, [.ref a_h, .ref a_im, .ref a_ke, .ref a_k, .ref a_wa, .ref a_th, .ref a_ha, .ref a_wk, .ref a_r, .ref a_x, .int e_tl, .int e_fd, .int e_fpl, .ref a_wd, .int e_wn, .ref a_rf, .int e_lr])), (a_h, .inr (1, [.long e_wa, .int e_le, .int e_st, .int e_fo, .int e_lc, .ref a_l, .ref a_g, .ref a_b, .ref a_s, .ref a_p, .ref a_w, .long e_gb, .ref a_bb])), (a_b, .inr (6, [.int 5, .int 24, .ref a_bn, .int e_b])), (a_bn, .inl (G.2 0, 120, .inl k_f)), (a_bb, .inl (G.2 1, 24, .inr (.inl k_bb))), (a_x, .inl (G.2 0, 400, .inl f_x))]) [0, 2, 3, 4, 5, 6] (by decide) rfl
      have hFc := va_free (wc := [(a_o, .inr (11, [.ref a_h, .ref a_im, .ref a_ke, .ref a_k, .ref a_wa, .ref a_th, .ref a_ha, .ref a_wk, .ref a_r, .ref a_x, .int e_tl, .int e_fd, .int e_fpl, .ref a_wd, .int e_wn, .ref a_rf, .int e_lr])), (a_h, .inr (1, [.long e_wa, .int e_le, .int e_st, .int e_fo, .int e_lc, .ref a_l, .ref a_g, .ref a_b, .ref a_s, .ref a_p, .ref a_w, .long e_gb, .ref a_bb])), (a_b, .inr (6, [.int 5, .int 24, .ref a_bn, .int e_b])), (a_bn, .inl (G.2 0, 120, .inl k_f)), (a_bb, .inl (G.2 1, 24, .inr (.inl k_bb))), (a_x, .inl (G.2 0, 400, .inl f_x))]) hD hS hA [0, 2, 3, 4, 5, 6] rfl
      refine va_calli (va_runV (As := [.int k_a]) (rest := []) ⟨hx, hb, hml, hown, hts⟩ (x_readStay l G a_o a_h a_b a_bn a_bb a_x a_im a_ke a_k a_wa a_th a_ha a_wk a_r a_wd a_rf a_l a_g a_s a_p a_w H.size e_tl e_fd e_fpl e_wn e_lr e_le e_st e_fo e_lc e_b k_a e_wa e_gb k_f k_bb f_x ⟨by omega, by omega⟩ ⟨by omega, by omega⟩ ⟨by omega, by omega⟩ ⟨by omega, by omega⟩) (cwV 1 hts gV_X11_189 rfl rfl rfl hv_X11_readStay ⟨Nat.le_of_ble_eq_true rfl, Nat.le_of_ble_eq_true rfl⟩) (g5_preV hPc hK hDc hN hT hS hFc (ci := 11) (q0 := 0) rfl rfl) rfl rfl hl.1 rfl (lv_room (Nat.le_of_ble_eq_true rfl)) dX11_row_30 ⟨Nat.le_of_ble_eq_true rfl, Nat.le_of_ble_eq_true rfl⟩) hS (fun q _ h => hFc q h) hFc (fun r u t H1 locs ht hvm hw hB hz1 hk1 hS => ?_)
      obtain ⟨hP1, hD1⟩ := hB
      rw [ht] at hP1
      obtain ⟨z7, z8, z9, i_6, y10, rfl⟩ := hw
      have i_6 : 0 ≤ z7.toInt ∧ z7.toInt ≤ 1 := i_6
      obtain ⟨hP, hD⟩ := va_join (wr := [(a_rf, .inl (G.2 0, 5, .inl f_rf))]) (w1 := [(a_o, .inr (11, [.ref a_h, .ref a_im, .ref a_ke, .ref a_k, .ref a_wa, .ref a_th, .ref a_ha, .ref a_wk, .ref a_r, .ref a_x, .int e_tl, .int e_fd, .int e_fpl, .ref a_wd, .int e_wn, .ref a_rf, .int e_lr])), (a_h, .inr (1, [.long e_wa, .int e_le, .int e_st, .int e_fo, .int e_lc, .ref a_l, .ref a_g, .ref a_b, .ref a_s, .ref a_p, .ref a_w, .long e_gb, .ref a_bb])), (a_b, .inr (6, [.int 5, .int 24, .ref a_bn, .int e_b])), (a_bn, .inl (G.2 0, 120, .inl z8)), (a_bb, .inl (G.2 1, 24, .inr (.inl z9))), (a_x, .inl (G.2 0, 400, .inl f_x))]) hP hD [0, 2, 3, 4, 5, 6] [1] rfl rfl (by decide) (by decide) hk1 hFc hP1 hD1
      generalize H1 = H at hP hS ⊢
      have hP : va_P G.1 vwCl [(a_rf, .inl (G.2 0, 5, .inl f_rf)), (a_o, .inr (11, [.ref a_h, .ref a_im, .ref a_ke, .ref a_k, .ref a_wa, .ref a_th, .ref a_ha, .ref a_wk, .ref a_r, .ref a_x, .int e_tl, .int e_fd, .int e_fpl, .ref a_wd, .int e_wn, .ref a_rf, .int e_lr])), (a_h, .inr (1, [.long e_wa, .int e_le, .int e_st, .int e_fo, .int e_lc, .ref a_l, .ref a_g, .ref a_b, .ref a_s, .ref a_p, .ref a_w, .long e_gb, .ref a_bb])), (a_b, .inr (6, [.int 5, .int 24, .ref a_bn, .int e_b])), (a_bn, .inl (G.2 0, 120, .inl z8)), (a_bb, .inl (G.2 1, 24, .inr (.inl z9))), (a_x, .inl (G.2 0, 400, .inl f_x))] H := hP
      have hD : va_D A [(a_rf, .inl (G.2 0, 5, .inl f_rf)), (a_o, .inr (11, [.ref a_h, .ref a_im, .ref a_ke, .ref a_k, .ref a_wa, .ref a_th, .ref a_ha, .ref a_wk, .ref a_r, .ref a_x, .int e_tl, .int e_fd, .int e_fpl, .ref a_wd, .int e_wn, .ref a_rf, .int e_lr])), (a_h, .inr (1, [.long e_wa, .int e_le, .int e_st, .int e_fo, .int e_lc, .ref a_l, .ref a_g, .ref a_b, .ref a_s, .ref a_p, .ref a_w, .long e_gb, .ref a_bb])), (a_b, .inr (6, [.int 5, .int 24, .ref a_bn, .int e_b])), (a_bn, .inl (G.2 0, 120, .inl z8)), (a_bb, .inl (G.2 1, 24, .inr (.inl z9))), (a_x, .inl (G.2 0, 400, .inl f_x))] := hD
      refine g5_ti (v := z7) y10 ?_
      refine lv_if_eq (tgt := 42) hx hb dX11_row_33 (by decide) (fun c_11 => ?_) (fun c_11 => ?_)
      ·
        have i_11 : z7.toInt = 0 := by have z := g5_eq (a := z7.toInt) (b := 0) (by rfl) (by decide) c_11; omega
        refine lv_iinc (v := (k_c + 1)) (lv' := [(2, .int (k_c + 1)), (1, .int k_b), (3, .int k_a), (0, .ref a_o)]) hx hb dX11_row_42 hl (k := 1) rfl rfl (by decide) rfl (fun ls hl => ?_)
        refine lv_iinc (v := (k_a + 4)) (lv' := [(3, .int (k_a + 4)), (2, .int (k_c + 1)), (1, .int k_b), (0, .ref a_o)]) hx hb dX11_row_45 hl (k := 2) rfl rfl (by decide) rfl (fun ls hl => ?_)
        have t_12 : (k_a + 4).toInt = k_a.toInt + 4 := g5_iadd (a := k_a.toInt) (b := 4) rfl (by decide) (by omega) (by omega)
        refine lv_goto (tgt := 20) hx hb dX11_row_48 (by decide) ?_
        exact ih_20_3 ((k_a + 4), k_b, (k_c + 1), z8, z9) ls H locs (show Int.toNat (404 - (k_a + 4).toInt) < Int.toNat (404 - k_a.toInt) from g_up (show k_a.toInt < (k_a + 4).toInt by omega) (show k_a.toInt < 404 by omega)) ⟨lv_sub hl [2, 1, 0, 3] rfl, hP.sub [1, 0, 2, 3, 4, 5, 6] rfl, hD.sub [1, 0, 2, 3, 4, 5, 6] (by decide) rfl, hS, ⟨by omega, by omega⟩⟩
      ·
        have n_11 : gNe (z7.toInt) (0) := by have z := g5_eqN (a := z7.toInt) (b := 0) (by rfl) (by decide) c_11; unfold gNe; omega
        have i_11 : z7.toInt ≥ 1 := by have z := g5_eqN (a := z7.toInt) (b := 0) (by rfl) (by decide) c_11; omega
        refine lv_iinc (v := (k_b + 1)) (lv' := [(1, .int (k_b + 1)), (2, .int k_c), (3, .int k_a), (0, .ref a_o)]) hx hb dX11_row_36 hl (k := 0) rfl rfl (by decide) rfl (fun ls hl => ?_)
        refine lv_goto (tgt := 45) hx hb dX11_row_39 (by decide) ?_
        refine lv_iinc (v := (k_a + 4)) (lv' := [(3, .int (k_a + 4)), (1, .int (k_b + 1)), (2, .int k_c), (0, .ref a_o)]) hx hb dX11_row_45 hl (k := 2) rfl rfl (by decide) rfl (fun ls hl => ?_)
        have t_13 : (k_a + 4).toInt = k_a.toInt + 4 := g5_iadd (a := k_a.toInt) (b := 4) rfl (by decide) (by omega) (by omega)
        refine lv_goto (tgt := 20) hx hb dX11_row_48 (by decide) ?_
        exact ih_20_3 ((k_a + 4), (k_b + 1), k_c, z8, z9) ls H locs (show Int.toNat (404 - (k_a + 4).toInt) < Int.toNat (404 - k_a.toInt) from g_up (show k_a.toInt < (k_a + 4).toInt by omega) (show k_a.toInt < 404 by omega)) ⟨lv_sub hl [1, 2, 0, 3] rfl, hP.sub [1, 0, 2, 3, 4, 5, 6] rfl, hD.sub [1, 0, 2, 3, 4, 5, 6] (by decide) rfl, hS, ⟨by omega, by omega⟩⟩
  ·
    have i_1 : e_tl.toInt = 0 := by have z := g5_neN (a := e_tl.toInt) (b := 0) (by rfl) (by decide) c_1; omega
    refine lv_aload_n hx hb dX11_row_7 rfl (lv_at hl 0 rfl) ?_
    refine lv_bipush (v := (-6)) hx hb dX11_row_8 (by decide) ?_
    have hPc := hP.sub (ws' := [(a_o, .inr (11, [.ref a_h, .ref a_im, .ref a_ke, .ref a_k, .ref a_wa, .ref a_th, .ref a_ha, .ref a_wk, .ref a_r, .ref a_x, .int e_tl, .int e_fd, .int e_fpl, .ref a_wd, .int e_wn, .ref a_rf, .int e_lr])), (a_rf, .inl (G.2 0, 5, .inl f_rf))]) [0, 1] rfl
    have hDc := hD.sub (ws' := [(a_o, .inr (11, [.ref a_h, .ref a_im, .ref a_ke, .ref a_k, .ref a_wa, .ref a_th, .ref a_ha, .ref a_wk, .ref a_r, .ref a_x, .int e_tl, .int e_fd, .int e_fpl, .ref a_wd, .int e_wn, .ref a_rf, .int e_lr])), (a_rf, .inl (G.2 0, 5, .inl f_rf))]) [0, 1] (by decide) rfl
    have hFc := va_free (wc := [(a_o, .inr (11, [.ref a_h, .ref a_im, .ref a_ke, .ref a_k, .ref a_wa, .ref a_th, .ref a_ha, .ref a_wk, .ref a_r, .ref a_x, .int e_tl, .int e_fd, .int e_fpl, .ref a_wd, .int e_wn, .ref a_rf, .int e_lr])), (a_rf, .inl (G.2 0, 5, .inl f_rf))]) hD hS hA [0, 1] rfl
    refine va_calli (va_runV (As := [.int (-6)]) (rest := []) ⟨hx, hb, hml, hown, hts⟩ (x_refuse6 l G a_o a_rf a_h a_im a_ke a_k a_wa a_th a_ha a_wk a_r a_x a_wd s.heap.size e_tl e_fd e_fpl e_wn e_lr f_rf ⟨by omega, by omega⟩ ⟨by omega, by omega⟩) (cwV 1 hts gV_X11_104 rfl rfl rfl hv_X11_refuse ⟨Nat.le_of_ble_eq_true rfl, Nat.le_of_ble_eq_true rfl⟩) (g5_preV hPc hK hDc hN hT hS hFc (ci := 11) (q0 := 0) rfl rfl) rfl rfl hl.1 rfl (lv_room (Nat.le_of_ble_eq_true rfl)) dX11_row_10 ⟨Nat.le_of_ble_eq_true rfl, Nat.le_of_ble_eq_true rfl⟩) hS (fun q _ h => hFc q h) hFc (fun r u t H1 locs ht hvm hw hB hz1 hk1 hS => ?_)
    obtain ⟨hP1, hD1⟩ := hB
    rw [ht] at hP1
    obtain ⟨z14, rfl, rfl⟩ := hw
    obtain ⟨hP, hD⟩ := va_join (wr := [(a_h, .inr (1, [.long e_wa, .int e_le, .int e_st, .int e_fo, .int e_lc, .ref a_l, .ref a_g, .ref a_b, .ref a_s, .ref a_p, .ref a_w, .long e_gb, .ref a_bb])), (a_b, .inr (6, [.int 5, .int 24, .ref a_bn, .int e_b])), (a_bn, .inl (G.2 0, 120, .inl f_b)), (a_bb, .inl (G.2 1, 24, .inr (.inl f_bb))), (a_x, .inl (G.2 0, 400, .inl f_x))]) (w1 := [(a_o, .inr (11, [.ref a_h, .ref a_im, .ref a_ke, .ref a_k, .ref a_wa, .ref a_th, .ref a_ha, .ref a_wk, .ref a_r, .ref a_x, .int e_tl, .int e_fd, .int e_fpl, .ref a_wd, .int e_wn, .ref a_rf, .int (-6)])), (a_rf, .inl (G.2 0, 5, .inl z14))]) hP hD [0, 1] [2, 3, 4, 5, 6] rfl rfl (by decide) (by decide) hk1 hFc hP1 hD1
    generalize H1 = H at hP hS ⊢
    have hP : va_P G.1 vwCl [(a_h, .inr (1, [.long e_wa, .int e_le, .int e_st, .int e_fo, .int e_lc, .ref a_l, .ref a_g, .ref a_b, .ref a_s, .ref a_p, .ref a_w, .long e_gb, .ref a_bb])), (a_b, .inr (6, [.int 5, .int 24, .ref a_bn, .int e_b])), (a_bn, .inl (G.2 0, 120, .inl f_b)), (a_bb, .inl (G.2 1, 24, .inr (.inl f_bb))), (a_x, .inl (G.2 0, 400, .inl f_x)), (a_o, .inr (11, [.ref a_h, .ref a_im, .ref a_ke, .ref a_k, .ref a_wa, .ref a_th, .ref a_ha, .ref a_wk, .ref a_r, .ref a_x, .int e_tl, .int e_fd, .int e_fpl, .ref a_wd, .int e_wn, .ref a_rf, .int (-6)])), (a_rf, .inl (G.2 0, 5, .inl z14))] H := hP
    have hD : va_D A [(a_h, .inr (1, [.long e_wa, .int e_le, .int e_st, .int e_fo, .int e_lc, .ref a_l, .ref a_g, .ref a_b, .ref a_s, .ref a_p, .ref a_w, .long e_gb, .ref a_bb])), (a_b, .inr (6, [.int 5, .int 24, .ref a_bn, .int e_b])), (a_bn, .inl (G.2 0, 120, .inl f_b)), (a_bb, .inl (G.2 1, 24, .inr (.inl f_bb))), (a_x, .inl (G.2 0, 400, .inl f_x)), (a_o, .inr (11, [.ref a_h, .ref a_im, .ref a_ke, .ref a_k, .ref a_wa, .ref a_th, .ref a_ha, .ref a_wk, .ref a_r, .ref a_x, .int e_tl, .int e_fd, .int e_fpl, .ref a_wd, .int e_wn, .ref a_rf, .int (-6)])), (a_rf, .inl (G.2 0, 5, .inl z14))] := hD
    exact W.iret (v := (-6)) hx hb hr (fun t ht hW => ⟨⟨(-6), [(a_o, .inr (11, [.ref a_h, .ref a_im, .ref a_ke, .ref a_k, .ref a_wa, .ref a_th, .ref a_ha, .ref a_wk, .ref a_r, .ref a_x, .int e_tl, .int e_fd, .int e_fpl, .ref a_wd, .int e_wn, .ref a_rf, .int (-6)])), (a_rf, .inl (G.2 0, 5, .inl z14)), (a_h, .inr (1, [.long e_wa, .int e_le, .int e_st, .int e_fo, .int e_lc, .ref a_l, .ref a_g, .ref a_b, .ref a_s, .ref a_p, .ref a_w, .long e_gb, .ref a_bb])), (a_b, .inr (6, [.int 5, .int 24, .ref a_bn, .int e_b])), (a_bn, .inl (G.2 0, 120, .inl f_b)), (a_bb, .inl (G.2 1, 24, .inr (.inl f_bb))), (a_x, .inl (G.2 0, 400, .inl f_x))], rfl, Or.inr (⟨z14, by omega, rfl, rfl⟩), by rw [ht]; exact hP.sub [5, 6, 0, 1, 2, 3, 4] rfl, hD.sub [5, 6, 0, 1, 2, 3, 4] (by decide) rfl⟩, hS.F ht⟩) hS.2.2 dX11_row_13
theorem dX11_sighting_0 : decode cX11_sighting 0 = .ok (.iload_n 1, 1) := by decide +kernel
theorem dX11_sighting_1 : decode cX11_sighting 1 = .ok (.iload_n 2, 1) := by decide +kernel
theorem dX11_sighting_2 : decode cX11_sighting 2 = .ok (.iload_n 3, 1) := by decide +kernel
theorem dX11_sighting_3 : decode cX11_sighting 3 = .ok (.invokestatic 207, 3) := by decide +kernel
theorem dX11_sighting_6 : decode cX11_sighting 6 = .ok (.ifCond .eq 11, 3) := by decide +kernel
theorem dX11_sighting_9 : decode cX11_sighting 9 = .ok (.iload 4, 2) := by decide +kernel
theorem dX11_sighting_11 : decode cX11_sighting 11 = .ok (.invokestatic 101, 3) := by decide +kernel
theorem dX11_sighting_14 : decode cX11_sighting 14 = .ok (.ifCond .ne 9, 3) := by decide +kernel
theorem dX11_sighting_17 : decode cX11_sighting 17 = .ok (.aload_n 0, 1) := by decide +kernel
theorem dX11_sighting_18 : decode cX11_sighting 18 = .ok (.iconst (-1), 1) := by decide +kernel
theorem dX11_sighting_19 : decode cX11_sighting 19 = .ok (.invokevirtual 104, 3) := by decide +kernel
theorem dX11_sighting_22 : decode cX11_sighting 22 = .ok (.ireturn, 1) := by decide +kernel
theorem dX11_sighting_23 : decode cX11_sighting 23 = .ok (.aload_n 0, 1) := by decide +kernel
theorem dX11_sighting_24 : decode cX11_sighting 24 = .ok (.getfield 12, 3) := by decide +kernel
theorem dX11_sighting_27 : decode cX11_sighting 27 = .ok (.getfield 261, 3) := by decide +kernel
theorem dX11_sighting_30 : decode cX11_sighting 30 = .ok (.invokevirtual 140, 3) := by decide +kernel
theorem dX11_sighting_33 : decode cX11_sighting 33 = .ok (.ifCond .ne 20, 3) := by decide +kernel
theorem dX11_sighting_36 : decode cX11_sighting 36 = .ok (.iload 4, 2) := by decide +kernel
theorem dX11_sighting_38 : decode cX11_sighting 38 = .ok (.iconst 1, 1) := by decide +kernel
theorem dX11_sighting_39 : decode cX11_sighting 39 = .ok (.if_icmp .ne 21, 3) := by decide +kernel
theorem dX11_sighting_42 : decode cX11_sighting 42 = .ok (.aload_n 0, 1) := by decide +kernel
theorem dX11_sighting_43 : decode cX11_sighting 43 = .ok (.getfield 12, 3) := by decide +kernel
theorem dX11_sighting_46 : decode cX11_sighting 46 = .ok (.invokevirtual 264, 3) := by decide +kernel
theorem dX11_sighting_49 : decode cX11_sighting 49 = .ok (.iconst 5, 1) := by decide +kernel
theorem dX11_sighting_50 : decode cX11_sighting 50 = .ok (.if_icmp .lt 10, 3) := by decide +kernel
theorem dX11_sighting_53 : decode cX11_sighting 53 = .ok (.aload_n 0, 1) := by decide +kernel
theorem dX11_sighting_54 : decode cX11_sighting 54 = .ok (.bipush (-5), 2) := by decide +kernel
theorem dX11_sighting_56 : decode cX11_sighting 56 = .ok (.invokevirtual 104, 3) := by decide +kernel
theorem dX11_sighting_59 : decode cX11_sighting 59 = .ok (.ireturn, 1) := by decide +kernel
theorem dX11_sighting_60 : decode cX11_sighting 60 = .ok (.aload_n 0, 1) := by decide +kernel
theorem dX11_sighting_61 : decode cX11_sighting 61 = .ok (.getfield 12, 3) := by decide +kernel
theorem dX11_sighting_64 : decode cX11_sighting 64 = .ok (.getfield 261, 3) := by decide +kernel
theorem dX11_sighting_67 : decode cX11_sighting 67 = .ok (.iconst 0, 1) := by decide +kernel
theorem dX11_sighting_68 : decode cX11_sighting 68 = .ok (.invokevirtual 146, 3) := by decide +kernel
theorem dX11_sighting_71 : decode cX11_sighting 71 = .ok (.istore 5, 2) := by decide +kernel
theorem dX11_sighting_73 : decode cX11_sighting 73 = .ok (.aload_n 0, 1) := by decide +kernel
theorem dX11_sighting_74 : decode cX11_sighting 74 = .ok (.getfield 12, 3) := by decide +kernel
theorem dX11_sighting_77 : decode cX11_sighting 77 = .ok (.getfield 261, 3) := by decide +kernel
theorem dX11_sighting_80 : decode cX11_sighting 80 = .ok (.iload 5, 2) := by decide +kernel
theorem dX11_sighting_82 : decode cX11_sighting 82 = .ok (.iload_n 1, 1) := by decide +kernel
theorem dX11_sighting_83 : decode cX11_sighting 83 = .ok (.iload_n 2, 1) := by decide +kernel
theorem dX11_sighting_84 : decode cX11_sighting 84 = .ok (.iload_n 3, 1) := by decide +kernel
theorem dX11_sighting_85 : decode cX11_sighting 85 = .ok (.invokevirtual 268, 3) := by decide +kernel
theorem dX11_sighting_88 : decode cX11_sighting 88 = .ok (.aload_n 0, 1) := by decide +kernel
theorem dX11_sighting_89 : decode cX11_sighting 89 = .ok (.getfield 12, 3) := by decide +kernel
theorem dX11_sighting_92 : decode cX11_sighting 92 = .ok (.getfield 261, 3) := by decide +kernel
theorem dX11_sighting_95 : decode cX11_sighting 95 = .ok (.iload 5, 2) := by decide +kernel
theorem dX11_sighting_97 : decode cX11_sighting 97 = .ok (.iconst 3, 1) := by decide +kernel
theorem dX11_sighting_98 : decode cX11_sighting 98 = .ok (.iload 4, 2) := by decide +kernel
theorem dX11_sighting_100 : decode cX11_sighting 100 = .ok (.invokevirtual 149, 3) := by decide +kernel
theorem dX11_sighting_103 : decode cX11_sighting 103 = .ok (.aload_n 0, 1) := by decide +kernel
theorem dX11_sighting_104 : decode cX11_sighting 104 = .ok (.aload_n 0, 1) := by decide +kernel
theorem dX11_sighting_105 : decode cX11_sighting 105 = .ok (.getfield 12, 3) := by decide +kernel
theorem dX11_sighting_108 : decode cX11_sighting 108 = .ok (.getfield 261, 3) := by decide +kernel
theorem dX11_sighting_111 : decode cX11_sighting 111 = .ok (.getfield 238, 3) := by decide +kernel
theorem dX11_sighting_114 : decode cX11_sighting 114 = .ok (.invokevirtual 121, 3) := by decide +kernel
theorem dX11_sighting_117 : decode cX11_sighting 117 = .ok (.ireturn, 1) := by decide +kernel
theorem ml_X11_207 : Cond.methodLink RX11 207 yX11_isLook ∈ tblG := tg 808 (by decide +kernel) (by decide +kernel)
theorem gS_X11_207 : GoodIn tblG (va_wsS RX11 207 yX11_isLook (wsG yX11_isLook cX11_isLook 3 (some .boolean))) := tgS ml_X11_207 st_X11_isLook ini_X11 gW_X11_isLook
theorem fl_X11_261 : Cond.fieldLink RX11 261 "LateGlass$House" "sightings" "LLateGlass$Table;" ∈ tblG := tg 180 (by decide +kernel) (by decide +kernel)
theorem ml_X11_268 : Cond.methodLink RX11 268 yX6_setLook ∈ tblG := tg 934 (by decide +kernel) (by decide +kernel)
theorem im_X6_setLook : Cond.instanceMethod yX6_setLook ∈ tblG := tg 935 (by decide +kernel) (by decide +kernel)
theorem se_X6_setLook : Cond.selects RX6 yX6_setLook yX6_setLook ∈ tblG := tg 936 (by decide +kernel) (by decide +kernel)
theorem cd_X6_setLook : Cond.code yX6_setLook cX6_setLook 5 none ∈ tblG := tg 937 (by decide +kernel) (by decide +kernel)
theorem gW_X6_setLook : GoodIn tblG (wsG yX6_setLook cX6_setLook 5 none) := tgi cd_X6_setLook
theorem gV_X11_268 : GoodIn tblG (wsV RX11 268 RX6 yX6_setLook (wsG yX6_setLook cX6_setLook 5 none)) := tgV ml_X11_268 im_X6_setLook se_X6_setLook ini_X6 gW_X6_setLook
theorem hv_X6_setLook : yX6_setLook.cls = RX6 ∧ yX6_setLook.cls ≠ "java/lang/invoke/MethodHandle" ∧ yX6_setLook.cls ≠ "java/lang/invoke/VarHandle" ∧ (parseMethodDescriptor yX6_setLook.desc).map (fun d => d.parameters.length) = some 4 := by decide +kernel
theorem fl_X11_238 : Cond.fieldLink RX11 238 "LateGlass$Table" "rows" "I" ∈ tblG := tg 142 (by decide +kernel) (by decide +kernel)
theorem ml_X11_264 : Cond.methodLink RX11 264 yX1_countSeen ∈ tblG := tg 930 (by decide +kernel) (by decide +kernel)
theorem im_X1_countSeen : Cond.instanceMethod yX1_countSeen ∈ tblG := tg 931 (by decide +kernel) (by decide +kernel)
theorem se_X1_countSeen : Cond.selects RX1 yX1_countSeen yX1_countSeen ∈ tblG := tg 932 (by decide +kernel) (by decide +kernel)
theorem cd_X1_countSeen : Cond.code yX1_countSeen cX1_countSeen 3 (some .int) ∈ tblG := tg 933 (by decide +kernel) (by decide +kernel)
theorem gW_X1_countSeen : GoodIn tblG (wsG yX1_countSeen cX1_countSeen 3 (some .int)) := tgi cd_X1_countSeen
theorem gV_X11_264 : GoodIn tblG (wsV RX11 264 RX1 yX1_countSeen (wsG yX1_countSeen cX1_countSeen 3 (some .int))) := tgV ml_X11_264 im_X1_countSeen se_X1_countSeen ini_X1 gW_X1_countSeen
theorem hv_X1_countSeen : yX1_countSeen.cls = RX1 ∧ yX1_countSeen.cls ≠ "java/lang/invoke/MethodHandle" ∧ yX1_countSeen.cls ≠ "java/lang/invoke/VarHandle" ∧ (parseMethodDescriptor yX1_countSeen.desc).map (fun d => d.parameters.length) = some 0 := by decide +kernel
