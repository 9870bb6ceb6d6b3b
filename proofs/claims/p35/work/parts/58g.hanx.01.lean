set_option maxHeartbeats 4000000 in
set_option maxRecDepth 100000 in
theorem k_meetSpotXN (l : Launch) (G : g5_G) (a_k a_h a_g a_gn a_p a_pn a_j a_as a_sk a_l a_pt a_b a_s a_w a_bb : Nat) (sz : Nat) (e_ln : Int32) (e_se : Int32) (e_lh : Int32) (e_br : Int32) (e_we : Int32) (e_me : Int32) (e_ce : Int32) (e_wy : Int32) (e_ho : Int32) (e_ov : Int32) (e_le : Int32) (e_st : Int32) (e_fo : Int32) (e_lc : Int32) (e_g : Int32) (e_p : Int32) (g_h : Int32) (e_wa : Int64) (e_gb : Int64) (g_b : Int64) (f_g : Nat → Int32) (f_p : Nat → Int32) (f_as : Nat → Int32) (f_sk : Nat → Int64) (f_l : Nat → Option Nat) (f_ro : Nat → Int32) (g_w : Option (List CLT)) (h_e_br : 0 ≤ e_br.toInt ∧ e_br.toInt ≤ 1000000) (h_e_ce : 0 ≤ e_ce.toInt ∧ e_ce.toInt ≤ 63) (h_e_wy : 0 ≤ e_wy.toInt ∧ e_wy.toInt ≤ 3) (h_e_ho : 0 ≤ e_ho.toInt ∧ e_ho.toInt ≤ 23) (h_e_ov : 0 ≤ e_ov.toInt ∧ e_ov.toInt ≤ 1) (h_e_g : 0 ≤ e_g.toInt ∧ e_g.toInt ≤ 6) (h_e_p : 0 ≤ e_p.toInt ∧ e_p.toInt ≤ 8) (e_f : e_fo.toInt < 0 ∨ e_lc.toInt ≤ e_fo.toInt) (e_w : g_w = none) (e_pk : gOK f_p e_p.toInt) (e_qg : QG e_g f_g e_gb f_ro) (e_qp : QP e_p f_p f_ro) (e_of : onB e_gb e_ce.toInt = false) (e_hu : HUB g_b f_p e_p.toInt g_h e_p.toInt) (e_on : onB g_b e_ce.toInt = true) (e_f4 : f_ro 4 = e_le) : Met l yX5_meetGlass (wsG yX5_meetGlass cX5_meetGlass 9 none) ({ frames := 2, cells := 0, slots := 0, locals := 45 }) (va_Pc [.ref a_k] (g5_P G [(a_k, (oc5 a_h a_j a_pt e_ln e_se e_lh e_br e_we e_me e_ce e_wy e_ho e_ov)), (a_h, (oc1 e_wa e_le e_st e_fo e_lc a_l a_g a_b a_s a_p a_w e_gb a_bb)), (a_g, (oc6 6 5 a_gn e_g)), (a_gn, (arI G 30 f_g)), (a_p, (oc6 8 5 a_pn e_p)), (a_pn, (arI G 40 f_p)), (a_j, (oc2 a_as a_sk)), (a_as, (arI G 8 f_as)), (a_sk, (arJ G 50 f_sk)), (a_l, (arW G 6 f_l))] sz)) (va_Qv (fun (u : va_W) => (∃ (o_b : Int32) (o_m : Int32) (o_a : Nat → Int32) (o_k : Nat → Int64), (0 ≤ o_b.toInt ∧ o_b.toInt ≤ 1000000) ∧ ((meetF f_ro g_w g_h e_ce e_wy e_ho e_br e_we e_ln).1 = false ∧ (meetF f_ro g_w g_h e_ce e_wy e_ho e_br e_we e_ln).2.2.2.1 = o_b ∧ (meetF f_ro g_w g_h e_ce e_wy e_ho e_br e_we e_ln).2.2.2.2 = e_we) ∧ (u = [(a_k, (oc5 a_h a_j a_pt e_ln e_se e_lh o_b e_we o_m e_ce e_wy e_ho 1)), (a_h, (oc1 e_wa e_le e_st e_fo e_lc a_l a_g a_b a_s a_p a_w e_gb a_bb)), (a_g, (oc6 6 5 a_gn e_g)), (a_gn, (arI G 30 f_g)), (a_p, (oc6 8 5 a_pn e_p)), (a_pn, (arI G 40 f_p)), (a_j, (oc2 a_as a_sk)), (a_as, (arI G 8 o_a)), (a_sk, (arJ G 50 o_k)), (a_l, (arW G 6 f_l))])) ∨ (∃ (o_b : Int32) (o_w : Int32) (o_m : Int32) (o_y : Int32) (o_h : Int32) (o_a : Nat → Int32) (o_k : Nat → Int64), (0 ≤ o_b.toInt ∧ o_b.toInt ≤ 1000000) ∧ (0 ≤ o_y.toInt ∧ o_y.toInt ≤ 3) ∧ (0 ≤ o_h.toInt ∧ o_h.toInt ≤ 23) ∧ (meetF f_ro g_w g_h e_ce e_wy e_ho e_br e_we e_ln = (true, o_y, o_h, o_b, o_w)) ∧ (u = [(a_k, (oc5 a_h a_j a_pt e_ln e_se e_lh o_b o_w o_m e_ce o_y o_h 0)), (a_h, (oc1 e_wa e_le e_st e_fo e_lc a_l a_g a_b a_s a_p a_w e_gb a_bb)), (a_g, (oc6 6 5 a_gn e_g)), (a_gn, (arI G 30 f_g)), (a_p, (oc6 8 5 a_pn e_p)), (a_pn, (arI G 40 f_p)), (a_j, (oc2 a_as a_sk)), (a_as, (arI G 8 o_a)), (a_sk, (arJ G 50 o_k)), (a_l, (arW G 6 f_l))]))) (g5_B G (va_A [(a_k, (oc5 a_h a_j a_pt e_ln e_se e_lh e_br e_we e_me e_ce e_wy e_ho e_ov)), (a_h, (oc1 e_wa e_le e_st e_fo e_lc a_l a_g a_b a_s a_p a_w e_gb a_bb)), (a_g, (oc6 6 5 a_gn e_g)), (a_gn, (arI G 30 f_g)), (a_p, (oc6 8 5 a_pn e_p)), (a_pn, (arI G 40 f_p)), (a_j, (oc2 a_as a_sk)), (a_as, (arI G 8 f_as)), (a_sk, (arJ G 50 f_sk)), (a_l, (arW G 6 f_l))] sz)) (va_A [(a_k, (oc5 a_h a_j a_pt e_ln e_se e_lh e_br e_we e_me e_ce e_wy e_ho e_ov)), (a_h, (oc1 e_wa e_le e_st e_fo e_lc a_l a_g a_b a_s a_p a_w e_gb a_bb)), (a_g, (oc6 6 5 a_gn e_g)), (a_gn, (arI G 30 f_g)), (a_p, (oc6 8 5 a_pn e_p)), (a_pn, (arI G 40 f_p)), (a_j, (oc2 a_as a_sk)), (a_as, (arI G 8 f_as)), (a_sk, (arJ G 50 f_sk)), (a_l, (arW G 6 f_l))] sz)) 0 0 (va_A [(a_k, (oc5 a_h a_j a_pt e_ln e_se e_lh e_br e_we e_me e_ce e_wy e_ho e_ov)), (a_h, (oc1 e_wa e_le e_st e_fo e_lc a_l a_g a_b a_s a_p a_w e_gb a_bb)), (a_g, (oc6 6 5 a_gn e_g)), (a_gn, (arI G 30 f_g)), (a_p, (oc6 8 5 a_pn e_p)), (a_pn, (arI G 40 f_p)), (a_j, (oc2 a_as a_sk)), (a_as, (arI G 8 f_as)), (a_sk, (arJ G 50 f_sk)), (a_l, (arW G 6 f_l))] sz) := by
  refine Met.ofW (cc := cX5_meetGlass) (maxL := 9) (ret := none) (by decide +kernel) rfl ?_
  intro p e s m args below meth c s₁ B hml hv
  obtain ⟨rfl, hsz, hP, hK, hD0, hN, hT⟩ := hv
  have hx := B.exec
  have hb := B.bytes
  have hr := B.returns
  have hts : ∀ w ∈ tblG, w.before _ s = true := fun w h => atoms_spec (ws := (wsG yX5_meetGlass cX5_meetGlass 9 none)) B.pre w (List.mem_cons_of_mem _ h)
  have hown : s.vm.findClass RX5 = some m.cls := findClass_of_methodNamed B.named
  have hlocks := B.notSynchronized
  subst hsz
  have hD := hD0.self (sz := s.heap.size)
  generalize hAe : va_A [(a_k, (oc5 a_h a_j a_pt e_ln e_se e_lh e_br e_we e_me e_ce e_wy e_ho e_ov)), (a_h, (oc1 e_wa e_le e_st e_fo e_lc a_l a_g a_b a_s a_p a_w e_gb a_bb)), (a_g, (oc6 6 5 a_gn e_g)), (a_gn, (arI G 30 f_g)), (a_p, (oc6 8 5 a_pn e_p)), (a_pn, (arI G 40 f_p)), (a_j, (oc2 a_as a_sk)), (a_as, (arI G 8 f_as)), (a_sk, (arJ G 50 f_sk)), (a_l, (arW G 6 f_l))] s.heap.size = A at hD hT ⊢
  have hA : ∀ q : Nat, s.heap.size ≤ q → A q := fun q h => by rw [← hAe]; exact Or.inr h
  have hS : va_S A s.heap s.heap [] := va_S.rf
  replace hP : va_P G.1 vwCl [(a_k, (oc5 a_h a_j a_pt e_ln e_se e_lh e_br e_we e_me e_ce e_wy e_ho e_ov)), (a_h, (oc1 e_wa e_le e_st e_fo e_lc a_l a_g a_b a_s a_p a_w e_gb a_bb)), (a_g, (oc6 6 5 a_gn e_g)), (a_gn, (arI G 30 f_g)), (a_p, (oc6 8 5 a_pn e_p)), (a_pn, (arI G 40 f_p)), (a_j, (oc2 a_as a_sk)), (a_as, (arI G 8 f_as)), (a_sk, (arJ G 50 f_sk)), (a_l, (arW G 6 f_l))] s.heap := hP
  have hl := lv_entry ([.ref a_k]) (n := 9) (Nat.le_of_ble_eq_true rfl)
  rw [lg_entry_eq]
  generalize (lg_sl ([.ref a_k]) ++ List.replicate (9 - (lg_sl ([.ref a_k])).length) Slot.unset).toArray = ls at hl ⊢
  replace hl : lv_has ls 9 [(0, .ref a_k)] := hl
  refine lv_aload_n hx hb dX5_meetGlass_0 rfl (lv_at hl 0 rfl) ?_
  refine lv_iconst (v := 1) hx hb dX5_meetGlass_1 (by decide +kernel) ?_
  refine va_put (D := G.1) (ci := 5) (v := .int 1) (ty := .boolean) (C := RX5) (T := TX5) (N := 13) hx hb hts inG_X5 tyX5 tyX5_ok nmX5 hown hK hP hD hS 0 rfl rfl 12 (by decide +kernel) (hts _ fl_X5_56) (fun _ h9 => h9) rfl (by decide +kernel) rfl rfl (Nat.le_of_ble_eq_true rfl) dX5_meetGlass_2 ?_
  clear hP hD hS
  intro H locs hP hD hS
  refine g5_rs [(a_k, (oc5 a_h a_j a_pt e_ln e_se e_lh e_br e_we e_me e_ce e_wy e_ho 1)), (a_h, (oc1 e_wa e_le e_st e_fo e_lc a_l a_g a_b a_s a_p a_w e_gb a_bb)), (a_g, (oc6 6 5 a_gn e_g)), (a_gn, (arI G 30 f_g)), (a_p, (oc6 8 5 a_pn e_p)), (a_pn, (arI G 40 f_p)), (a_j, (oc2 a_as a_sk)), (a_as, (arI G 8 f_as)), (a_sk, (arJ G 50 f_sk)), (a_l, (arW G 6 f_l))] hP hD ?_
  clear hP hD
  intro hP hD
  refine lv_aload_n hx hb dX5_meetGlass_5 rfl (lv_at hl 0 rfl) ?_
  refine W.eq (g2 := F0 m 6 ls [.ref a_k]) rfl ?_
  refine va_get (D := G.1) (ci := 5) (v := .ref a_h) (C := RX5) (T := TX5) (N := 13) hx hb hts inG_X5 hown hK hP 0 rfl rfl 0 (by decide +kernel) (hts _ fl_X5_22) (fun _ h9 => h9) rfl dX5_meetGlass_6 ?_
  refine va_get (D := G.1) (ci := 1) (v := .ref a_g) (C := RX1) (T := TX1) (N := 13) hx hb hts inG_X1 hown hK hP 1 rfl rfl 6 (by decide +kernel) (hts _ fl_X5_128) (fun _ h9 => h9) rfl dX5_meetGlass_9 ?_
  refine lv_iconst (v := 0) hx hb dX5_meetGlass_12 (by decide +kernel) ?_
  refine lv_aload_n hx hb dX5_meetGlass_13 rfl (lv_at hl 0 rfl) ?_
  refine va_get (D := G.1) (ci := 5) (v := .int e_ce) (C := RX5) (T := TX5) (N := 13) hx hb hts inG_X5 hown hK hP 0 rfl rfl 9 (by decide +kernel) (hts _ fl_X5_26) (fun _ h9 => h9) rfl dX5_meetGlass_14 ?_
  refine W.eq (g2 := F0 m 17 ls [.int e_ce, .int 0, .ref a_g]) rfl ?_
  obtain ⟨hPc, hDc, hFc⟩ := g5_sub3 (wc := [(a_g, (oc6 6 5 a_gn e_g)), (a_gn, (arI G 30 f_g))]) hP hD hS hA [2, 3] (by decide +kernel) rfl
  refine va_calli (va_runV (As := [.int 0, .int e_ce]) (rest := []) ⟨hx, hb, hml, hown, hts⟩ (t_findX_G l G a_g a_gn H.size e_g 0 e_ce f_g h_e_g) (cwV 2 hts gV_X5_131 rfl rfl rfl hv_X6_find ⟨Nat.le_of_ble_eq_true rfl, Nat.le_of_ble_eq_true rfl⟩) (g5_preV hPc hK hDc hN hT hS hFc (ci := 6) (q0 := 0) rfl rfl) rfl rfl hl.1 rfl (lv_room (Nat.le_of_ble_eq_true rfl)) dX5_meetGlass_17 ⟨Nat.le_of_ble_eq_true rfl, Nat.le_of_ble_eq_true rfl⟩) hS (fun q _ h => hFc q h) hFc (fun r u t H locs ht hvm hw hB hz1 hk1 hS => ?_)
  obtain ⟨hP1, hD1⟩ := hB
  have hP1 := g5_ht ht hP1
  rcases hw with ⟨(i_1 : ∀ r : Int, 0 ≤ r → r < e_g.toInt → tget f_g e_g.toInt 5 r (0 : Int32).toInt ≠ e_ce), rfl, rfl⟩ | ⟨z5, i_2, i_3, i_4, y6, rfl⟩
  ·
    have hJ9 := va_join (wr := [(a_k, (oc5 a_h a_j a_pt e_ln e_se e_lh e_br e_we e_me e_ce e_wy e_ho 1)), (a_h, (oc1 e_wa e_le e_st e_fo e_lc a_l a_g a_b a_s a_p a_w e_gb a_bb)), (a_p, (oc6 8 5 a_pn e_p)), (a_pn, (arI G 40 f_p)), (a_j, (oc2 a_as a_sk)), (a_as, (arI G 8 f_as)), (a_sk, (arJ G 50 f_sk)), (a_l, (arW G 6 f_l))]) hP hD [2, 3] [0, 1, 4, 5, 6, 7, 8, 9] rfl rfl (by decide +kernel) (by decide +kernel) hk1 hFc hP1 hD1
    clear hP hD hPc hDc hFc ht hvm hz1 hk1 hP1 hD1
    obtain ⟨hP, hD⟩ := hJ9
    refine g5_rs [(a_k, (oc5 a_h a_j a_pt e_ln e_se e_lh e_br e_we e_me e_ce e_wy e_ho 1)), (a_h, (oc1 e_wa e_le e_st e_fo e_lc a_l a_g a_b a_s a_p a_w e_gb a_bb)), (a_p, (oc6 8 5 a_pn e_p)), (a_pn, (arI G 40 f_p)), (a_j, (oc2 a_as a_sk)), (a_as, (arI G 8 f_as)), (a_sk, (arJ G 50 f_sk)), (a_l, (arW G 6 f_l)), (a_g, (oc6 6 5 a_gn e_g)), (a_gn, (arI G 30 f_g))] hP hD ?_
    clear hP hD
    intro hP hD
    refine lv_istore_n (lv' := [(1, .int (-1)), (0, .ref a_k)]) hx hb dX5_meetGlass_20 rfl hl (by decide +kernel) rfl ?_
    clear hl
    intro ls hl
    refine lv_iload_n hx hb dX5_meetGlass_21 rfl (lv_at hl 0 rfl) ?_
    refine lv_iconst (v := (-1)) hx hb dX5_meetGlass_22 (by decide +kernel) ?_
    refine lv_icmp_ne (tgt := 36) hx hb dX5_meetGlass_23 (by decide +kernel) (fun c_7 => ?_) (fun c_7 => ?_)
    ·
      exact absurd c_7 (by decide +kernel)
    ·
      have hGF := find_gn e_qg i_1
      refine lv_aload_n hx hb dX5_meetGlass_26 rfl (lv_at hl 1 rfl) ?_
      refine va_get (D := G.1) (ci := 5) (v := .ref a_h) (C := RX5) (T := TX5) (N := 13) hx hb hts inG_X5 hown hK hP 0 rfl rfl 0 (by decide +kernel) (hts _ fl_X5_22) (fun _ h9 => h9) rfl dX5_meetGlass_27 ?_
      refine va_get (D := G.1) (ci := 1) (v := .ref a_p) (C := RX1) (T := TX1) (N := 13) hx hb hts inG_X1 hown hK hP 1 rfl rfl 9 (by decide +kernel) (hts _ fl_X5_98) (fun _ h9 => h9) rfl dX5_meetGlass_30 ?_
      refine lv_goto (tgt := 43) hx hb dX5_meetGlass_33 (by decide +kernel) ?_
      refine W.eq (g2 := F0 m 43 ls [.ref a_p]) rfl ?_
      refine lv_astore_n (lv' := [(2, .ref a_p), (1, .int (-1)), (0, .ref a_k)]) hx hb dX5_meetGlass_43 rfl hl (by decide +kernel) rfl ?_
      clear hl
      intro ls hl
      refine lv_iload_n hx hb dX5_meetGlass_44 rfl (lv_at hl 1 rfl) ?_
      refine lv_iconst (v := (-1)) hx hb dX5_meetGlass_45 (by decide +kernel) ?_
      refine lv_icmp_ne (tgt := 67) hx hb dX5_meetGlass_46 (by decide +kernel) (fun c_8 => ?_) (fun c_8 => ?_)
      ·
        exact absurd c_8 (by decide +kernel)
      ·
        refine lv_aload_n hx hb dX5_meetGlass_49 rfl (lv_at hl 2 rfl) ?_
        refine va_get (D := G.1) (ci := 5) (v := .ref a_h) (C := RX5) (T := TX5) (N := 13) hx hb hts inG_X5 hown hK hP 0 rfl rfl 0 (by decide +kernel) (hts _ fl_X5_22) (fun _ h9 => h9) rfl dX5_meetGlass_50 ?_
        refine va_get (D := G.1) (ci := 1) (v := .ref a_p) (C := RX1) (T := TX1) (N := 13) hx hb hts inG_X1 hown hK hP 1 rfl rfl 9 (by decide +kernel) (hts _ fl_X5_98) (fun _ h9 => h9) rfl dX5_meetGlass_53 ?_
        refine lv_iconst (v := 0) hx hb dX5_meetGlass_56 (by decide +kernel) ?_
        refine W.eq (g2 := F0 m 57 ls [.int 0, .ref a_p]) rfl ?_
        refine lv_aload_n hx hb dX5_meetGlass_57 rfl (lv_at hl 2 rfl) ?_
        refine va_get (D := G.1) (ci := 5) (v := .int e_ce) (C := RX5) (T := TX5) (N := 13) hx hb hts inG_X5 hown hK hP 0 rfl rfl 9 (by decide +kernel) (hts _ fl_X5_26) (fun _ h9 => h9) rfl dX5_meetGlass_58 ?_
        obtain ⟨hPc, hDc, hFc⟩ := g5_sub3 (wc := [(a_p, (oc6 8 5 a_pn e_p)), (a_pn, (arI G 40 f_p))]) hP hD hS hA [2, 3] (by decide +kernel) rfl
        refine va_calli (va_runV (As := [.int 0, .int e_ce]) (rest := []) ⟨hx, hb, hml, hown, hts⟩ (t_findX_P l G a_p a_pn H.size e_p 0 e_ce f_p h_e_p) (cwV 2 hts gV_X5_131 rfl rfl rfl hv_X6_find ⟨Nat.le_of_ble_eq_true rfl, Nat.le_of_ble_eq_true rfl⟩) (g5_preV hPc hK hDc hN hT hS hFc (ci := 6) (q0 := 0) rfl rfl) rfl rfl hl.1 rfl (lv_room (Nat.le_of_ble_eq_true rfl)) dX5_meetGlass_61 ⟨Nat.le_of_ble_eq_true rfl, Nat.le_of_ble_eq_true rfl⟩) hS (fun q _ h => hFc q h) hFc (fun r u t H locs ht hvm hw hB hz1 hk1 hS => ?_)
        obtain ⟨hP1, hD1⟩ := hB
        have hP1 := g5_ht ht hP1
        rcases hw with ⟨(i_9 : ∀ r : Int, 0 ≤ r → r < e_p.toInt → tget f_p e_p.toInt 5 r (0 : Int32).toInt ≠ e_ce), rfl, rfl⟩ | ⟨z13, (i_10 : 0 ≤ z13.toInt ∧ z13.toInt < e_p.toInt), (i_11 : tget f_p e_p.toInt 5 z13.toInt (0 : Int32).toInt = e_ce), (i_12 : ∀ r : Int, 0 ≤ r → r < z13.toInt → tget f_p e_p.toInt 5 r (0 : Int32).toInt ≠ e_ce), y14, rfl⟩
        ·
          have hJ9 := va_join (wr := [(a_k, (oc5 a_h a_j a_pt e_ln e_se e_lh e_br e_we e_me e_ce e_wy e_ho 1)), (a_h, (oc1 e_wa e_le e_st e_fo e_lc a_l a_g a_b a_s a_p a_w e_gb a_bb)), (a_j, (oc2 a_as a_sk)), (a_as, (arI G 8 f_as)), (a_sk, (arJ G 50 f_sk)), (a_l, (arW G 6 f_l)), (a_g, (oc6 6 5 a_gn e_g)), (a_gn, (arI G 30 f_g))]) hP hD [2, 3] [0, 1, 4, 5, 6, 7, 8, 9] rfl rfl (by decide +kernel) (by decide +kernel) hk1 hFc hP1 hD1
          clear hP hD hPc hDc hFc ht hvm hz1 hk1 hP1 hD1
          obtain ⟨hP, hD⟩ := hJ9
          refine g5_rs [(a_k, (oc5 a_h a_j a_pt e_ln e_se e_lh e_br e_we e_me e_ce e_wy e_ho 1)), (a_h, (oc1 e_wa e_le e_st e_fo e_lc a_l a_g a_b a_s a_p a_w e_gb a_bb)), (a_j, (oc2 a_as a_sk)), (a_as, (arI G 8 f_as)), (a_sk, (arJ G 50 f_sk)), (a_l, (arW G 6 f_l)), (a_g, (oc6 6 5 a_gn e_g)), (a_gn, (arI G 30 f_g)), (a_p, (oc6 8 5 a_pn e_p)), (a_pn, (arI G 40 f_p))] hP hD ?_
          clear hP hD
          intro hP hD
          exact absurd (sp_on (f := f_ro) e_hu ⟨by omega, by omega⟩ e_on i_9) (fun h9 => h9)
        ·
          have hJ9 := va_join (wr := [(a_k, (oc5 a_h a_j a_pt e_ln e_se e_lh e_br e_we e_me e_ce e_wy e_ho 1)), (a_h, (oc1 e_wa e_le e_st e_fo e_lc a_l a_g a_b a_s a_p a_w e_gb a_bb)), (a_j, (oc2 a_as a_sk)), (a_as, (arI G 8 f_as)), (a_sk, (arJ G 50 f_sk)), (a_l, (arW G 6 f_l)), (a_g, (oc6 6 5 a_gn e_g)), (a_gn, (arI G 30 f_g))]) hP hD [2, 3] [0, 1, 4, 5, 6, 7, 8, 9] rfl rfl (by decide +kernel) (by decide +kernel) hk1 hFc hP1 hD1
          clear hP hD hPc hDc hFc ht hvm hz1 hk1 hP1 hD1
          obtain ⟨hP, hD⟩ := hJ9
          refine g5_rs [(a_k, (oc5 a_h a_j a_pt e_ln e_se e_lh e_br e_we e_me e_ce e_wy e_ho 1)), (a_h, (oc1 e_wa e_le e_st e_fo e_lc a_l a_g a_b a_s a_p a_w e_gb a_bb)), (a_j, (oc2 a_as a_sk)), (a_as, (arI G 8 f_as)), (a_sk, (arJ G 50 f_sk)), (a_l, (arW G 6 f_l)), (a_g, (oc6 6 5 a_gn e_g)), (a_gn, (arI G 30 f_g)), (a_p, (oc6 8 5 a_pn e_p)), (a_pn, (arI G 40 f_p))] hP hD ?_
          clear hP hD
          intro hP hD
          refine g5_ti (v := z13) y14 ?_
          have hSF := sp_find e_qp e_hu ⟨by omega, by omega⟩ e_on i_10 i_11 i_12
          refine lv_goto (tgt := 68) hx hb dX5_meetGlass_64 (by decide +kernel) ?_
          refine lv_istore_n (lv' := [(3, .int z13), (2, .ref a_p), (1, .int (-1)), (0, .ref a_k)]) hx hb dX5_meetGlass_68 rfl hl (by decide +kernel) rfl ?_
          clear hl
          intro ls hl
          refine lv_iload_n hx hb dX5_meetGlass_69 rfl (lv_at hl 2 rfl) ?_
          refine lv_iconst (v := (-1)) hx hb dX5_meetGlass_70 (by decide +kernel) ?_
          refine W.eq (g2 := F0 m 71 ls [.int (-1), .int (-1)]) rfl ?_
          refine lv_icmp_ne (tgt := 81) hx hb dX5_meetGlass_71 (by decide +kernel) (fun c_15 => ?_) (fun c_15 => ?_)
          ·
            exact absurd c_15 (by decide +kernel)
          ·
            refine lv_bipush (v := 6) hx hb dX5_meetGlass_74 (by decide +kernel) ?_
            refine lv_iload_n hx hb dX5_meetGlass_76 rfl (lv_at hl 0 rfl) ?_
            refine lv_iadd hx hb dX5_meetGlass_77 ?_
            have t_16 : (6 + z13).toInt = 6 + z13.toInt := g5_iadd (a := 6) (b := z13.toInt) (by decide +kernel) (by rfl) (by omega) (by omega)
            refine lv_goto (tgt := 82) hx hb dX5_meetGlass_78 (by decide +kernel) ?_
            refine W.eq (g2 := F0 m 82 ls [.int (6 + z13)]) rfl ?_
            refine lv_istore (lv' := [(4, .int (6 + z13)), (3, .int z13), (2, .ref a_p), (1, .int (-1)), (0, .ref a_k)]) hx hb dX5_meetGlass_82 hl (by decide +kernel) rfl ?_
            clear hl
            intro ls hl
            refine lv_aload_n hx hb dX5_meetGlass_84 rfl (lv_at hl 2 rfl) ?_
            refine lv_iload_n hx hb dX5_meetGlass_85 rfl (lv_at hl 1 rfl) ?_
            refine lv_iconst (v := 1) hx hb dX5_meetGlass_86 (by decide +kernel) ?_
            obtain ⟨hPc, hDc, hFc⟩ := g5_sub3 (wc := [(a_p, (oc6 8 5 a_pn e_p)), (a_pn, (arI G 40 f_p))]) hP hD hS hA [8, 9] (by decide +kernel) rfl
            refine va_calli (va_runV (As := [.int z13, .int 1]) (rest := []) ⟨hx, hb, hml, hown, hts⟩ (t_get_P l G a_p a_pn H.size e_p z13 1 f_p h_e_p) (cwV 2 hts gV_X5_107 rfl rfl rfl hv_X6_get ⟨Nat.le_of_ble_eq_true rfl, Nat.le_of_ble_eq_true rfl⟩) (g5_preV hPc hK hDc hN hT hS hFc (ci := 6) (q0 := 0) rfl rfl) rfl rfl hl.1 rfl (lv_room (Nat.le_of_ble_eq_true rfl)) dX5_meetGlass_87 ⟨Nat.le_of_ble_eq_true rfl, Nat.le_of_ble_eq_true rfl⟩) hS (fun q _ h => hFc q h) hFc (fun r u t H locs ht hvm hw hB hz1 hk1 hS => ?_)
            obtain ⟨hP1, hD1⟩ := hB
            have hP1 := g5_ht ht hP1
            obtain ⟨z18, (i_17 : z18 = tget f_p e_p.toInt 5 z13.toInt (1 : Int32).toInt), y19, rfl⟩ := hw
            have hJ9 := va_join (wr := [(a_k, (oc5 a_h a_j a_pt e_ln e_se e_lh e_br e_we e_me e_ce e_wy e_ho 1)), (a_h, (oc1 e_wa e_le e_st e_fo e_lc a_l a_g a_b a_s a_p a_w e_gb a_bb)), (a_j, (oc2 a_as a_sk)), (a_as, (arI G 8 f_as)), (a_sk, (arJ G 50 f_sk)), (a_l, (arW G 6 f_l)), (a_g, (oc6 6 5 a_gn e_g)), (a_gn, (arI G 30 f_g))]) hP hD [8, 9] [0, 1, 2, 3, 4, 5, 6, 7] rfl rfl (by decide +kernel) (by decide +kernel) hk1 hFc hP1 hD1
            clear hP hD hPc hDc hFc ht hvm hz1 hk1 hP1 hD1
            obtain ⟨hP, hD⟩ := hJ9
            refine g5_rs [(a_k, (oc5 a_h a_j a_pt e_ln e_se e_lh e_br e_we e_me e_ce e_wy e_ho 1)), (a_h, (oc1 e_wa e_le e_st e_fo e_lc a_l a_g a_b a_s a_p a_w e_gb a_bb)), (a_j, (oc2 a_as a_sk)), (a_as, (arI G 8 f_as)), (a_sk, (arJ G 50 f_sk)), (a_l, (arW G 6 f_l)), (a_g, (oc6 6 5 a_gn e_g)), (a_gn, (arI G 30 f_g)), (a_p, (oc6 8 5 a_pn e_p)), (a_pn, (arI G 40 f_p))] hP hD ?_
            clear hP hD
            intro hP hD
            refine g5_ti (v := z18) y19 ?_
            have hc1_20 := sp_col (k := 1) e_qp i_10 i_17 (by decide +kernel) (by omega)
            have hg_20 : 0 ≤ z18.toInt ∧ z18.toInt ≤ 5 := by rw [i_17]; exact (e_pk z13.toInt (by omega) (by omega)).2.1
            refine W.eq (g2 := F0 m 90 ls [.int z18]) rfl ?_
            refine lv_istore (lv' := [(5, .int z18), (4, .int (6 + z13)), (3, .int z13), (2, .ref a_p), (1, .int (-1)), (0, .ref a_k)]) hx hb dX5_meetGlass_90 hl (by decide +kernel) rfl ?_
            clear hl
            intro ls hl
            refine lv_aload_n hx hb dX5_meetGlass_92 rfl (lv_at hl 5 rfl) ?_
            refine lv_dup hx hb dX5_meetGlass_93 rfl ?_
            refine va_get (D := G.1) (ci := 5) (v := .int e_me) (C := RX5) (T := TX5) (N := 13) hx hb hts inG_X5 hown hK hP 0 rfl rfl 8 (by decide +kernel) (hts _ fl_X5_95) (fun _ h9 => h9) rfl dX5_meetGlass_94 ?_
            refine lv_iconst (v := 1) hx hb dX5_meetGlass_97 (by decide +kernel) ?_
            refine W.eq (g2 := F0 m 98 ls [.int 1, .int e_me, .ref a_k]) rfl ?_
            refine lv_iload hx hb dX5_meetGlass_98 (lv_at hl 1 rfl) ?_
            refine lv_ishl hx hb dX5_meetGlass_100 ?_
            refine lv_ior hx hb dX5_meetGlass_101 ?_
            refine va_put (D := G.1) (ci := 5) (v := .int (e_me ||| (1 <<< ((6 + z13) &&& 31)))) (ty := .int) (C := RX5) (T := TX5) (N := 13) hx hb hts inG_X5 tyX5 tyX5_ok nmX5 hown hK hP hD hS 0 rfl rfl 8 (by decide +kernel) (hts _ fl_X5_95) (fun _ h9 => h9) rfl (by decide +kernel) rfl rfl (Nat.le_of_ble_eq_true rfl) dX5_meetGlass_102 ?_
            clear hP hD hS
            intro H locs hP hD hS
            refine g5_rs [(a_k, (oc5 a_h a_j a_pt e_ln e_se e_lh e_br e_we (e_me ||| (1 <<< ((6 + z13) &&& 31))) e_ce e_wy e_ho 1)), (a_h, (oc1 e_wa e_le e_st e_fo e_lc a_l a_g a_b a_s a_p a_w e_gb a_bb)), (a_j, (oc2 a_as a_sk)), (a_as, (arI G 8 f_as)), (a_sk, (arJ G 50 f_sk)), (a_l, (arW G 6 f_l)), (a_g, (oc6 6 5 a_gn e_g)), (a_gn, (arI G 30 f_g)), (a_p, (oc6 8 5 a_pn e_p)), (a_pn, (arI G 40 f_p))] hP hD ?_
            clear hP hD
            intro hP hD
            refine lv_aload_n hx hb dX5_meetGlass_105 rfl (lv_at hl 5 rfl) ?_
            refine W.eq (g2 := F0 m 106 ls [.ref a_k]) rfl ?_
            refine va_get (D := G.1) (ci := 5) (v := .ref a_h) (C := RX5) (T := TX5) (N := 13) hx hb hts inG_X5 hown hK hP 0 rfl rfl 0 (by decide +kernel) (hts _ fl_X5_22) (fun _ h9 => h9) rfl dX5_meetGlass_106 ?_
            obtain ⟨hPc, hDc, hFc⟩ := g5_sub3 (wc := [(a_h, (oc1 e_wa e_le e_st e_fo e_lc a_l a_g a_b a_s a_p a_w e_gb a_bb)), (a_l, (arW G 6 f_l))]) hP hD hS hA [1, 5] (by decide +kernel) rfl
            refine va_callq (va_runV (As := []) (rest := []) ⟨hx, hb, hml, hown, hts⟩ (h_lawN l G a_h a_l a_g a_b a_s a_p a_w a_bb H.size e_le e_st e_fo e_lc e_wa e_gb f_l (e_f)) (cwV 0 hts gV_X5_113 rfl rfl rfl hv_X1_lawInForce ⟨Nat.le_of_ble_eq_true rfl, Nat.le_of_ble_eq_true rfl⟩) (g5_preV hPc hK hDc hN hT hS hFc (ci := 1) (q0 := 0) rfl rfl) rfl rfl hl.1 rfl (lv_room (Nat.le_of_ble_eq_true rfl)) dX5_meetGlass_109 ⟨Nat.le_of_ble_eq_true rfl, Nat.le_of_ble_eq_true rfl⟩) hS (fun q _ h => hFc q h) hFc (fun r u t H locs ht hvm hw hB hz1 hk1 hS => ?_)
            obtain ⟨hP1, hD1⟩ := hB
            have hP1 := g5_ht ht hP1
            obtain ⟨rfl, rfl⟩ := hw
            have hJ9 := va_join (wr := [(a_k, (oc5 a_h a_j a_pt e_ln e_se e_lh e_br e_we (e_me ||| (1 <<< ((6 + z13) &&& 31))) e_ce e_wy e_ho 1)), (a_j, (oc2 a_as a_sk)), (a_as, (arI G 8 f_as)), (a_sk, (arJ G 50 f_sk)), (a_g, (oc6 6 5 a_gn e_g)), (a_gn, (arI G 30 f_g)), (a_p, (oc6 8 5 a_pn e_p)), (a_pn, (arI G 40 f_p))]) hP hD [1, 5] [0, 2, 3, 4, 6, 7, 8, 9] rfl rfl (by decide +kernel) (by decide +kernel) hk1 hFc hP1 hD1
            clear hP hD hPc hDc hFc ht hvm hz1 hk1 hP1 hD1
            obtain ⟨hP, hD⟩ := hJ9
            refine g5_rs [(a_k, (oc5 a_h a_j a_pt e_ln e_se e_lh e_br e_we (e_me ||| (1 <<< ((6 + z13) &&& 31))) e_ce e_wy e_ho 1)), (a_j, (oc2 a_as a_sk)), (a_as, (arI G 8 f_as)), (a_sk, (arJ G 50 f_sk)), (a_g, (oc6 6 5 a_gn e_g)), (a_gn, (arI G 30 f_g)), (a_p, (oc6 8 5 a_pn e_p)), (a_pn, (arI G 40 f_p)), (a_h, (oc1 e_wa e_le e_st e_fo e_lc a_l a_g a_b a_s a_p a_w e_gb a_bb)), (a_l, (arW G 6 f_l))] hP hD ?_
            clear hP hD
            intro hP hD
            refine g5_tv (v := .null) rfl ?_
            refine lv_astoreN (lv' := [(6, .null), (5, .int z18), (4, .int (6 + z13)), (3, .int z13), (2, .ref a_p), (1, .int (-1)), (0, .ref a_k)]) hx hb dX5_meetGlass_112 hl (by decide +kernel) rfl ?_
            clear hl
            intro ls hl
            refine lv_aload_n hx hb dX5_meetGlass_114 rfl (lv_at hl 6 rfl) ?_
            refine lv_iload hx hb dX5_meetGlass_115 (lv_at hl 2 rfl) ?_
            refine W.eq (g2 := F0 m 117 ls [.int (6 + z13), .ref a_k]) rfl ?_
            refine lv_iconst (v := (-1)) hx hb dX5_meetGlass_117 (by decide +kernel) ?_
            obtain ⟨hPc, hDc, hFc⟩ := g5_sub3 (wc := [(a_k, (oc5 a_h a_j a_pt e_ln e_se e_lh e_br e_we (e_me ||| (1 <<< ((6 + z13) &&& 31))) e_ce e_wy e_ho 1)), (a_j, (oc2 a_as a_sk)), (a_as, (arI G 8 f_as))]) hP hD hS hA [0, 1, 2] (by decide +kernel) rfl
            refine va_callv (va_runV (As := [.int (6 + z13), .int (-1)]) (rest := []) ⟨hx, hb, hml, hown, hts⟩ (k_askX l G a_k a_j a_as a_h a_pt a_sk H.size e_ln e_se e_lh e_br e_we (e_me ||| (1 <<< ((6 + z13) &&& 31))) e_ce e_wy e_ho 1 (6 + z13) (-1) f_as h_e_br h_e_ce h_e_wy h_e_ho ⟨by decide, by decide⟩) (cwV 2 hts gV_X5_120 rfl rfl rfl hv_X5_ask ⟨Nat.le_of_ble_eq_true rfl, Nat.le_of_ble_eq_true rfl⟩) (g5_preV hPc hK hDc hN hT hS hFc (ci := 5) (q0 := 0) rfl rfl) rfl rfl hl.1 rfl (lv_room (Nat.le_of_ble_eq_true rfl)) dX5_meetGlass_118 ⟨Nat.le_of_ble_eq_true rfl, Nat.le_of_ble_eq_true rfl⟩) hS (fun q _ h => hFc q h) hFc (fun u t H locs ht hvm hw hB hz1 hk1 hS => ?_)
            obtain ⟨hP1, hD1⟩ := hB
            have hP1 := g5_ht ht hP1
            obtain ⟨z22, (i_21 : ∀ j : Nat, j < 8 → askQ (6 + z13) e_ce e_ho e_wy ((-1) : Int32) e_ln e_br j = (z22 j).toInt64), rfl⟩ := hw
            have hJ9 := va_join (wr := [(a_sk, (arJ G 50 f_sk)), (a_g, (oc6 6 5 a_gn e_g)), (a_gn, (arI G 30 f_g)), (a_p, (oc6 8 5 a_pn e_p)), (a_pn, (arI G 40 f_p)), (a_h, (oc1 e_wa e_le e_st e_fo e_lc a_l a_g a_b a_s a_p a_w e_gb a_bb)), (a_l, (arW G 6 f_l))]) hP hD [0, 1, 2] [3, 4, 5, 6, 7, 8, 9] rfl rfl (by decide +kernel) (by decide +kernel) hk1 hFc hP1 hD1
            clear hP hD hPc hDc hFc ht hvm hz1 hk1 hP1 hD1
            obtain ⟨hP, hD⟩ := hJ9
            refine g5_rs [(a_sk, (arJ G 50 f_sk)), (a_g, (oc6 6 5 a_gn e_g)), (a_gn, (arI G 30 f_g)), (a_p, (oc6 8 5 a_pn e_p)), (a_pn, (arI G 40 f_p)), (a_h, (oc1 e_wa e_le e_st e_fo e_lc a_l a_g a_b a_s a_p a_w e_gb a_bb)), (a_l, (arW G 6 f_l)), (a_k, (oc5 a_h a_j a_pt e_ln e_se e_lh e_br e_we (e_me ||| (1 <<< ((6 + z13) &&& 31))) e_ce e_wy e_ho 1)), (a_j, (oc2 a_as a_sk)), (a_as, (arI G 8 z22))] hP hD ?_
            clear hP hD
            intro hP hD
            refine lv_aload_n hx hb dX5_meetGlass_121 rfl (lv_at hl 4 rfl) ?_
            refine lv_iload_n hx hb dX5_meetGlass_122 rfl (lv_at hl 3 rfl) ?_
            refine lv_iconst (v := 4) hx hb dX5_meetGlass_123 (by decide +kernel) ?_
            refine W.eq (g2 := F0 m 124 ls [.int 4, .int z13, .ref a_p]) rfl ?_
            obtain ⟨hPc, hDc, hFc⟩ := g5_sub3 (wc := [(a_p, (oc6 8 5 a_pn e_p)), (a_pn, (arI G 40 f_p))]) hP hD hS hA [3, 4] (by decide +kernel) rfl
            refine va_calli (va_runV (As := [.int z13, .int 4]) (rest := []) ⟨hx, hb, hml, hown, hts⟩ (t_get_P l G a_p a_pn H.size e_p z13 4 f_p h_e_p) (cwV 2 hts gV_X5_107 rfl rfl rfl hv_X6_get ⟨Nat.le_of_ble_eq_true rfl, Nat.le_of_ble_eq_true rfl⟩) (g5_preV hPc hK hDc hN hT hS hFc (ci := 6) (q0 := 0) rfl rfl) rfl rfl hl.1 rfl (lv_room (Nat.le_of_ble_eq_true rfl)) dX5_meetGlass_124 ⟨Nat.le_of_ble_eq_true rfl, Nat.le_of_ble_eq_true rfl⟩) hS (fun q _ h => hFc q h) hFc (fun r u t H locs ht hvm hw hB hz1 hk1 hS => ?_)
            obtain ⟨hP1, hD1⟩ := hB
            have hP1 := g5_ht ht hP1
            obtain ⟨z24, (i_23 : z24 = tget f_p e_p.toInt 5 z13.toInt (4 : Int32).toInt), y25, rfl⟩ := hw
            have hJ9 := va_join (wr := [(a_sk, (arJ G 50 f_sk)), (a_g, (oc6 6 5 a_gn e_g)), (a_gn, (arI G 30 f_g)), (a_h, (oc1 e_wa e_le e_st e_fo e_lc a_l a_g a_b a_s a_p a_w e_gb a_bb)), (a_l, (arW G 6 f_l)), (a_k, (oc5 a_h a_j a_pt e_ln e_se e_lh e_br e_we (e_me ||| (1 <<< ((6 + z13) &&& 31))) e_ce e_wy e_ho 1)), (a_j, (oc2 a_as a_sk)), (a_as, (arI G 8 z22))]) hP hD [3, 4] [0, 1, 2, 5, 6, 7, 8, 9] rfl rfl (by decide +kernel) (by decide +kernel) hk1 hFc hP1 hD1
            clear hP hD hPc hDc hFc ht hvm hz1 hk1 hP1 hD1
            obtain ⟨hP, hD⟩ := hJ9
            refine g5_rs [(a_sk, (arJ G 50 f_sk)), (a_g, (oc6 6 5 a_gn e_g)), (a_gn, (arI G 30 f_g)), (a_h, (oc1 e_wa e_le e_st e_fo e_lc a_l a_g a_b a_s a_p a_w e_gb a_bb)), (a_l, (arW G 6 f_l)), (a_k, (oc5 a_h a_j a_pt e_ln e_se e_lh e_br e_we (e_me ||| (1 <<< ((6 + z13) &&& 31))) e_ce e_wy e_ho 1)), (a_j, (oc2 a_as a_sk)), (a_as, (arI G 8 z22)), (a_p, (oc6 8 5 a_pn e_p)), (a_pn, (arI G 40 f_p))] hP hD ?_
            clear hP hD
            intro hP hD
            refine g5_ti (v := z24) y25 ?_
            have hz4_26 := sp_z4 e_qp i_10 i_23
            refine lv_aload_n hx hb dX5_meetGlass_127 rfl (lv_at hl 6 rfl) ?_
            refine va_get (D := G.1) (ci := 5) (v := .int e_ho) (C := RX5) (T := TX5) (N := 13) hx hb hts inG_X5 hown hK hP 5 rfl rfl 11 (by decide +kernel) (hts _ fl_X5_33) (fun _ h9 => h9) rfl dX5_meetGlass_128 ?_
            refine lv_ishr hx hb dX5_meetGlass_131 ?_
            refine lv_iconst (v := 1) hx hb dX5_meetGlass_132 (by decide +kernel) ?_
            refine W.eq (g2 := F0 m 133 ls [.int 1, .int (z24 >>> (e_ho &&& 31))]) rfl ?_
            refine lv_iand hx hb dX5_meetGlass_133 ?_
            refine g5_ti (v := 0) (g5_toc (n := 0) (by decide +kernel) (q0_z hz4_26)) ?_
            refine lv_if_ne (tgt := 169) hx hb dX5_meetGlass_134 (by decide +kernel) (fun c_27 => ?_) (fun c_27 => ?_)
            ·
              exact absurd c_27 (by decide +kernel)
            ·
              refine lv_aload_n hx hb dX5_meetGlass_137 rfl (lv_at hl 6 rfl) ?_
              refine va_get (D := G.1) (ci := 5) (v := .ref a_j) (C := RX5) (T := TX5) (N := 13) hx hb hts inG_X5 hown hK hP 5 rfl rfl 1 (by decide +kernel) (hts _ fl_X5_12) (fun _ h9 => h9) rfl dX5_meetGlass_138 ?_
              refine lv_aloadN hx hb dX5_meetGlass_141 (lv_at hl 0 rfl) ?_
              refine lv_iconst (v := 2) hx hb dX5_meetGlass_143 (by decide +kernel) ?_
              refine W.eq (g2 := F0 m 144 ls [.int 2, .null, .ref a_j]) rfl ?_
              obtain ⟨hPc, hDc, hFc⟩ := g5_sub3 (wc := [(a_j, (oc2 a_as a_sk)), (a_as, (arI G 8 z22)), (a_sk, (arJ G 50 f_sk))]) hP hD hS hA [6, 7, 0] (by decide +kernel) rfl
              refine va_calli (va_runV (As := [.null, .int 2]) (rest := []) ⟨hx, hb, hml, hown, hts⟩ (j_isHeldN l G a_j a_as a_sk H.size 2 z22 f_sk) (cwV 2 hts gV_X5_124 rfl rfl rfl hv_X2_isHeld ⟨Nat.le_of_ble_eq_true rfl, Nat.le_of_ble_eq_true rfl⟩) (g5_preV hPc hK hDc hN hT hS hFc (ci := 2) (q0 := 0) rfl rfl) rfl rfl hl.1 rfl (lv_room (Nat.le_of_ble_eq_true rfl)) dX5_meetGlass_144 ⟨Nat.le_of_ble_eq_true rfl, Nat.le_of_ble_eq_true rfl⟩) hS (fun q _ h => hFc q h) hFc (fun r u t H locs ht hvm hw hB hz1 hk1 hS => ?_)
              obtain ⟨hP1, hD1⟩ := hB
              have hP1 := g5_ht ht hP1
              obtain ⟨rfl, rfl⟩ := hw
              have hJ9 := va_join (wr := [(a_g, (oc6 6 5 a_gn e_g)), (a_gn, (arI G 30 f_g)), (a_h, (oc1 e_wa e_le e_st e_fo e_lc a_l a_g a_b a_s a_p a_w e_gb a_bb)), (a_l, (arW G 6 f_l)), (a_k, (oc5 a_h a_j a_pt e_ln e_se e_lh e_br e_we (e_me ||| (1 <<< ((6 + z13) &&& 31))) e_ce e_wy e_ho 1)), (a_p, (oc6 8 5 a_pn e_p)), (a_pn, (arI G 40 f_p))]) hP hD [6, 7, 0] [1, 2, 3, 4, 5, 8, 9] rfl rfl (by decide +kernel) (by decide +kernel) hk1 hFc hP1 hD1
              clear hP hD hPc hDc hFc ht hvm hz1 hk1 hP1 hD1
              obtain ⟨hP, hD⟩ := hJ9
              refine g5_rs [(a_g, (oc6 6 5 a_gn e_g)), (a_gn, (arI G 30 f_g)), (a_h, (oc1 e_wa e_le e_st e_fo e_lc a_l a_g a_b a_s a_p a_w e_gb a_bb)), (a_l, (arW G 6 f_l)), (a_k, (oc5 a_h a_j a_pt e_ln e_se e_lh e_br e_we (e_me ||| (1 <<< ((6 + z13) &&& 31))) e_ce e_wy e_ho 1)), (a_p, (oc6 8 5 a_pn e_p)), (a_pn, (arI G 40 f_p)), (a_j, (oc2 a_as a_sk)), (a_as, (arI G 8 z22)), (a_sk, (arJ G 50 f_sk))] hP hD ?_
              clear hP hD
              intro hP hD
              refine lv_if_ne (tgt := 169) hx hb dX5_meetGlass_147 (by decide +kernel) (fun c_28 => ?_) (fun c_28 => ?_)
              ·
                exact absurd c_28 (by decide +kernel)
              ·
                refine lv_iload hx hb dX5_meetGlass_150 (lv_at hl 1 rfl) ?_
                refine lv_iconst (v := 2) hx hb dX5_meetGlass_152 (by decide +kernel) ?_
                refine lv_icmp_lt (tgt := 170) hx hb dX5_meetGlass_153 (by decide +kernel) (fun c_29 => ?_) (fun c_29 => ?_)
                ·
                  have i_29 : z18.toInt < 2 := g5_lt (a := z18.toInt) (b := 2) rfl (by decide +kernel) c_29
                  have hNS : ¬ (False ∨ toldW g_w 2 (askQ (6 + z13) e_ce e_ho e_wy (-1) e_ln e_br) ≠ none ∨ (2 ≤ z18.toInt ∧ e_wy.toInt ≠ z18.toInt % 4)) := ns_of id (tW_n e_w) (fun q9 => by have q8 := wr_of (so := z18) (wy := e_wy) ⟨by omega, by omega⟩ ⟨by omega, by omega⟩; first | omega | (unfold gNe at *; omega))
                  refine lv_aload_n hx hb dX5_meetGlass_170 rfl (lv_at hl 6 rfl) ?_
                  refine va_get (D := G.1) (ci := 5) (v := .ref a_j) (C := RX5) (T := TX5) (N := 13) hx hb hts inG_X5 hown hK hP 4 rfl rfl 1 (by decide +kernel) (hts _ fl_X5_12) (fun _ h9 => h9) rfl dX5_meetGlass_171 ?_
                  refine lv_aloadN hx hb dX5_meetGlass_174 (lv_at hl 0 rfl) ?_
                  refine lv_iconst (v := 0) hx hb dX5_meetGlass_176 (by decide +kernel) ?_
                  refine W.eq (g2 := F0 m 177 ls [.int 0, .null, .ref a_j]) rfl ?_
                  obtain ⟨hPc, hDc, hFc⟩ := g5_sub3 (wc := [(a_j, (oc2 a_as a_sk)), (a_as, (arI G 8 z22)), (a_sk, (arJ G 50 f_sk))]) hP hD hS hA [7, 8, 9] (by decide +kernel) rfl
                  refine va_calli (va_runV (As := [.null, .int 0]) (rest := []) ⟨hx, hb, hml, hown, hts⟩ (j_isHeldN l G a_j a_as a_sk H.size 0 z22 f_sk) (cwV 2 hts gV_X5_124 rfl rfl rfl hv_X2_isHeld ⟨Nat.le_of_ble_eq_true rfl, Nat.le_of_ble_eq_true rfl⟩) (g5_preV hPc hK hDc hN hT hS hFc (ci := 2) (q0 := 0) rfl rfl) rfl rfl hl.1 rfl (lv_room (Nat.le_of_ble_eq_true rfl)) dX5_meetGlass_177 ⟨Nat.le_of_ble_eq_true rfl, Nat.le_of_ble_eq_true rfl⟩) hS (fun q _ h => hFc q h) hFc (fun r u t H locs ht hvm hw hB hz1 hk1 hS => ?_)
                  obtain ⟨hP1, hD1⟩ := hB
                  have hP1 := g5_ht ht hP1
                  obtain ⟨rfl, rfl⟩ := hw
                  have hJ9 := va_join (wr := [(a_g, (oc6 6 5 a_gn e_g)), (a_gn, (arI G 30 f_g)), (a_h, (oc1 e_wa e_le e_st e_fo e_lc a_l a_g a_b a_s a_p a_w e_gb a_bb)), (a_l, (arW G 6 f_l)), (a_k, (oc5 a_h a_j a_pt e_ln e_se e_lh e_br e_we (e_me ||| (1 <<< ((6 + z13) &&& 31))) e_ce e_wy e_ho 1)), (a_p, (oc6 8 5 a_pn e_p)), (a_pn, (arI G 40 f_p))]) hP hD [7, 8, 9] [0, 1, 2, 3, 4, 5, 6] rfl rfl (by decide +kernel) (by decide +kernel) hk1 hFc hP1 hD1
                  clear hP hD hPc hDc hFc ht hvm hz1 hk1 hP1 hD1
                  obtain ⟨hP, hD⟩ := hJ9
                  refine g5_rs [(a_g, (oc6 6 5 a_gn e_g)), (a_gn, (arI G 30 f_g)), (a_h, (oc1 e_wa e_le e_st e_fo e_lc a_l a_g a_b a_s a_p a_w e_gb a_bb)), (a_l, (arW G 6 f_l)), (a_k, (oc5 a_h a_j a_pt e_ln e_se e_lh e_br e_we (e_me ||| (1 <<< ((6 + z13) &&& 31))) e_ce e_wy e_ho 1)), (a_p, (oc6 8 5 a_pn e_p)), (a_pn, (arI G 40 f_p)), (a_j, (oc2 a_as a_sk)), (a_as, (arI G 8 z22)), (a_sk, (arJ G 50 f_sk))] hP hD ?_
                  clear hP hD
                  intro hP hD
                  refine lv_if_eq (tgt := 195) hx hb dX5_meetGlass_180 (by decide +kernel) (fun c_30 => ?_) (fun c_30 => ?_)
                  ·
                    refine lv_aload_n hx hb dX5_meetGlass_195 rfl (lv_at hl 4 rfl) ?_
                    refine lv_iload_n hx hb dX5_meetGlass_196 rfl (lv_at hl 3 rfl) ?_
                    refine lv_iconst (v := 2) hx hb dX5_meetGlass_197 (by decide +kernel) ?_
                    obtain ⟨hPc, hDc, hFc⟩ := g5_sub3 (wc := [(a_p, (oc6 8 5 a_pn e_p)), (a_pn, (arI G 40 f_p))]) hP hD hS hA [5, 6] (by decide +kernel) rfl
                    refine va_calli (va_runV (As := [.int z13, .int 2]) (rest := []) ⟨hx, hb, hml, hown, hts⟩ (t_get_P l G a_p a_pn H.size e_p z13 2 f_p h_e_p) (cwV 2 hts gV_X5_107 rfl rfl rfl hv_X6_get ⟨Nat.le_of_ble_eq_true rfl, Nat.le_of_ble_eq_true rfl⟩) (g5_preV hPc hK hDc hN hT hS hFc (ci := 6) (q0 := 0) rfl rfl) rfl rfl hl.1 rfl (lv_room (Nat.le_of_ble_eq_true rfl)) dX5_meetGlass_198 ⟨Nat.le_of_ble_eq_true rfl, Nat.le_of_ble_eq_true rfl⟩) hS (fun q _ h => hFc q h) hFc (fun r u t H locs ht hvm hw hB hz1 hk1 hS => ?_)
                    obtain ⟨hP1, hD1⟩ := hB
                    have hP1 := g5_ht ht hP1
                    obtain ⟨z32, (i_31 : z32 = tget f_p e_p.toInt 5 z13.toInt (2 : Int32).toInt), y33, rfl⟩ := hw
                    have hJ9 := va_join (wr := [(a_g, (oc6 6 5 a_gn e_g)), (a_gn, (arI G 30 f_g)), (a_h, (oc1 e_wa e_le e_st e_fo e_lc a_l a_g a_b a_s a_p a_w e_gb a_bb)), (a_l, (arW G 6 f_l)), (a_k, (oc5 a_h a_j a_pt e_ln e_se e_lh e_br e_we (e_me ||| (1 <<< ((6 + z13) &&& 31))) e_ce e_wy e_ho 1)), (a_j, (oc2 a_as a_sk)), (a_as, (arI G 8 z22)), (a_sk, (arJ G 50 f_sk))]) hP hD [5, 6] [0, 1, 2, 3, 4, 7, 8, 9] rfl rfl (by decide +kernel) (by decide +kernel) hk1 hFc hP1 hD1
                    clear hP hD hPc hDc hFc ht hvm hz1 hk1 hP1 hD1
                    obtain ⟨hP, hD⟩ := hJ9
                    refine g5_rs [(a_g, (oc6 6 5 a_gn e_g)), (a_gn, (arI G 30 f_g)), (a_h, (oc1 e_wa e_le e_st e_fo e_lc a_l a_g a_b a_s a_p a_w e_gb a_bb)), (a_l, (arW G 6 f_l)), (a_k, (oc5 a_h a_j a_pt e_ln e_se e_lh e_br e_we (e_me ||| (1 <<< ((6 + z13) &&& 31))) e_ce e_wy e_ho 1)), (a_j, (oc2 a_as a_sk)), (a_as, (arI G 8 z22)), (a_sk, (arJ G 50 f_sk)), (a_p, (oc6 8 5 a_pn e_p)), (a_pn, (arI G 40 f_p))] hP hD ?_
                    clear hP hD
                    intro hP hD
                    refine g5_ti (v := z32) y33 ?_
                    have hc2_35 := sp_col (k := 2) e_qp i_10 i_31 (by decide +kernel) (by omega)
                    have hg_35 : 0 ≤ z32.toInt ∧ z32.toInt ≤ 23 := by rw [i_31]; exact (e_pk z13.toInt (by omega) (by omega)).2.2.1
                    have hV_34 : z32 = tellQ (toldW g_w 0 (askQ (6 + z13) e_ce e_ho e_wy (-1) e_ln e_br)) (f_ro (270 + 3 * z13.toInt.toNat + 2)) 23 := hc2_35.symm.trans (tell_n (tW_n e_w))
                    refine W.eq (g2 := F0 m 201 ls [.int z32]) rfl ?_
                    refine lv_istore (lv' := [(7, .int z32), (6, .null), (5, .int z18), (4, .int (6 + z13)), (3, .int z13), (2, .ref a_p), (1, .int (-1)), (0, .ref a_k)]) hx hb dX5_meetGlass_201 hl (by decide +kernel) rfl ?_
                    clear hl
                    intro ls hl
                    refine lv_iload hx hb dX5_meetGlass_203 (lv_at hl 0 rfl) ?_
                    refine lv_aload_n hx hb dX5_meetGlass_205 rfl (lv_at hl 7 rfl) ?_
                    refine va_get (D := G.1) (ci := 5) (v := .int e_ho) (C := RX5) (T := TX5) (N := 13) hx hb hts inG_X5 hown hK hP 4 rfl rfl 11 (by decide +kernel) (hts _ fl_X5_33) (fun _ h9 => h9) rfl dX5_meetGlass_206 ?_
                    refine lv_icmp_le (tgt := 213) hx hb dX5_meetGlass_209 (by decide +kernel) (fun c_36 => ?_) (fun c_36 => ?_)
                    ·
                      have i_36 : z32.toInt ≤ e_ho.toInt := g5_le (a := z32.toInt) (b := e_ho.toInt) rfl rfl c_36
                      refine lv_aload_n hx hb dX5_meetGlass_213 rfl (lv_at hl 7 rfl) ?_
                      refine va_get (D := G.1) (ci := 5) (v := .ref a_j) (C := RX5) (T := TX5) (N := 13) hx hb hts inG_X5 hown hK hP 4 rfl rfl 1 (by decide +kernel) (hts _ fl_X5_12) (fun _ h9 => h9) rfl dX5_meetGlass_214 ?_
                      refine lv_aloadN hx hb dX5_meetGlass_217 (lv_at hl 1 rfl) ?_
                      refine lv_iconst (v := 1) hx hb dX5_meetGlass_219 (by decide +kernel) ?_
                      refine W.eq (g2 := F0 m 220 ls [.int 1, .null, .ref a_j]) rfl ?_
                      obtain ⟨hPc, hDc, hFc⟩ := g5_sub3 (wc := [(a_j, (oc2 a_as a_sk)), (a_as, (arI G 8 z22)), (a_sk, (arJ G 50 f_sk))]) hP hD hS hA [5, 6, 7] (by decide +kernel) rfl
                      refine va_calli (va_runV (As := [.null, .int 1]) (rest := []) ⟨hx, hb, hml, hown, hts⟩ (j_isHeldN l G a_j a_as a_sk H.size 1 z22 f_sk) (cwV 2 hts gV_X5_124 rfl rfl rfl hv_X2_isHeld ⟨Nat.le_of_ble_eq_true rfl, Nat.le_of_ble_eq_true rfl⟩) (g5_preV hPc hK hDc hN hT hS hFc (ci := 2) (q0 := 0) rfl rfl) rfl rfl hl.1 rfl (lv_room (Nat.le_of_ble_eq_true rfl)) dX5_meetGlass_220 ⟨Nat.le_of_ble_eq_true rfl, Nat.le_of_ble_eq_true rfl⟩) hS (fun q _ h => hFc q h) hFc (fun r u t H locs ht hvm hw hB hz1 hk1 hS => ?_)
                      obtain ⟨hP1, hD1⟩ := hB
                      have hP1 := g5_ht ht hP1
                      obtain ⟨rfl, rfl⟩ := hw
                      have hJ9 := va_join (wr := [(a_g, (oc6 6 5 a_gn e_g)), (a_gn, (arI G 30 f_g)), (a_h, (oc1 e_wa e_le e_st e_fo e_lc a_l a_g a_b a_s a_p a_w e_gb a_bb)), (a_l, (arW G 6 f_l)), (a_k, (oc5 a_h a_j a_pt e_ln e_se e_lh e_br e_we (e_me ||| (1 <<< ((6 + z13) &&& 31))) e_ce e_wy e_ho 1)), (a_p, (oc6 8 5 a_pn e_p)), (a_pn, (arI G 40 f_p))]) hP hD [5, 6, 7] [0, 1, 2, 3, 4, 8, 9] rfl rfl (by decide +kernel) (by decide +kernel) hk1 hFc hP1 hD1
                      clear hP hD hPc hDc hFc ht hvm hz1 hk1 hP1 hD1
                      obtain ⟨hP, hD⟩ := hJ9
                      refine g5_rs [(a_g, (oc6 6 5 a_gn e_g)), (a_gn, (arI G 30 f_g)), (a_h, (oc1 e_wa e_le e_st e_fo e_lc a_l a_g a_b a_s a_p a_w e_gb a_bb)), (a_l, (arW G 6 f_l)), (a_k, (oc5 a_h a_j a_pt e_ln e_se e_lh e_br e_we (e_me ||| (1 <<< ((6 + z13) &&& 31))) e_ce e_wy e_ho 1)), (a_p, (oc6 8 5 a_pn e_p)), (a_pn, (arI G 40 f_p)), (a_j, (oc2 a_as a_sk)), (a_as, (arI G 8 z22)), (a_sk, (arJ G 50 f_sk))] hP hD ?_
                      clear hP hD
                      intro hP hD
                      refine lv_if_eq (tgt := 238) hx hb dX5_meetGlass_223 (by decide +kernel) (fun c_37 => ?_) (fun c_37 => ?_)
                      ·
                        refine lv_aload_n hx hb dX5_meetGlass_238 rfl (lv_at hl 5 rfl) ?_
                        refine lv_iload_n hx hb dX5_meetGlass_239 rfl (lv_at hl 4 rfl) ?_
                        refine lv_iconst (v := 3) hx hb dX5_meetGlass_240 (by decide +kernel) ?_
                        obtain ⟨hPc, hDc, hFc⟩ := g5_sub3 (wc := [(a_p, (oc6 8 5 a_pn e_p)), (a_pn, (arI G 40 f_p))]) hP hD hS hA [5, 6] (by decide +kernel) rfl
                        refine va_calli (va_runV (As := [.int z13, .int 3]) (rest := []) ⟨hx, hb, hml, hown, hts⟩ (t_get_P l G a_p a_pn H.size e_p z13 3 f_p h_e_p) (cwV 2 hts gV_X5_107 rfl rfl rfl hv_X6_get ⟨Nat.le_of_ble_eq_true rfl, Nat.le_of_ble_eq_true rfl⟩) (g5_preV hPc hK hDc hN hT hS hFc (ci := 6) (q0 := 0) rfl rfl) rfl rfl hl.1 rfl (lv_room (Nat.le_of_ble_eq_true rfl)) dX5_meetGlass_241 ⟨Nat.le_of_ble_eq_true rfl, Nat.le_of_ble_eq_true rfl⟩) hS (fun q _ h => hFc q h) hFc (fun r u t H locs ht hvm hw hB hz1 hk1 hS => ?_)
                        obtain ⟨hP1, hD1⟩ := hB
                        have hP1 := g5_ht ht hP1
                        obtain ⟨z39, (i_38 : z39 = tget f_p e_p.toInt 5 z13.toInt (3 : Int32).toInt), y40, rfl⟩ := hw
                        have hJ9 := va_join (wr := [(a_g, (oc6 6 5 a_gn e_g)), (a_gn, (arI G 30 f_g)), (a_h, (oc1 e_wa e_le e_st e_fo e_lc a_l a_g a_b a_s a_p a_w e_gb a_bb)), (a_l, (arW G 6 f_l)), (a_k, (oc5 a_h a_j a_pt e_ln e_se e_lh e_br e_we (e_me ||| (1 <<< ((6 + z13) &&& 31))) e_ce e_wy e_ho 1)), (a_j, (oc2 a_as a_sk)), (a_as, (arI G 8 z22)), (a_sk, (arJ G 50 f_sk))]) hP hD [5, 6] [0, 1, 2, 3, 4, 7, 8, 9] rfl rfl (by decide +kernel) (by decide +kernel) hk1 hFc hP1 hD1
                        clear hP hD hPc hDc hFc ht hvm hz1 hk1 hP1 hD1
                        obtain ⟨hP, hD⟩ := hJ9
                        refine g5_rs [(a_g, (oc6 6 5 a_gn e_g)), (a_gn, (arI G 30 f_g)), (a_h, (oc1 e_wa e_le e_st e_fo e_lc a_l a_g a_b a_s a_p a_w e_gb a_bb)), (a_l, (arW G 6 f_l)), (a_k, (oc5 a_h a_j a_pt e_ln e_se e_lh e_br e_we (e_me ||| (1 <<< ((6 + z13) &&& 31))) e_ce e_wy e_ho 1)), (a_j, (oc2 a_as a_sk)), (a_as, (arI G 8 z22)), (a_sk, (arJ G 50 f_sk)), (a_p, (oc6 8 5 a_pn e_p)), (a_pn, (arI G 40 f_p))] hP hD ?_
                        clear hP hD
                        intro hP hD
                        refine g5_ti (v := z39) y40 ?_
                        have hz3_41 := sp_z3 e_qp i_10 i_38
                        have hd_41 : z39 = 0 := Int32.toInt_inj.mp (hz3_41.trans (by decide +kernel))
                        have hV_41 : z39 = tellQ (toldW g_w 1 (askQ (6 + z13) e_ce e_ho e_wy (-1) e_ln e_br)) (0) 10 := hd_41.trans (tell_n (tW_n e_w))
                        refine W.eq (g2 := F0 m 244 ls [.int z39]) rfl ?_
                        refine lv_istore (lv' := [(8, .int z39), (7, .int z32), (6, .null), (5, .int z18), (4, .int (6 + z13)), (3, .int z13), (2, .ref a_p), (1, .int (-1)), (0, .ref a_k)]) hx hb dX5_meetGlass_244 hl (by decide +kernel) rfl ?_
                        clear hl
                        intro ls hl
                        refine lv_aload_n hx hb dX5_meetGlass_246 rfl (lv_at hl 8 rfl) ?_
                        refine lv_aload_n hx hb dX5_meetGlass_247 rfl (lv_at hl 8 rfl) ?_
                        refine va_get (D := G.1) (ci := 5) (v := .int e_br) (C := RX5) (T := TX5) (N := 13) hx hb hts inG_X5 hown hK hP 4 rfl rfl 6 (by decide +kernel) (hts _ fl_X5_46) (fun _ h9 => h9) rfl dX5_meetGlass_248 ?_
                        refine lv_bipush (v := 10) hx hb dX5_meetGlass_251 (by decide +kernel) ?_
                        refine W.eq (g2 := F0 m 253 ls [.int 10, .int e_br, .ref a_k]) rfl ?_
                        refine lv_iload hx hb dX5_meetGlass_253 (lv_at hl 0 rfl) ?_
                        refine lv_isub hx hb dX5_meetGlass_255 ?_
                        have t_42 : (10 - z39).toInt = 10 - z39.toInt := g5_isub (a := 10) (b := z39.toInt) (by decide +kernel) (by rfl) (by omega) (by omega)
                        refine lv_imul hx hb dX5_meetGlass_256 ?_
                        refine lv_bipush (v := 10) hx hb dX5_meetGlass_257 (by decide +kernel) ?_
                        refine lv_idiv hx hb dX5_meetGlass_259 (by decide +kernel) ?_
                        have hb_43 : 0 ≤ ((e_br * (10 - z39)) / 10).toInt ∧ ((e_br * (10 - z39)) / 10).toInt ≤ 1000000 := g_dust (by omega) (by omega)
                        refine W.eq (g2 := F0 m 260 ls [.int ((e_br * (10 - z39)) / 10), .ref a_k]) rfl ?_
                        refine va_put (D := G.1) (ci := 5) (v := .int ((e_br * (10 - z39)) / 10)) (ty := .int) (C := RX5) (T := TX5) (N := 13) hx hb hts inG_X5 tyX5 tyX5_ok nmX5 hown hK hP hD hS 4 rfl rfl 6 (by decide +kernel) (hts _ fl_X5_46) (fun _ h9 => h9) rfl (by decide +kernel) rfl rfl (Nat.le_of_ble_eq_true rfl) dX5_meetGlass_260 ?_
                        clear hP hD hS
                        intro H locs hP hD hS
                        refine g5_rs [(a_g, (oc6 6 5 a_gn e_g)), (a_gn, (arI G 30 f_g)), (a_h, (oc1 e_wa e_le e_st e_fo e_lc a_l a_g a_b a_s a_p a_w e_gb a_bb)), (a_l, (arW G 6 f_l)), (a_k, (oc5 a_h a_j a_pt e_ln e_se e_lh ((e_br * (10 - z39)) / 10) e_we (e_me ||| (1 <<< ((6 + z13) &&& 31))) e_ce e_wy e_ho 1)), (a_j, (oc2 a_as a_sk)), (a_as, (arI G 8 z22)), (a_sk, (arJ G 50 f_sk)), (a_p, (oc6 8 5 a_pn e_p)), (a_pn, (arI G 40 f_p))] hP hD ?_
                        clear hP hD
                        intro hP hD
                        refine lv_aload_n hx hb dX5_meetGlass_263 rfl (lv_at hl 8 rfl) ?_
                        refine va_get (D := G.1) (ci := 5) (v := .int ((e_br * (10 - z39)) / 10)) (C := RX5) (T := TX5) (N := 13) hx hb hts inG_X5 hown hK hP 4 rfl rfl 6 (by decide +kernel) (hts _ fl_X5_46) (fun _ h9 => h9) rfl dX5_meetGlass_264 ?_
                        refine lv_aload_n hx hb dX5_meetGlass_267 rfl (lv_at hl 8 rfl) ?_
                        refine va_get (D := G.1) (ci := 5) (v := .ref a_h) (C := RX5) (T := TX5) (N := 13) hx hb hts inG_X5 hown hK hP 4 rfl rfl 0 (by decide +kernel) (hts _ fl_X5_22) (fun _ h9 => h9) rfl dX5_meetGlass_268 ?_
                        refine W.eq (g2 := F0 m 271 ls [.ref a_h, .int ((e_br * (10 - z39)) / 10)]) rfl ?_
                        refine va_get (D := G.1) (ci := 1) (v := .int e_le) (C := RX1) (T := TX1) (N := 13) hx hb hts inG_X1 hown hK hP 2 rfl rfl 1 (by decide +kernel) (hts _ fl_X5_138) (fun _ h9 => h9) rfl dX5_meetGlass_271 ?_
                        refine lv_icmp_ge (tgt := 278) hx hb dX5_meetGlass_274 (by decide +kernel) (fun c_44 => ?_) (fun c_44 => ?_)
                        ·
                          have i_44 : ((e_br * (10 - z39)) / 10).toInt ≥ e_le.toInt := g5_ge (a := ((e_br * (10 - z39)) / 10).toInt) (b := e_le.toInt) rfl rfl c_44
                          refine lv_aload_n hx hb dX5_meetGlass_278 rfl (lv_at hl 8 rfl) ?_
                          refine lv_dup hx hb dX5_meetGlass_279 rfl ?_
                          refine va_get (D := G.1) (ci := 5) (v := .int e_ho) (C := RX5) (T := TX5) (N := 13) hx hb hts inG_X5 hown hK hP 4 rfl rfl 11 (by decide +kernel) (hts _ fl_X5_33) (fun _ h9 => h9) rfl dX5_meetGlass_280 ?_
                          refine lv_iload hx hb dX5_meetGlass_283 (lv_at hl 1 rfl) ?_
                          refine W.eq (g2 := F0 m 285 ls [.int z32, .int e_ho, .ref a_k]) rfl ?_
                          refine lv_isub hx hb dX5_meetGlass_285 ?_
                          have t_45 : (e_ho - z32).toInt = e_ho.toInt - z32.toInt := g5_isub (a := e_ho.toInt) (b := z32.toInt) (by rfl) (by rfl) (by omega) (by omega)
                          refine va_put (D := G.1) (ci := 5) (v := .int (e_ho - z32)) (ty := .int) (C := RX5) (T := TX5) (N := 13) hx hb hts inG_X5 tyX5 tyX5_ok nmX5 hown hK hP hD hS 4 rfl rfl 11 (by decide +kernel) (hts _ fl_X5_33) (fun _ h9 => h9) rfl (by decide +kernel) rfl rfl (Nat.le_of_ble_eq_true rfl) dX5_meetGlass_286 ?_
                          clear hP hD hS
                          intro H locs hP hD hS
                          refine g5_rs [(a_g, (oc6 6 5 a_gn e_g)), (a_gn, (arI G 30 f_g)), (a_h, (oc1 e_wa e_le e_st e_fo e_lc a_l a_g a_b a_s a_p a_w e_gb a_bb)), (a_l, (arW G 6 f_l)), (a_k, (oc5 a_h a_j a_pt e_ln e_se e_lh ((e_br * (10 - z39)) / 10) e_we (e_me ||| (1 <<< ((6 + z13) &&& 31))) e_ce e_wy (e_ho - z32) 1)), (a_j, (oc2 a_as a_sk)), (a_as, (arI G 8 z22)), (a_sk, (arJ G 50 f_sk)), (a_p, (oc6 8 5 a_pn e_p)), (a_pn, (arI G 40 f_p))] hP hD ?_
                          clear hP hD
                          intro hP hD
                          refine lv_aload_n hx hb dX5_meetGlass_289 rfl (lv_at hl 8 rfl) ?_
                          refine lv_iload hx hb dX5_meetGlass_290 (lv_at hl 3 rfl) ?_
                          refine lv_if_ne (tgt := 304) hx hb dX5_meetGlass_292 (by decide +kernel) (fun c_46 => ?_) (fun c_46 => ?_)
                          ·
                            have n_46 : gNe (z18.toInt) (0) := g5_ne (a := z18.toInt) (b := 0) rfl (by decide +kernel) c_46
                            have i_46 : z18.toInt ≥ 1 := by have z := g5_ne (a := z18.toInt) (b := 0) (by rfl) (by decide +kernel) c_46; omega
                            refine lv_iload hx hb dX5_meetGlass_304 (lv_at hl 3 rfl) ?_
                            refine lv_iconst (v := 1) hx hb dX5_meetGlass_306 (by decide +kernel) ?_
                            refine lv_icmp_ne (tgt := 319) hx hb dX5_meetGlass_307 (by decide +kernel) (fun c_47 => ?_) (fun c_47 => ?_)
                            ·
                              have i_47 : z18.toInt ≠ 1 := g5_ne (a := z18.toInt) (b := 1) rfl (by decide +kernel) c_47
                              omega
                            ·
                              have i_47 : z18.toInt = 1 := g5_neN (a := z18.toInt) (b := 1) rfl (by decide +kernel) c_47
                              refine lv_iconst (v := 3) hx hb dX5_meetGlass_310 (by decide +kernel) ?_
                              refine lv_aload_n hx hb dX5_meetGlass_311 rfl (lv_at hl 8 rfl) ?_
                              refine va_get (D := G.1) (ci := 5) (v := .int e_wy) (C := RX5) (T := TX5) (N := 13) hx hb hts inG_X5 hown hK hP 4 rfl rfl 10 (by decide +kernel) (hts _ fl_X5_30) (fun _ h9 => h9) rfl dX5_meetGlass_312 ?_
                              refine lv_isub hx hb dX5_meetGlass_315 ?_
                              have t_48 : (3 - e_wy).toInt = 3 - e_wy.toInt := g5_isub (a := 3) (b := e_wy.toInt) (by decide +kernel) (by rfl) (by omega) (by omega)
                              refine W.eq (g2 := F0 m 316 ls [.int (3 - e_wy), .ref a_k]) rfl ?_
                              refine lv_goto (tgt := 325) hx hb dX5_meetGlass_316 (by decide +kernel) ?_
                              refine va_put (D := G.1) (ci := 5) (v := .int (3 - e_wy)) (ty := .int) (C := RX5) (T := TX5) (N := 13) hx hb hts inG_X5 tyX5 tyX5_ok nmX5 hown hK hP hD hS 4 rfl rfl 10 (by decide +kernel) (hts _ fl_X5_30) (fun _ h9 => h9) rfl (by decide +kernel) rfl rfl (Nat.le_of_ble_eq_true rfl) dX5_meetGlass_325 ?_
                              clear hP hD hS
                              intro H locs hP hD hS
                              refine g5_rs [(a_g, (oc6 6 5 a_gn e_g)), (a_gn, (arI G 30 f_g)), (a_h, (oc1 e_wa e_le e_st e_fo e_lc a_l a_g a_b a_s a_p a_w e_gb a_bb)), (a_l, (arW G 6 f_l)), (a_k, (oc5 a_h a_j a_pt e_ln e_se e_lh ((e_br * (10 - z39)) / 10) e_we (e_me ||| (1 <<< ((6 + z13) &&& 31))) e_ce (3 - e_wy) (e_ho - z32) 1)), (a_j, (oc2 a_as a_sk)), (a_as, (arI G 8 z22)), (a_sk, (arJ G 50 f_sk)), (a_p, (oc6 8 5 a_pn e_p)), (a_pn, (arI G 40 f_p))] hP hD ?_
                              clear hP hD
                              intro hP hD
                              refine lv_aload_n hx hb dX5_meetGlass_328 rfl (lv_at hl 8 rfl) ?_
                              refine lv_dup hx hb dX5_meetGlass_329 rfl ?_
                              refine va_get (D := G.1) (ci := 5) (v := .int e_we) (C := RX5) (T := TX5) (N := 13) hx hb hts inG_X5 hown hK hP 4 rfl rfl 7 (by decide +kernel) (hts _ fl_X5_49) (fun _ h9 => h9) rfl dX5_meetGlass_330 ?_
                              refine W.eq (g2 := F0 m 333 ls [.int e_we, .ref a_k]) rfl ?_
                              refine lv_iconst (v := 1) hx hb dX5_meetGlass_333 (by decide +kernel) ?_
                              refine lv_iload hx hb dX5_meetGlass_334 (lv_at hl 4 rfl) ?_
                              refine lv_ishl hx hb dX5_meetGlass_336 ?_
                              refine lv_ior hx hb dX5_meetGlass_337 ?_
                              refine va_put (D := G.1) (ci := 5) (v := .int (e_we ||| (1 <<< ((6 + z13) &&& 31)))) (ty := .int) (C := RX5) (T := TX5) (N := 13) hx hb hts inG_X5 tyX5 tyX5_ok nmX5 hown hK hP hD hS 4 rfl rfl 7 (by decide +kernel) (hts _ fl_X5_49) (fun _ h9 => h9) rfl (by decide +kernel) rfl rfl (Nat.le_of_ble_eq_true rfl) dX5_meetGlass_338 ?_
                              clear hP hD hS
                              intro H locs hP hD hS
                              refine g5_rs [(a_g, (oc6 6 5 a_gn e_g)), (a_gn, (arI G 30 f_g)), (a_h, (oc1 e_wa e_le e_st e_fo e_lc a_l a_g a_b a_s a_p a_w e_gb a_bb)), (a_l, (arW G 6 f_l)), (a_k, (oc5 a_h a_j a_pt e_ln e_se e_lh ((e_br * (10 - z39)) / 10) (e_we ||| (1 <<< ((6 + z13) &&& 31))) (e_me ||| (1 <<< ((6 + z13) &&& 31))) e_ce (3 - e_wy) (e_ho - z32) 1)), (a_j, (oc2 a_as a_sk)), (a_as, (arI G 8 z22)), (a_sk, (arJ G 50 f_sk)), (a_p, (oc6 8 5 a_pn e_p)), (a_pn, (arI G 40 f_p))] hP hD ?_
                              clear hP hD
                              intro hP hD
                              refine W.eq (g2 := F0 m 341 ls []) rfl ?_
                              refine lv_aload_n hx hb dX5_meetGlass_341 rfl (lv_at hl 8 rfl) ?_
                              refine lv_iconst (v := 0) hx hb dX5_meetGlass_342 (by decide +kernel) ?_
                              refine va_put (D := G.1) (ci := 5) (v := .int 0) (ty := .boolean) (C := RX5) (T := TX5) (N := 13) hx hb hts inG_X5 tyX5 tyX5_ok nmX5 hown hK hP hD hS 4 rfl rfl 12 (by decide +kernel) (hts _ fl_X5_56) (fun _ h9 => h9) rfl (by decide +kernel) rfl rfl (Nat.le_of_ble_eq_true rfl) dX5_meetGlass_343 ?_
                              clear hP hD hS
                              intro H locs hP hD hS
                              refine g5_rs [(a_g, (oc6 6 5 a_gn e_g)), (a_gn, (arI G 30 f_g)), (a_h, (oc1 e_wa e_le e_st e_fo e_lc a_l a_g a_b a_s a_p a_w e_gb a_bb)), (a_l, (arW G 6 f_l)), (a_k, (oc5 a_h a_j a_pt e_ln e_se e_lh ((e_br * (10 - z39)) / 10) (e_we ||| (1 <<< ((6 + z13) &&& 31))) (e_me ||| (1 <<< ((6 + z13) &&& 31))) e_ce (3 - e_wy) (e_ho - z32) 0)), (a_j, (oc2 a_as a_sk)), (a_as, (arI G 8 z22)), (a_sk, (arJ G 50 f_sk)), (a_p, (oc6 8 5 a_pn e_p)), (a_pn, (arI G 40 f_p))] hP hD ?_
                              clear hP hD
                              intro hP hD
                              exact W.vret hx hb hr (fun t ht hW => ⟨⟨[(a_k, (oc5 a_h a_j a_pt e_ln e_se e_lh ((e_br * (10 - z39)) / 10) (e_we ||| (1 <<< ((6 + z13) &&& 31))) (e_me ||| (1 <<< ((6 + z13) &&& 31))) e_ce (3 - e_wy) (e_ho - z32) 0)), (a_h, (oc1 e_wa e_le e_st e_fo e_lc a_l a_g a_b a_s a_p a_w e_gb a_bb)), (a_g, (oc6 6 5 a_gn e_g)), (a_gn, (arI G 30 f_g)), (a_p, (oc6 8 5 a_pn e_p)), (a_pn, (arI G 40 f_p)), (a_j, (oc2 a_as a_sk)), (a_as, (arI G 8 z22)), (a_sk, (arJ G 50 f_sk)), (a_l, (arW G 6 f_l))], rfl, Or.inr (⟨((e_br * (10 - z39)) / 10), (e_we ||| (1 <<< ((6 + z13) &&& 31))), (e_me ||| (1 <<< ((6 + z13) &&& 31))), (3 - e_wy), (e_ho - z32), z22, f_sk, ⟨by omega, by omega⟩, ⟨by omega, by omega⟩, ⟨by omega, by omega⟩, by rw [met_sc (du := 0) hGF hSF (by omega) hc1_20 rfl (by decide +kernel) e_f4, tn_3 hNS hV_34 (by omega) hV_41 rfl (by omega), nw_1 (so := z18) (by omega)], rfl⟩), by rw [ht]; exact hP.sub [4, 2, 0, 1, 8, 9, 5, 6, 7, 3] rfl, hD.sub [4, 2, 0, 1, 8, 9, 5, 6, 7, 3] (by decide +kernel) rfl⟩, hS.F ht⟩) hS.2.2 dX5_meetGlass_346
                          ·
                            have i_46 : z18.toInt = 0 := g5_neN (a := z18.toInt) (b := 0) rfl (by decide +kernel) c_46
                            refine lv_aload_n hx hb dX5_meetGlass_295 rfl (lv_at hl 8 rfl) ?_
                            refine va_get (D := G.1) (ci := 5) (v := .int e_wy) (C := RX5) (T := TX5) (N := 13) hx hb hts inG_X5 hown hK hP 4 rfl rfl 10 (by decide +kernel) (hts _ fl_X5_30) (fun _ h9 => h9) rfl dX5_meetGlass_296 ?_
                            refine lv_iconst (v := 1) hx hb dX5_meetGlass_299 (by decide +kernel) ?_
                            refine lv_ixor hx hb dX5_meetGlass_300 ?_
                            have hx_49 := (g_xor (w := e_wy) (by omega) (by omega)).1
                            refine W.eq (g2 := F0 m 301 ls [.int (e_wy ^^^ 1), .ref a_k]) rfl ?_
                            refine lv_goto (tgt := 325) hx hb dX5_meetGlass_301 (by decide +kernel) ?_
                            refine va_put (D := G.1) (ci := 5) (v := .int (e_wy ^^^ 1)) (ty := .int) (C := RX5) (T := TX5) (N := 13) hx hb hts inG_X5 tyX5 tyX5_ok nmX5 hown hK hP hD hS 4 rfl rfl 10 (by decide +kernel) (hts _ fl_X5_30) (fun _ h9 => h9) rfl (by decide +kernel) rfl rfl (Nat.le_of_ble_eq_true rfl) dX5_meetGlass_325 ?_
                            clear hP hD hS
                            intro H locs hP hD hS
                            refine g5_rs [(a_g, (oc6 6 5 a_gn e_g)), (a_gn, (arI G 30 f_g)), (a_h, (oc1 e_wa e_le e_st e_fo e_lc a_l a_g a_b a_s a_p a_w e_gb a_bb)), (a_l, (arW G 6 f_l)), (a_k, (oc5 a_h a_j a_pt e_ln e_se e_lh ((e_br * (10 - z39)) / 10) e_we (e_me ||| (1 <<< ((6 + z13) &&& 31))) e_ce (e_wy ^^^ 1) (e_ho - z32) 1)), (a_j, (oc2 a_as a_sk)), (a_as, (arI G 8 z22)), (a_sk, (arJ G 50 f_sk)), (a_p, (oc6 8 5 a_pn e_p)), (a_pn, (arI G 40 f_p))] hP hD ?_
                            clear hP hD
                            intro hP hD
                            refine lv_aload_n hx hb dX5_meetGlass_328 rfl (lv_at hl 8 rfl) ?_
                            refine lv_dup hx hb dX5_meetGlass_329 rfl ?_
                            refine va_get (D := G.1) (ci := 5) (v := .int e_we) (C := RX5) (T := TX5) (N := 13) hx hb hts inG_X5 hown hK hP 4 rfl rfl 7 (by decide +kernel) (hts _ fl_X5_49) (fun _ h9 => h9) rfl dX5_meetGlass_330 ?_
                            refine W.eq (g2 := F0 m 333 ls [.int e_we, .ref a_k]) rfl ?_
                            refine lv_iconst (v := 1) hx hb dX5_meetGlass_333 (by decide +kernel) ?_
                            refine lv_iload hx hb dX5_meetGlass_334 (lv_at hl 4 rfl) ?_
                            refine lv_ishl hx hb dX5_meetGlass_336 ?_
                            refine lv_ior hx hb dX5_meetGlass_337 ?_
                            refine va_put (D := G.1) (ci := 5) (v := .int (e_we ||| (1 <<< ((6 + z13) &&& 31)))) (ty := .int) (C := RX5) (T := TX5) (N := 13) hx hb hts inG_X5 tyX5 tyX5_ok nmX5 hown hK hP hD hS 4 rfl rfl 7 (by decide +kernel) (hts _ fl_X5_49) (fun _ h9 => h9) rfl (by decide +kernel) rfl rfl (Nat.le_of_ble_eq_true rfl) dX5_meetGlass_338 ?_
                            clear hP hD hS
                            intro H locs hP hD hS
                            refine g5_rs [(a_g, (oc6 6 5 a_gn e_g)), (a_gn, (arI G 30 f_g)), (a_h, (oc1 e_wa e_le e_st e_fo e_lc a_l a_g a_b a_s a_p a_w e_gb a_bb)), (a_l, (arW G 6 f_l)), (a_k, (oc5 a_h a_j a_pt e_ln e_se e_lh ((e_br * (10 - z39)) / 10) (e_we ||| (1 <<< ((6 + z13) &&& 31))) (e_me ||| (1 <<< ((6 + z13) &&& 31))) e_ce (e_wy ^^^ 1) (e_ho - z32) 1)), (a_j, (oc2 a_as a_sk)), (a_as, (arI G 8 z22)), (a_sk, (arJ G 50 f_sk)), (a_p, (oc6 8 5 a_pn e_p)), (a_pn, (arI G 40 f_p))] hP hD ?_
                            clear hP hD
                            intro hP hD
                            refine W.eq (g2 := F0 m 341 ls []) rfl ?_
                            refine lv_aload_n hx hb dX5_meetGlass_341 rfl (lv_at hl 8 rfl) ?_
                            refine lv_iconst (v := 0) hx hb dX5_meetGlass_342 (by decide +kernel) ?_
                            refine va_put (D := G.1) (ci := 5) (v := .int 0) (ty := .boolean) (C := RX5) (T := TX5) (N := 13) hx hb hts inG_X5 tyX5 tyX5_ok nmX5 hown hK hP hD hS 4 rfl rfl 12 (by decide +kernel) (hts _ fl_X5_56) (fun _ h9 => h9) rfl (by decide +kernel) rfl rfl (Nat.le_of_ble_eq_true rfl) dX5_meetGlass_343 ?_
                            clear hP hD hS
                            intro H locs hP hD hS
                            refine g5_rs [(a_g, (oc6 6 5 a_gn e_g)), (a_gn, (arI G 30 f_g)), (a_h, (oc1 e_wa e_le e_st e_fo e_lc a_l a_g a_b a_s a_p a_w e_gb a_bb)), (a_l, (arW G 6 f_l)), (a_k, (oc5 a_h a_j a_pt e_ln e_se e_lh ((e_br * (10 - z39)) / 10) (e_we ||| (1 <<< ((6 + z13) &&& 31))) (e_me ||| (1 <<< ((6 + z13) &&& 31))) e_ce (e_wy ^^^ 1) (e_ho - z32) 0)), (a_j, (oc2 a_as a_sk)), (a_as, (arI G 8 z22)), (a_sk, (arJ G 50 f_sk)), (a_p, (oc6 8 5 a_pn e_p)), (a_pn, (arI G 40 f_p))] hP hD ?_
                            clear hP hD
                            intro hP hD
                            exact W.vret hx hb hr (fun t ht hW => ⟨⟨[(a_k, (oc5 a_h a_j a_pt e_ln e_se e_lh ((e_br * (10 - z39)) / 10) (e_we ||| (1 <<< ((6 + z13) &&& 31))) (e_me ||| (1 <<< ((6 + z13) &&& 31))) e_ce (e_wy ^^^ 1) (e_ho - z32) 0)), (a_h, (oc1 e_wa e_le e_st e_fo e_lc a_l a_g a_b a_s a_p a_w e_gb a_bb)), (a_g, (oc6 6 5 a_gn e_g)), (a_gn, (arI G 30 f_g)), (a_p, (oc6 8 5 a_pn e_p)), (a_pn, (arI G 40 f_p)), (a_j, (oc2 a_as a_sk)), (a_as, (arI G 8 z22)), (a_sk, (arJ G 50 f_sk)), (a_l, (arW G 6 f_l))], rfl, Or.inr (⟨((e_br * (10 - z39)) / 10), (e_we ||| (1 <<< ((6 + z13) &&& 31))), (e_me ||| (1 <<< ((6 + z13) &&& 31))), (e_wy ^^^ 1), (e_ho - z32), z22, f_sk, ⟨by omega, by omega⟩, ⟨by omega, by omega⟩, ⟨by omega, by omega⟩, by rw [met_sc (du := 0) hGF hSF (by omega) hc1_20 rfl (by decide +kernel) e_f4, tn_3 hNS hV_34 (by omega) hV_41 rfl (by omega), nw_0 (so := z18) (by omega)], rfl⟩), by rw [ht]; exact hP.sub [4, 2, 0, 1, 8, 9, 5, 6, 7, 3] rfl, hD.sub [4, 2, 0, 1, 8, 9, 5, 6, 7, 3] (by decide +kernel) rfl⟩, hS.F ht⟩) hS.2.2 dX5_meetGlass_346
                        ·
                          have i_44 : ((e_br * (10 - z39)) / 10).toInt < e_le.toInt := g5_geN (a := ((e_br * (10 - z39)) / 10).toInt) (b := e_le.toInt) rfl rfl c_44
                          exact W.vret hx hb hr (fun t ht hW => ⟨⟨[(a_k, (oc5 a_h a_j a_pt e_ln e_se e_lh ((e_br * (10 - z39)) / 10) e_we (e_me ||| (1 <<< ((6 + z13) &&& 31))) e_ce e_wy e_ho 1)), (a_h, (oc1 e_wa e_le e_st e_fo e_lc a_l a_g a_b a_s a_p a_w e_gb a_bb)), (a_g, (oc6 6 5 a_gn e_g)), (a_gn, (arI G 30 f_g)), (a_p, (oc6 8 5 a_pn e_p)), (a_pn, (arI G 40 f_p)), (a_j, (oc2 a_as a_sk)), (a_as, (arI G 8 z22)), (a_sk, (arJ G 50 f_sk)), (a_l, (arW G 6 f_l))], rfl, Or.inl (⟨((e_br * (10 - z39)) / 10), (e_me ||| (1 <<< ((6 + z13) &&& 31))), z22, f_sk, ⟨by omega, by omega⟩, by rw [met_sc (du := 0) hGF hSF (by omega) hc1_20 rfl (by decide +kernel) e_f4, tn_2 hNS hV_34 (by omega) hV_41 rfl (by omega)]; exact ⟨rfl, rfl, rfl⟩, rfl⟩), by rw [ht]; exact hP.sub [4, 2, 0, 1, 8, 9, 5, 6, 7, 3] rfl, hD.sub [4, 2, 0, 1, 8, 9, 5, 6, 7, 3] (by decide +kernel) rfl⟩, hS.F ht⟩) hS.2.2 dX5_meetGlass_277
                      ·
                        exact absurd c_37 (by decide +kernel)
                    ·
                      have i_36 : z32.toInt > e_ho.toInt := g5_leN (a := z32.toInt) (b := e_ho.toInt) rfl rfl c_36
                      exact W.vret hx hb hr (fun t ht hW => ⟨⟨[(a_k, (oc5 a_h a_j a_pt e_ln e_se e_lh e_br e_we (e_me ||| (1 <<< ((6 + z13) &&& 31))) e_ce e_wy e_ho 1)), (a_h, (oc1 e_wa e_le e_st e_fo e_lc a_l a_g a_b a_s a_p a_w e_gb a_bb)), (a_g, (oc6 6 5 a_gn e_g)), (a_gn, (arI G 30 f_g)), (a_p, (oc6 8 5 a_pn e_p)), (a_pn, (arI G 40 f_p)), (a_j, (oc2 a_as a_sk)), (a_as, (arI G 8 z22)), (a_sk, (arJ G 50 f_sk)), (a_l, (arW G 6 f_l))], rfl, Or.inl (⟨e_br, (e_me ||| (1 <<< ((6 + z13) &&& 31))), z22, f_sk, h_e_br, by rw [met_sc (du := 0) hGF hSF (by omega) hc1_20 rfl (by decide +kernel) e_f4, tn_1 hNS hV_34 (by omega)]; exact ⟨rfl, rfl, rfl⟩, rfl⟩), by rw [ht]; exact hP.sub [4, 2, 0, 1, 8, 9, 5, 6, 7, 3] rfl, hD.sub [4, 2, 0, 1, 8, 9, 5, 6, 7, 3] (by decide +kernel) rfl⟩, hS.F ht⟩) hS.2.2 dX5_meetGlass_212
                  ·
                    exact absurd c_30 (by decide +kernel)
                ·
                  have i_29 : z18.toInt ≥ 2 := g5_ltN (a := z18.toInt) (b := 2) rfl (by decide +kernel) c_29
                  refine lv_iload hx hb dX5_meetGlass_156 (lv_at hl 1 rfl) ?_
                  refine lv_iconst (v := 2) hx hb dX5_meetGlass_158 (by decide +kernel) ?_
                  refine lv_isub hx hb dX5_meetGlass_159 ?_
                  have t_50 : (z18 - 2).toInt = z18.toInt - 2 := g5_isub (a := z18.toInt) (b := 2) (by rfl) (by decide +kernel) (by omega) (by omega)
                  refine lv_aload_n hx hb dX5_meetGlass_160 rfl (lv_at hl 6 rfl) ?_
                  refine W.eq (g2 := F0 m 161 ls [.ref a_k, .int (z18 - 2)]) rfl ?_
                  refine va_get (D := G.1) (ci := 5) (v := .int e_wy) (C := RX5) (T := TX5) (N := 13) hx hb hts inG_X5 hown hK hP 4 rfl rfl 10 (by decide +kernel) (hts _ fl_X5_30) (fun _ h9 => h9) rfl dX5_meetGlass_161 ?_
                  refine lv_iconst (v := 2) hx hb dX5_meetGlass_164 (by decide +kernel) ?_
                  refine lv_ixor hx hb dX5_meetGlass_165 ?_
                  have hx_51 := (g_xor (w := e_wy) (by omega) (by omega)).2
                  refine lv_icmp_eq (tgt := 170) hx hb dX5_meetGlass_166 (by decide +kernel) (fun c_52 => ?_) (fun c_52 => ?_)
                  ·
                    have i_52 : (z18.toInt - 2) = (e_wy ^^^ 2).toInt := by have z := g5_eq (a := (z18 - 2).toInt) (b := (e_wy ^^^ 2).toInt) (by rfl) (by rfl) c_52; omega
                    have hNS : ¬ (False ∨ toldW g_w 2 (askQ (6 + z13) e_ce e_ho e_wy (-1) e_ln e_br) ≠ none ∨ (2 ≤ z18.toInt ∧ e_wy.toInt ≠ z18.toInt % 4)) := ns_of id (tW_n e_w) (fun q9 => by have q8 := wr_of (so := z18) (wy := e_wy) ⟨by omega, by omega⟩ ⟨by omega, by omega⟩; first | omega | (unfold gNe at *; omega))
                    refine lv_aload_n hx hb dX5_meetGlass_170 rfl (lv_at hl 6 rfl) ?_
                    refine va_get (D := G.1) (ci := 5) (v := .ref a_j) (C := RX5) (T := TX5) (N := 13) hx hb hts inG_X5 hown hK hP 4 rfl rfl 1 (by decide +kernel) (hts _ fl_X5_12) (fun _ h9 => h9) rfl dX5_meetGlass_171 ?_
                    refine lv_aloadN hx hb dX5_meetGlass_174 (lv_at hl 0 rfl) ?_
                    refine lv_iconst (v := 0) hx hb dX5_meetGlass_176 (by decide +kernel) ?_
                    refine W.eq (g2 := F0 m 177 ls [.int 0, .null, .ref a_j]) rfl ?_
                    obtain ⟨hPc, hDc, hFc⟩ := g5_sub3 (wc := [(a_j, (oc2 a_as a_sk)), (a_as, (arI G 8 z22)), (a_sk, (arJ G 50 f_sk))]) hP hD hS hA [7, 8, 9] (by decide +kernel) rfl
                    refine va_calli (va_runV (As := [.null, .int 0]) (rest := []) ⟨hx, hb, hml, hown, hts⟩ (j_isHeldN l G a_j a_as a_sk H.size 0 z22 f_sk) (cwV 2 hts gV_X5_124 rfl rfl rfl hv_X2_isHeld ⟨Nat.le_of_ble_eq_true rfl, Nat.le_of_ble_eq_true rfl⟩) (g5_preV hPc hK hDc hN hT hS hFc (ci := 2) (q0 := 0) rfl rfl) rfl rfl hl.1 rfl (lv_room (Nat.le_of_ble_eq_true rfl)) dX5_meetGlass_177 ⟨Nat.le_of_ble_eq_true rfl, Nat.le_of_ble_eq_true rfl⟩) hS (fun q _ h => hFc q h) hFc (fun r u t H locs ht hvm hw hB hz1 hk1 hS => ?_)
                    obtain ⟨hP1, hD1⟩ := hB
                    have hP1 := g5_ht ht hP1
                    obtain ⟨rfl, rfl⟩ := hw
                    have hJ9 := va_join (wr := [(a_g, (oc6 6 5 a_gn e_g)), (a_gn, (arI G 30 f_g)), (a_h, (oc1 e_wa e_le e_st e_fo e_lc a_l a_g a_b a_s a_p a_w e_gb a_bb)), (a_l, (arW G 6 f_l)), (a_k, (oc5 a_h a_j a_pt e_ln e_se e_lh e_br e_we (e_me ||| (1 <<< ((6 + z13) &&& 31))) e_ce e_wy e_ho 1)), (a_p, (oc6 8 5 a_pn e_p)), (a_pn, (arI G 40 f_p))]) hP hD [7, 8, 9] [0, 1, 2, 3, 4, 5, 6] rfl rfl (by decide +kernel) (by decide +kernel) hk1 hFc hP1 hD1
                    clear hP hD hPc hDc hFc ht hvm hz1 hk1 hP1 hD1
                    obtain ⟨hP, hD⟩ := hJ9
                    refine g5_rs [(a_g, (oc6 6 5 a_gn e_g)), (a_gn, (arI G 30 f_g)), (a_h, (oc1 e_wa e_le e_st e_fo e_lc a_l a_g a_b a_s a_p a_w e_gb a_bb)), (a_l, (arW G 6 f_l)), (a_k, (oc5 a_h a_j a_pt e_ln e_se e_lh e_br e_we (e_me ||| (1 <<< ((6 + z13) &&& 31))) e_ce e_wy e_ho 1)), (a_p, (oc6 8 5 a_pn e_p)), (a_pn, (arI G 40 f_p)), (a_j, (oc2 a_as a_sk)), (a_as, (arI G 8 z22)), (a_sk, (arJ G 50 f_sk))] hP hD ?_
                    clear hP hD
                    intro hP hD
                    refine lv_if_eq (tgt := 195) hx hb dX5_meetGlass_180 (by decide +kernel) (fun c_53 => ?_) (fun c_53 => ?_)
                    ·
                      refine lv_aload_n hx hb dX5_meetGlass_195 rfl (lv_at hl 4 rfl) ?_
                      refine lv_iload_n hx hb dX5_meetGlass_196 rfl (lv_at hl 3 rfl) ?_
                      refine lv_iconst (v := 2) hx hb dX5_meetGlass_197 (by decide +kernel) ?_
                      obtain ⟨hPc, hDc, hFc⟩ := g5_sub3 (wc := [(a_p, (oc6 8 5 a_pn e_p)), (a_pn, (arI G 40 f_p))]) hP hD hS hA [5, 6] (by decide +kernel) rfl
                      refine va_calli (va_runV (As := [.int z13, .int 2]) (rest := []) ⟨hx, hb, hml, hown, hts⟩ (t_get_P l G a_p a_pn H.size e_p z13 2 f_p h_e_p) (cwV 2 hts gV_X5_107 rfl rfl rfl hv_X6_get ⟨Nat.le_of_ble_eq_true rfl, Nat.le_of_ble_eq_true rfl⟩) (g5_preV hPc hK hDc hN hT hS hFc (ci := 6) (q0 := 0) rfl rfl) rfl rfl hl.1 rfl (lv_room (Nat.le_of_ble_eq_true rfl)) dX5_meetGlass_198 ⟨Nat.le_of_ble_eq_true rfl, Nat.le_of_ble_eq_true rfl⟩) hS (fun q _ h => hFc q h) hFc (fun r u t H locs ht hvm hw hB hz1 hk1 hS => ?_)
                      obtain ⟨hP1, hD1⟩ := hB
                      have hP1 := g5_ht ht hP1
                      obtain ⟨z55, (i_54 : z55 = tget f_p e_p.toInt 5 z13.toInt (2 : Int32).toInt), y56, rfl⟩ := hw
                      have hJ9 := va_join (wr := [(a_g, (oc6 6 5 a_gn e_g)), (a_gn, (arI G 30 f_g)), (a_h, (oc1 e_wa e_le e_st e_fo e_lc a_l a_g a_b a_s a_p a_w e_gb a_bb)), (a_l, (arW G 6 f_l)), (a_k, (oc5 a_h a_j a_pt e_ln e_se e_lh e_br e_we (e_me ||| (1 <<< ((6 + z13) &&& 31))) e_ce e_wy e_ho 1)), (a_j, (oc2 a_as a_sk)), (a_as, (arI G 8 z22)), (a_sk, (arJ G 50 f_sk))]) hP hD [5, 6] [0, 1, 2, 3, 4, 7, 8, 9] rfl rfl (by decide +kernel) (by decide +kernel) hk1 hFc hP1 hD1
                      clear hP hD hPc hDc hFc ht hvm hz1 hk1 hP1 hD1
                      obtain ⟨hP, hD⟩ := hJ9
                      refine g5_rs [(a_g, (oc6 6 5 a_gn e_g)), (a_gn, (arI G 30 f_g)), (a_h, (oc1 e_wa e_le e_st e_fo e_lc a_l a_g a_b a_s a_p a_w e_gb a_bb)), (a_l, (arW G 6 f_l)), (a_k, (oc5 a_h a_j a_pt e_ln e_se e_lh e_br e_we (e_me ||| (1 <<< ((6 + z13) &&& 31))) e_ce e_wy e_ho 1)), (a_j, (oc2 a_as a_sk)), (a_as, (arI G 8 z22)), (a_sk, (arJ G 50 f_sk)), (a_p, (oc6 8 5 a_pn e_p)), (a_pn, (arI G 40 f_p))] hP hD ?_
                      clear hP hD
                      intro hP hD
                      refine g5_ti (v := z55) y56 ?_
                      have hc2_58 := sp_col (k := 2) e_qp i_10 i_54 (by decide +kernel) (by omega)
                      have hg_58 : 0 ≤ z55.toInt ∧ z55.toInt ≤ 23 := by rw [i_54]; exact (e_pk z13.toInt (by omega) (by omega)).2.2.1
                      have hV_57 : z55 = tellQ (toldW g_w 0 (askQ (6 + z13) e_ce e_ho e_wy (-1) e_ln e_br)) (f_ro (270 + 3 * z13.toInt.toNat + 2)) 23 := hc2_58.symm.trans (tell_n (tW_n e_w))
                      refine W.eq (g2 := F0 m 201 ls [.int z55]) rfl ?_
                      refine lv_istore (lv' := [(7, .int z55), (6, .null), (5, .int z18), (4, .int (6 + z13)), (3, .int z13), (2, .ref a_p), (1, .int (-1)), (0, .ref a_k)]) hx hb dX5_meetGlass_201 hl (by decide +kernel) rfl ?_
                      clear hl
                      intro ls hl
                      refine lv_iload hx hb dX5_meetGlass_203 (lv_at hl 0 rfl) ?_
                      refine lv_aload_n hx hb dX5_meetGlass_205 rfl (lv_at hl 7 rfl) ?_
                      refine va_get (D := G.1) (ci := 5) (v := .int e_ho) (C := RX5) (T := TX5) (N := 13) hx hb hts inG_X5 hown hK hP 4 rfl rfl 11 (by decide +kernel) (hts _ fl_X5_33) (fun _ h9 => h9) rfl dX5_meetGlass_206 ?_
                      refine lv_icmp_le (tgt := 213) hx hb dX5_meetGlass_209 (by decide +kernel) (fun c_59 => ?_) (fun c_59 => ?_)
                      ·
                        have i_59 : z55.toInt ≤ e_ho.toInt := g5_le (a := z55.toInt) (b := e_ho.toInt) rfl rfl c_59
                        refine lv_aload_n hx hb dX5_meetGlass_213 rfl (lv_at hl 7 rfl) ?_
                        refine va_get (D := G.1) (ci := 5) (v := .ref a_j) (C := RX5) (T := TX5) (N := 13) hx hb hts inG_X5 hown hK hP 4 rfl rfl 1 (by decide +kernel) (hts _ fl_X5_12) (fun _ h9 => h9) rfl dX5_meetGlass_214 ?_
                        refine lv_aloadN hx hb dX5_meetGlass_217 (lv_at hl 1 rfl) ?_
                        refine lv_iconst (v := 1) hx hb dX5_meetGlass_219 (by decide +kernel) ?_
                        refine W.eq (g2 := F0 m 220 ls [.int 1, .null, .ref a_j]) rfl ?_
                        obtain ⟨hPc, hDc, hFc⟩ := g5_sub3 (wc := [(a_j, (oc2 a_as a_sk)), (a_as, (arI G 8 z22)), (a_sk, (arJ G 50 f_sk))]) hP hD hS hA [5, 6, 7] (by decide +kernel) rfl
                        refine va_calli (va_runV (As := [.null, .int 1]) (rest := []) ⟨hx, hb, hml, hown, hts⟩ (j_isHeldN l G a_j a_as a_sk H.size 1 z22 f_sk) (cwV 2 hts gV_X5_124 rfl rfl rfl hv_X2_isHeld ⟨Nat.le_of_ble_eq_true rfl, Nat.le_of_ble_eq_true rfl⟩) (g5_preV hPc hK hDc hN hT hS hFc (ci := 2) (q0 := 0) rfl rfl) rfl rfl hl.1 rfl (lv_room (Nat.le_of_ble_eq_true rfl)) dX5_meetGlass_220 ⟨Nat.le_of_ble_eq_true rfl, Nat.le_of_ble_eq_true rfl⟩) hS (fun q _ h => hFc q h) hFc (fun r u t H locs ht hvm hw hB hz1 hk1 hS => ?_)
                        obtain ⟨hP1, hD1⟩ := hB
                        have hP1 := g5_ht ht hP1
                        obtain ⟨rfl, rfl⟩ := hw
                        have hJ9 := va_join (wr := [(a_g, (oc6 6 5 a_gn e_g)), (a_gn, (arI G 30 f_g)), (a_h, (oc1 e_wa e_le e_st e_fo e_lc a_l a_g a_b a_s a_p a_w e_gb a_bb)), (a_l, (arW G 6 f_l)), (a_k, (oc5 a_h a_j a_pt e_ln e_se e_lh e_br e_we (e_me ||| (1 <<< ((6 + z13) &&& 31))) e_ce e_wy e_ho 1)), (a_p, (oc6 8 5 a_pn e_p)), (a_pn, (arI G 40 f_p))]) hP hD [5, 6, 7] [0, 1, 2, 3, 4, 8, 9] rfl rfl (by decide +kernel) (by decide +kernel) hk1 hFc hP1 hD1
                        clear hP hD hPc hDc hFc ht hvm hz1 hk1 hP1 hD1
                        obtain ⟨hP, hD⟩ := hJ9
                        refine g5_rs [(a_g, (oc6 6 5 a_gn e_g)), (a_gn, (arI G 30 f_g)), (a_h, (oc1 e_wa e_le e_st e_fo e_lc a_l a_g a_b a_s a_p a_w e_gb a_bb)), (a_l, (arW G 6 f_l)), (a_k, (oc5 a_h a_j a_pt e_ln e_se e_lh e_br e_we (e_me ||| (1 <<< ((6 + z13) &&& 31))) e_ce e_wy e_ho 1)), (a_p, (oc6 8 5 a_pn e_p)), (a_pn, (arI G 40 f_p)), (a_j, (oc2 a_as a_sk)), (a_as, (arI G 8 z22)), (a_sk, (arJ G 50 f_sk))] hP hD ?_
                        clear hP hD
                        intro hP hD
                        refine lv_if_eq (tgt := 238) hx hb dX5_meetGlass_223 (by decide +kernel) (fun c_60 => ?_) (fun c_60 => ?_)
                        ·
                          refine lv_aload_n hx hb dX5_meetGlass_238 rfl (lv_at hl 5 rfl) ?_
                          refine lv_iload_n hx hb dX5_meetGlass_239 rfl (lv_at hl 4 rfl) ?_
                          refine lv_iconst (v := 3) hx hb dX5_meetGlass_240 (by decide +kernel) ?_
                          obtain ⟨hPc, hDc, hFc⟩ := g5_sub3 (wc := [(a_p, (oc6 8 5 a_pn e_p)), (a_pn, (arI G 40 f_p))]) hP hD hS hA [5, 6] (by decide +kernel) rfl
                          refine va_calli (va_runV (As := [.int z13, .int 3]) (rest := []) ⟨hx, hb, hml, hown, hts⟩ (t_get_P l G a_p a_pn H.size e_p z13 3 f_p h_e_p) (cwV 2 hts gV_X5_107 rfl rfl rfl hv_X6_get ⟨Nat.le_of_ble_eq_true rfl, Nat.le_of_ble_eq_true rfl⟩) (g5_preV hPc hK hDc hN hT hS hFc (ci := 6) (q0 := 0) rfl rfl) rfl rfl hl.1 rfl (lv_room (Nat.le_of_ble_eq_true rfl)) dX5_meetGlass_241 ⟨Nat.le_of_ble_eq_true rfl, Nat.le_of_ble_eq_true rfl⟩) hS (fun q _ h => hFc q h) hFc (fun r u t H locs ht hvm hw hB hz1 hk1 hS => ?_)
                          obtain ⟨hP1, hD1⟩ := hB
                          have hP1 := g5_ht ht hP1
                          obtain ⟨z62, (i_61 : z62 = tget f_p e_p.toInt 5 z13.toInt (3 : Int32).toInt), y63, rfl⟩ := hw
                          have hJ9 := va_join (wr := [(a_g, (oc6 6 5 a_gn e_g)), (a_gn, (arI G 30 f_g)), (a_h, (oc1 e_wa e_le e_st e_fo e_lc a_l a_g a_b a_s a_p a_w e_gb a_bb)), (a_l, (arW G 6 f_l)), (a_k, (oc5 a_h a_j a_pt e_ln e_se e_lh e_br e_we (e_me ||| (1 <<< ((6 + z13) &&& 31))) e_ce e_wy e_ho 1)), (a_j, (oc2 a_as a_sk)), (a_as, (arI G 8 z22)), (a_sk, (arJ G 50 f_sk))]) hP hD [5, 6] [0, 1, 2, 3, 4, 7, 8, 9] rfl rfl (by decide +kernel) (by decide +kernel) hk1 hFc hP1 hD1
                          clear hP hD hPc hDc hFc ht hvm hz1 hk1 hP1 hD1
                          obtain ⟨hP, hD⟩ := hJ9
                          refine g5_rs [(a_g, (oc6 6 5 a_gn e_g)), (a_gn, (arI G 30 f_g)), (a_h, (oc1 e_wa e_le e_st e_fo e_lc a_l a_g a_b a_s a_p a_w e_gb a_bb)), (a_l, (arW G 6 f_l)), (a_k, (oc5 a_h a_j a_pt e_ln e_se e_lh e_br e_we (e_me ||| (1 <<< ((6 + z13) &&& 31))) e_ce e_wy e_ho 1)), (a_j, (oc2 a_as a_sk)), (a_as, (arI G 8 z22)), (a_sk, (arJ G 50 f_sk)), (a_p, (oc6 8 5 a_pn e_p)), (a_pn, (arI G 40 f_p))] hP hD ?_
                          clear hP hD
                          intro hP hD
                          refine g5_ti (v := z62) y63 ?_
                          have hz3_64 := sp_z3 e_qp i_10 i_61
                          have hd_64 : z62 = 0 := Int32.toInt_inj.mp (hz3_64.trans (by decide +kernel))
                          have hV_64 : z62 = tellQ (toldW g_w 1 (askQ (6 + z13) e_ce e_ho e_wy (-1) e_ln e_br)) (0) 10 := hd_64.trans (tell_n (tW_n e_w))
                          refine W.eq (g2 := F0 m 244 ls [.int z62]) rfl ?_
                          refine lv_istore (lv' := [(8, .int z62), (7, .int z55), (6, .null), (5, .int z18), (4, .int (6 + z13)), (3, .int z13), (2, .ref a_p), (1, .int (-1)), (0, .ref a_k)]) hx hb dX5_meetGlass_244 hl (by decide +kernel) rfl ?_
                          clear hl
                          intro ls hl
                          refine lv_aload_n hx hb dX5_meetGlass_246 rfl (lv_at hl 8 rfl) ?_
                          refine lv_aload_n hx hb dX5_meetGlass_247 rfl (lv_at hl 8 rfl) ?_
                          refine va_get (D := G.1) (ci := 5) (v := .int e_br) (C := RX5) (T := TX5) (N := 13) hx hb hts inG_X5 hown hK hP 4 rfl rfl 6 (by decide +kernel) (hts _ fl_X5_46) (fun _ h9 => h9) rfl dX5_meetGlass_248 ?_
                          refine lv_bipush (v := 10) hx hb dX5_meetGlass_251 (by decide +kernel) ?_
                          refine W.eq (g2 := F0 m 253 ls [.int 10, .int e_br, .ref a_k]) rfl ?_
                          refine lv_iload hx hb dX5_meetGlass_253 (lv_at hl 0 rfl) ?_
                          refine lv_isub hx hb dX5_meetGlass_255 ?_
                          have t_65 : (10 - z62).toInt = 10 - z62.toInt := g5_isub (a := 10) (b := z62.toInt) (by decide +kernel) (by rfl) (by omega) (by omega)
                          refine lv_imul hx hb dX5_meetGlass_256 ?_
                          refine lv_bipush (v := 10) hx hb dX5_meetGlass_257 (by decide +kernel) ?_
                          refine lv_idiv hx hb dX5_meetGlass_259 (by decide +kernel) ?_
                          have hb_66 : 0 ≤ ((e_br * (10 - z62)) / 10).toInt ∧ ((e_br * (10 - z62)) / 10).toInt ≤ 1000000 := g_dust (by omega) (by omega)
                          refine W.eq (g2 := F0 m 260 ls [.int ((e_br * (10 - z62)) / 10), .ref a_k]) rfl ?_
                          refine va_put (D := G.1) (ci := 5) (v := .int ((e_br * (10 - z62)) / 10)) (ty := .int) (C := RX5) (T := TX5) (N := 13) hx hb hts inG_X5 tyX5 tyX5_ok nmX5 hown hK hP hD hS 4 rfl rfl 6 (by decide +kernel) (hts _ fl_X5_46) (fun _ h9 => h9) rfl (by decide +kernel) rfl rfl (Nat.le_of_ble_eq_true rfl) dX5_meetGlass_260 ?_
                          clear hP hD hS
                          intro H locs hP hD hS
                          refine g5_rs [(a_g, (oc6 6 5 a_gn e_g)), (a_gn, (arI G 30 f_g)), (a_h, (oc1 e_wa e_le e_st e_fo e_lc a_l a_g a_b a_s a_p a_w e_gb a_bb)), (a_l, (arW G 6 f_l)), (a_k, (oc5 a_h a_j a_pt e_ln e_se e_lh ((e_br * (10 - z62)) / 10) e_we (e_me ||| (1 <<< ((6 + z13) &&& 31))) e_ce e_wy e_ho 1)), (a_j, (oc2 a_as a_sk)), (a_as, (arI G 8 z22)), (a_sk, (arJ G 50 f_sk)), (a_p, (oc6 8 5 a_pn e_p)), (a_pn, (arI G 40 f_p))] hP hD ?_
                          clear hP hD
                          intro hP hD
                          refine lv_aload_n hx hb dX5_meetGlass_263 rfl (lv_at hl 8 rfl) ?_
                          refine va_get (D := G.1) (ci := 5) (v := .int ((e_br * (10 - z62)) / 10)) (C := RX5) (T := TX5) (N := 13) hx hb hts inG_X5 hown hK hP 4 rfl rfl 6 (by decide +kernel) (hts _ fl_X5_46) (fun _ h9 => h9) rfl dX5_meetGlass_264 ?_
                          refine lv_aload_n hx hb dX5_meetGlass_267 rfl (lv_at hl 8 rfl) ?_
                          refine va_get (D := G.1) (ci := 5) (v := .ref a_h) (C := RX5) (T := TX5) (N := 13) hx hb hts inG_X5 hown hK hP 4 rfl rfl 0 (by decide +kernel) (hts _ fl_X5_22) (fun _ h9 => h9) rfl dX5_meetGlass_268 ?_
                          refine W.eq (g2 := F0 m 271 ls [.ref a_h, .int ((e_br * (10 - z62)) / 10)]) rfl ?_
                          refine va_get (D := G.1) (ci := 1) (v := .int e_le) (C := RX1) (T := TX1) (N := 13) hx hb hts inG_X1 hown hK hP 2 rfl rfl 1 (by decide +kernel) (hts _ fl_X5_138) (fun _ h9 => h9) rfl dX5_meetGlass_271 ?_
                          refine lv_icmp_ge (tgt := 278) hx hb dX5_meetGlass_274 (by decide +kernel) (fun c_67 => ?_) (fun c_67 => ?_)
                          ·
                            have i_67 : ((e_br * (10 - z62)) / 10).toInt ≥ e_le.toInt := g5_ge (a := ((e_br * (10 - z62)) / 10).toInt) (b := e_le.toInt) rfl rfl c_67
                            refine lv_aload_n hx hb dX5_meetGlass_278 rfl (lv_at hl 8 rfl) ?_
                            refine lv_dup hx hb dX5_meetGlass_279 rfl ?_
                            refine va_get (D := G.1) (ci := 5) (v := .int e_ho) (C := RX5) (T := TX5) (N := 13) hx hb hts inG_X5 hown hK hP 4 rfl rfl 11 (by decide +kernel) (hts _ fl_X5_33) (fun _ h9 => h9) rfl dX5_meetGlass_280 ?_
                            refine lv_iload hx hb dX5_meetGlass_283 (lv_at hl 1 rfl) ?_
                            refine W.eq (g2 := F0 m 285 ls [.int z55, .int e_ho, .ref a_k]) rfl ?_
                            refine lv_isub hx hb dX5_meetGlass_285 ?_
                            have t_68 : (e_ho - z55).toInt = e_ho.toInt - z55.toInt := g5_isub (a := e_ho.toInt) (b := z55.toInt) (by rfl) (by rfl) (by omega) (by omega)
                            refine va_put (D := G.1) (ci := 5) (v := .int (e_ho - z55)) (ty := .int) (C := RX5) (T := TX5) (N := 13) hx hb hts inG_X5 tyX5 tyX5_ok nmX5 hown hK hP hD hS 4 rfl rfl 11 (by decide +kernel) (hts _ fl_X5_33) (fun _ h9 => h9) rfl (by decide +kernel) rfl rfl (Nat.le_of_ble_eq_true rfl) dX5_meetGlass_286 ?_
                            clear hP hD hS
                            intro H locs hP hD hS
                            refine g5_rs [(a_g, (oc6 6 5 a_gn e_g)), (a_gn, (arI G 30 f_g)), (a_h, (oc1 e_wa e_le e_st e_fo e_lc a_l a_g a_b a_s a_p a_w e_gb a_bb)), (a_l, (arW G 6 f_l)), (a_k, (oc5 a_h a_j a_pt e_ln e_se e_lh ((e_br * (10 - z62)) / 10) e_we (e_me ||| (1 <<< ((6 + z13) &&& 31))) e_ce e_wy (e_ho - z55) 1)), (a_j, (oc2 a_as a_sk)), (a_as, (arI G 8 z22)), (a_sk, (arJ G 50 f_sk)), (a_p, (oc6 8 5 a_pn e_p)), (a_pn, (arI G 40 f_p))] hP hD ?_
                            clear hP hD
                            intro hP hD
                            refine lv_aload_n hx hb dX5_meetGlass_289 rfl (lv_at hl 8 rfl) ?_
                            refine lv_iload hx hb dX5_meetGlass_290 (lv_at hl 3 rfl) ?_
                            refine lv_if_ne (tgt := 304) hx hb dX5_meetGlass_292 (by decide +kernel) (fun c_69 => ?_) (fun c_69 => ?_)
                            ·
                              have n_69 : gNe (z18.toInt) (0) := g5_ne (a := z18.toInt) (b := 0) rfl (by decide +kernel) c_69
                              refine lv_iload hx hb dX5_meetGlass_304 (lv_at hl 3 rfl) ?_
                              refine lv_iconst (v := 1) hx hb dX5_meetGlass_306 (by decide +kernel) ?_
                              refine lv_icmp_ne (tgt := 319) hx hb dX5_meetGlass_307 (by decide +kernel) (fun c_70 => ?_) (fun c_70 => ?_)
                              ·
                                have n_70 : gNe (z18.toInt) (1) := g5_ne (a := z18.toInt) (b := 1) rfl (by decide +kernel) c_70
                                refine lv_aload_n hx hb dX5_meetGlass_319 rfl (lv_at hl 8 rfl) ?_
                                refine va_get (D := G.1) (ci := 5) (v := .int e_wy) (C := RX5) (T := TX5) (N := 13) hx hb hts inG_X5 hown hK hP 4 rfl rfl 10 (by decide +kernel) (hts _ fl_X5_30) (fun _ h9 => h9) rfl dX5_meetGlass_320 ?_
                                refine lv_iconst (v := 2) hx hb dX5_meetGlass_323 (by decide +kernel) ?_
                                refine lv_ixor hx hb dX5_meetGlass_324 ?_
                                have hx_71 := (g_xor (w := e_wy) (by omega) (by omega)).2
                                refine W.eq (g2 := F0 m 325 ls [.int (e_wy ^^^ 2), .ref a_k]) rfl ?_
                                refine va_put (D := G.1) (ci := 5) (v := .int (e_wy ^^^ 2)) (ty := .int) (C := RX5) (T := TX5) (N := 13) hx hb hts inG_X5 tyX5 tyX5_ok nmX5 hown hK hP hD hS 4 rfl rfl 10 (by decide +kernel) (hts _ fl_X5_30) (fun _ h9 => h9) rfl (by decide +kernel) rfl rfl (Nat.le_of_ble_eq_true rfl) dX5_meetGlass_325 ?_
                                clear hP hD hS
                                intro H locs hP hD hS
                                refine g5_rs [(a_g, (oc6 6 5 a_gn e_g)), (a_gn, (arI G 30 f_g)), (a_h, (oc1 e_wa e_le e_st e_fo e_lc a_l a_g a_b a_s a_p a_w e_gb a_bb)), (a_l, (arW G 6 f_l)), (a_k, (oc5 a_h a_j a_pt e_ln e_se e_lh ((e_br * (10 - z62)) / 10) e_we (e_me ||| (1 <<< ((6 + z13) &&& 31))) e_ce (e_wy ^^^ 2) (e_ho - z55) 1)), (a_j, (oc2 a_as a_sk)), (a_as, (arI G 8 z22)), (a_sk, (arJ G 50 f_sk)), (a_p, (oc6 8 5 a_pn e_p)), (a_pn, (arI G 40 f_p))] hP hD ?_
                                clear hP hD
                                intro hP hD
                                refine lv_aload_n hx hb dX5_meetGlass_328 rfl (lv_at hl 8 rfl) ?_
                                refine lv_dup hx hb dX5_meetGlass_329 rfl ?_
                                refine va_get (D := G.1) (ci := 5) (v := .int e_we) (C := RX5) (T := TX5) (N := 13) hx hb hts inG_X5 hown hK hP 4 rfl rfl 7 (by decide +kernel) (hts _ fl_X5_49) (fun _ h9 => h9) rfl dX5_meetGlass_330 ?_
                                refine lv_iconst (v := 1) hx hb dX5_meetGlass_333 (by decide +kernel) ?_
                                refine W.eq (g2 := F0 m 334 ls [.int 1, .int e_we, .ref a_k]) rfl ?_
                                refine lv_iload hx hb dX5_meetGlass_334 (lv_at hl 4 rfl) ?_
                                refine lv_ishl hx hb dX5_meetGlass_336 ?_
                                refine lv_ior hx hb dX5_meetGlass_337 ?_
                                refine va_put (D := G.1) (ci := 5) (v := .int (e_we ||| (1 <<< ((6 + z13) &&& 31)))) (ty := .int) (C := RX5) (T := TX5) (N := 13) hx hb hts inG_X5 tyX5 tyX5_ok nmX5 hown hK hP hD hS 4 rfl rfl 7 (by decide +kernel) (hts _ fl_X5_49) (fun _ h9 => h9) rfl (by decide +kernel) rfl rfl (Nat.le_of_ble_eq_true rfl) dX5_meetGlass_338 ?_
                                clear hP hD hS
                                intro H locs hP hD hS
                                refine g5_rs [(a_g, (oc6 6 5 a_gn e_g)), (a_gn, (arI G 30 f_g)), (a_h, (oc1 e_wa e_le e_st e_fo e_lc a_l a_g a_b a_s a_p a_w e_gb a_bb)), (a_l, (arW G 6 f_l)), (a_k, (oc5 a_h a_j a_pt e_ln e_se e_lh ((e_br * (10 - z62)) / 10) (e_we ||| (1 <<< ((6 + z13) &&& 31))) (e_me ||| (1 <<< ((6 + z13) &&& 31))) e_ce (e_wy ^^^ 2) (e_ho - z55) 1)), (a_j, (oc2 a_as a_sk)), (a_as, (arI G 8 z22)), (a_sk, (arJ G 50 f_sk)), (a_p, (oc6 8 5 a_pn e_p)), (a_pn, (arI G 40 f_p))] hP hD ?_
                                clear hP hD
                                intro hP hD
                                refine lv_aload_n hx hb dX5_meetGlass_341 rfl (lv_at hl 8 rfl) ?_
                                refine W.eq (g2 := F0 m 342 ls [.ref a_k]) rfl ?_
                                refine lv_iconst (v := 0) hx hb dX5_meetGlass_342 (by decide +kernel) ?_
                                refine va_put (D := G.1) (ci := 5) (v := .int 0) (ty := .boolean) (C := RX5) (T := TX5) (N := 13) hx hb hts inG_X5 tyX5 tyX5_ok nmX5 hown hK hP hD hS 4 rfl rfl 12 (by decide +kernel) (hts _ fl_X5_56) (fun _ h9 => h9) rfl (by decide +kernel) rfl rfl (Nat.le_of_ble_eq_true rfl) dX5_meetGlass_343 ?_
                                clear hP hD hS
                                intro H locs hP hD hS
                                refine g5_rs [(a_g, (oc6 6 5 a_gn e_g)), (a_gn, (arI G 30 f_g)), (a_h, (oc1 e_wa e_le e_st e_fo e_lc a_l a_g a_b a_s a_p a_w e_gb a_bb)), (a_l, (arW G 6 f_l)), (a_k, (oc5 a_h a_j a_pt e_ln e_se e_lh ((e_br * (10 - z62)) / 10) (e_we ||| (1 <<< ((6 + z13) &&& 31))) (e_me ||| (1 <<< ((6 + z13) &&& 31))) e_ce (e_wy ^^^ 2) (e_ho - z55) 0)), (a_j, (oc2 a_as a_sk)), (a_as, (arI G 8 z22)), (a_sk, (arJ G 50 f_sk)), (a_p, (oc6 8 5 a_pn e_p)), (a_pn, (arI G 40 f_p))] hP hD ?_
                                clear hP hD
                                intro hP hD
                                exact W.vret hx hb hr (fun t ht hW => ⟨⟨[(a_k, (oc5 a_h a_j a_pt e_ln e_se e_lh ((e_br * (10 - z62)) / 10) (e_we ||| (1 <<< ((6 + z13) &&& 31))) (e_me ||| (1 <<< ((6 + z13) &&& 31))) e_ce (e_wy ^^^ 2) (e_ho - z55) 0)), (a_h, (oc1 e_wa e_le e_st e_fo e_lc a_l a_g a_b a_s a_p a_w e_gb a_bb)), (a_g, (oc6 6 5 a_gn e_g)), (a_gn, (arI G 30 f_g)), (a_p, (oc6 8 5 a_pn e_p)), (a_pn, (arI G 40 f_p)), (a_j, (oc2 a_as a_sk)), (a_as, (arI G 8 z22)), (a_sk, (arJ G 50 f_sk)), (a_l, (arW G 6 f_l))], rfl, Or.inr (⟨((e_br * (10 - z62)) / 10), (e_we ||| (1 <<< ((6 + z13) &&& 31))), (e_me ||| (1 <<< ((6 + z13) &&& 31))), (e_wy ^^^ 2), (e_ho - z55), z22, f_sk, ⟨by omega, by omega⟩, ⟨by omega, by omega⟩, ⟨by omega, by omega⟩, by rw [met_sc (du := 0) hGF hSF (by omega) hc1_20 rfl (by decide +kernel) e_f4, tn_3 hNS hV_57 (by omega) hV_64 rfl (by omega), nw_2 (so := z18) (by first | omega | (unfold gNe at *; omega)) (by first | omega | (unfold gNe at *; omega))], rfl⟩), by rw [ht]; exact hP.sub [4, 2, 0, 1, 8, 9, 5, 6, 7, 3] rfl, hD.sub [4, 2, 0, 1, 8, 9, 5, 6, 7, 3] (by decide +kernel) rfl⟩, hS.F ht⟩) hS.2.2 dX5_meetGlass_346
                              ·
                                have i_70 : z18.toInt = 1 := g5_neN (a := z18.toInt) (b := 1) rfl (by decide +kernel) c_70
                                omega
                            ·
                              have i_69 : z18.toInt = 0 := g5_neN (a := z18.toInt) (b := 0) rfl (by decide +kernel) c_69
                              omega
                          ·
                            have i_67 : ((e_br * (10 - z62)) / 10).toInt < e_le.toInt := g5_geN (a := ((e_br * (10 - z62)) / 10).toInt) (b := e_le.toInt) rfl rfl c_67
                            exact W.vret hx hb hr (fun t ht hW => ⟨⟨[(a_k, (oc5 a_h a_j a_pt e_ln e_se e_lh ((e_br * (10 - z62)) / 10) e_we (e_me ||| (1 <<< ((6 + z13) &&& 31))) e_ce e_wy e_ho 1)), (a_h, (oc1 e_wa e_le e_st e_fo e_lc a_l a_g a_b a_s a_p a_w e_gb a_bb)), (a_g, (oc6 6 5 a_gn e_g)), (a_gn, (arI G 30 f_g)), (a_p, (oc6 8 5 a_pn e_p)), (a_pn, (arI G 40 f_p)), (a_j, (oc2 a_as a_sk)), (a_as, (arI G 8 z22)), (a_sk, (arJ G 50 f_sk)), (a_l, (arW G 6 f_l))], rfl, Or.inl (⟨((e_br * (10 - z62)) / 10), (e_me ||| (1 <<< ((6 + z13) &&& 31))), z22, f_sk, ⟨by omega, by omega⟩, by rw [met_sc (du := 0) hGF hSF (by omega) hc1_20 rfl (by decide +kernel) e_f4, tn_2 hNS hV_57 (by omega) hV_64 rfl (by omega)]; exact ⟨rfl, rfl, rfl⟩, rfl⟩), by rw [ht]; exact hP.sub [4, 2, 0, 1, 8, 9, 5, 6, 7, 3] rfl, hD.sub [4, 2, 0, 1, 8, 9, 5, 6, 7, 3] (by decide +kernel) rfl⟩, hS.F ht⟩) hS.2.2 dX5_meetGlass_277
                        ·
                          exact absurd c_60 (by decide +kernel)
                      ·
                        have i_59 : z55.toInt > e_ho.toInt := g5_leN (a := z55.toInt) (b := e_ho.toInt) rfl rfl c_59
                        exact W.vret hx hb hr (fun t ht hW => ⟨⟨[(a_k, (oc5 a_h a_j a_pt e_ln e_se e_lh e_br e_we (e_me ||| (1 <<< ((6 + z13) &&& 31))) e_ce e_wy e_ho 1)), (a_h, (oc1 e_wa e_le e_st e_fo e_lc a_l a_g a_b a_s a_p a_w e_gb a_bb)), (a_g, (oc6 6 5 a_gn e_g)), (a_gn, (arI G 30 f_g)), (a_p, (oc6 8 5 a_pn e_p)), (a_pn, (arI G 40 f_p)), (a_j, (oc2 a_as a_sk)), (a_as, (arI G 8 z22)), (a_sk, (arJ G 50 f_sk)), (a_l, (arW G 6 f_l))], rfl, Or.inl (⟨e_br, (e_me ||| (1 <<< ((6 + z13) &&& 31))), z22, f_sk, h_e_br, by rw [met_sc (du := 0) hGF hSF (by omega) hc1_20 rfl (by decide +kernel) e_f4, tn_1 hNS hV_57 (by omega)]; exact ⟨rfl, rfl, rfl⟩, rfl⟩), by rw [ht]; exact hP.sub [4, 2, 0, 1, 8, 9, 5, 6, 7, 3] rfl, hD.sub [4, 2, 0, 1, 8, 9, 5, 6, 7, 3] (by decide +kernel) rfl⟩, hS.F ht⟩) hS.2.2 dX5_meetGlass_212
                    ·
                      exact absurd c_53 (by decide +kernel)
                  ·
                    have n_52 : gNe ((z18.toInt - 2)) ((e_wy ^^^ 2).toInt) := by have z := g5_eqN (a := (z18 - 2).toInt) (b := (e_wy ^^^ 2).toInt) (by rfl) (by rfl) c_52; unfold gNe; omega
                    exact W.vret hx hb hr (fun t ht hW => ⟨⟨[(a_k, (oc5 a_h a_j a_pt e_ln e_se e_lh e_br e_we (e_me ||| (1 <<< ((6 + z13) &&& 31))) e_ce e_wy e_ho 1)), (a_h, (oc1 e_wa e_le e_st e_fo e_lc a_l a_g a_b a_s a_p a_w e_gb a_bb)), (a_g, (oc6 6 5 a_gn e_g)), (a_gn, (arI G 30 f_g)), (a_p, (oc6 8 5 a_pn e_p)), (a_pn, (arI G 40 f_p)), (a_j, (oc2 a_as a_sk)), (a_as, (arI G 8 z22)), (a_sk, (arJ G 50 f_sk)), (a_l, (arW G 6 f_l))], rfl, Or.inl (⟨e_br, (e_me ||| (1 <<< ((6 + z13) &&& 31))), z22, f_sk, h_e_br, by rw [met_sc (du := 0) hGF hSF (by omega) hc1_20 rfl (by decide +kernel) e_f4, tn_0 (Or.inr (Or.inr ⟨by omega, fun q9 => by have q8 := wr_of (so := z18) (wy := e_wy) ⟨by omega, by omega⟩ ⟨by omega, by omega⟩; first | omega | (unfold gNe at *; omega)⟩))]; exact ⟨rfl, rfl, rfl⟩, rfl⟩), by rw [ht]; exact hP.sub [4, 2, 0, 1, 5, 6, 7, 8, 9, 3] rfl, hD.sub [4, 2, 0, 1, 5, 6, 7, 8, 9, 3] (by decide +kernel) rfl⟩, hS.F ht⟩) hS.2.2 dX5_meetGlass_169
  ·
    have i_2 : 0 ≤ z5.toInt ∧ z5.toInt < e_g.toInt := i_2
    have i_3 : tget f_g e_g.toInt 5 z5.toInt (0 : Int32).toInt = e_ce := i_3
    have i_4 : ∀ r : Int, 0 ≤ r → r < z5.toInt → tget f_g e_g.toInt 5 r (0 : Int32).toInt ≠ e_ce := i_4
    have hJ9 := va_join (wr := [(a_k, (oc5 a_h a_j a_pt e_ln e_se e_lh e_br e_we e_me e_ce e_wy e_ho 1)), (a_h, (oc1 e_wa e_le e_st e_fo e_lc a_l a_g a_b a_s a_p a_w e_gb a_bb)), (a_p, (oc6 8 5 a_pn e_p)), (a_pn, (arI G 40 f_p)), (a_j, (oc2 a_as a_sk)), (a_as, (arI G 8 f_as)), (a_sk, (arJ G 50 f_sk)), (a_l, (arW G 6 f_l))]) hP hD [2, 3] [0, 1, 4, 5, 6, 7, 8, 9] rfl rfl (by decide +kernel) (by decide +kernel) hk1 hFc hP1 hD1
    clear hP hD hPc hDc hFc ht hvm hz1 hk1 hP1 hD1
    obtain ⟨hP, hD⟩ := hJ9
    refine g5_rs [(a_k, (oc5 a_h a_j a_pt e_ln e_se e_lh e_br e_we e_me e_ce e_wy e_ho 1)), (a_h, (oc1 e_wa e_le e_st e_fo e_lc a_l a_g a_b a_s a_p a_w e_gb a_bb)), (a_p, (oc6 8 5 a_pn e_p)), (a_pn, (arI G 40 f_p)), (a_j, (oc2 a_as a_sk)), (a_as, (arI G 8 f_as)), (a_sk, (arJ G 50 f_sk)), (a_l, (arW G 6 f_l)), (a_g, (oc6 6 5 a_gn e_g)), (a_gn, (arI G 30 f_g))] hP hD ?_
    clear hP hD
    intro hP hD
    refine g5_ti (v := z5) y6 ?_
    refine lv_istore_n (lv' := [(1, .int z5), (0, .ref a_k)]) hx hb dX5_meetGlass_20 rfl hl (by decide +kernel) rfl ?_
    clear hl
    intro ls hl
    refine lv_iload_n hx hb dX5_meetGlass_21 rfl (lv_at hl 0 rfl) ?_
    refine lv_iconst (v := (-1)) hx hb dX5_meetGlass_22 (by decide +kernel) ?_
    refine lv_icmp_ne (tgt := 36) hx hb dX5_meetGlass_23 (by decide +kernel) (fun c_72 => ?_) (fun c_72 => ?_)
    ·
      have n_72 : gNe (z5.toInt) ((-1)) := g5_ne (a := z5.toInt) (b := (-1)) rfl (by decide +kernel) c_72
      exact absurd (gl_nof e_qg e_of i_2 i_3) (fun h9 => h9)
    ·
      have i_72 : z5.toInt = (-1) := g5_neN (a := z5.toInt) (b := (-1)) rfl (by decide +kernel) c_72
      omega
set_option maxHeartbeats 4000000 in
set_option maxRecDepth 100000 in
theorem k_meetSpotXL (l : Launch) (G : g5_G) (a_k a_h a_g a_gn a_p a_pn a_j a_as a_sk a_l a_lo a_sr a_cd a_hd a_pt a_b a_s a_w a_bb : Nat) (sz : Nat) (e_ln : Int32) (e_se : Int32) (e_lh : Int32) (e_br : Int32) (e_we : Int32) (e_me : Int32) (e_ce : Int32) (e_wy : Int32) (e_ho : Int32) (e_ov : Int32) (e_le : Int32) (e_st : Int32) (e_fo : Int32) (e_lc : Int32) (e_g : Int32) (e_p : Int32) (e_cl : Int32) (g_h : Int32) (e_wa : Int64) (e_gb : Int64) (g_b : Int64) (f_g : Nat → Int32) (f_p : Nat → Int32) (f_as : Nat → Int32) (f_sk : Nat → Int64) (f_l : Nat → Option Nat) (f_sr : Nat → Int32) (f_cd : Nat → Int32) (f_hd : Nat → Int32) (f_ro : Nat → Int32) (g_w : Option (List CLT)) (g_L : List CLT) (n_sr : Nat) (n_cd : Nat) (n_hd : Nat) (h_e_br : 0 ≤ e_br.toInt ∧ e_br.toInt ≤ 1000000) (h_e_ce : 0 ≤ e_ce.toInt ∧ e_ce.toInt ≤ 63) (h_e_wy : 0 ≤ e_wy.toInt ∧ e_wy.toInt ≤ 3) (h_e_ho : 0 ≤ e_ho.toInt ∧ e_ho.toInt ≤ 23) (h_e_ov : 0 ≤ e_ov.toInt ∧ e_ov.toInt ≤ 1) (h_e_g : 0 ≤ e_g.toInt ∧ e_g.toInt ≤ 6) (h_e_p : 0 ≤ e_p.toInt ∧ e_p.toInt ≤ 8) (h_e_cl : 0 ≤ e_cl.toInt ∧ e_cl.toInt ≤ 12) (e_f : 0 ≤ e_fo.toInt ∧ e_fo.toInt < e_lc.toInt ∧ e_lc.toInt ≤ 6) (e_a : f_l e_fo.toNatClampNeg = some a_lo) (e_hn : n_cd ≤ 400) (e_hs : ∀ j : Nat, j < n_sr → 0 ≤ (f_sr j).toInt ∧ (f_sr j).toInt ≤ (n_cd : Int)) (e_hk : ∀ j : Nat, j < n_cd → (f_cd j >>> (12 &&& 31)).toInt = 1 → (f_cd j &&& 4095).toInt < 8) (e_c : (e_cl.toInt : Int) ≤ (n_hd : Int) ∧ (e_cl.toInt + 1 : Int) ≤ (n_sr : Int)) (e_w : g_w = some g_L) (e_lw : LWC f_hd f_sr f_cd g_L e_cl.toInt.toNat) (e_lv : lvC f_cd n_cd ≤ 50) (e_pk : gOK f_p e_p.toInt) (e_qg : QG e_g f_g e_gb f_ro) (e_qp : QP e_p f_p f_ro) (e_of : onB e_gb e_ce.toInt = false) (e_hu : HUB g_b f_p e_p.toInt g_h e_p.toInt) (e_on : onB g_b e_ce.toInt = true) (e_f4 : f_ro 4 = e_le) : Met l yX5_meetGlass (wsG yX5_meetGlass cX5_meetGlass 9 none) ({ frames := 3, cells := 0, slots := 0, locals := 78 }) (va_Pc [.ref a_k] (g5_P G [(a_k, (oc5 a_h a_j a_pt e_ln e_se e_lh e_br e_we e_me e_ce e_wy e_ho e_ov)), (a_h, (oc1 e_wa e_le e_st e_fo e_lc a_l a_g a_b a_s a_p a_w e_gb a_bb)), (a_g, (oc6 6 5 a_gn e_g)), (a_gn, (arI G 30 f_g)), (a_p, (oc6 8 5 a_pn e_p)), (a_pn, (arI G 40 f_p)), (a_j, (oc2 a_as a_sk)), (a_as, (arI G 8 f_as)), (a_sk, (arJ G 50 f_sk)), (a_l, (arW G 6 f_l)), (a_lo, (oc3 e_cl a_hd a_sr a_cd)), (a_sr, (arI G n_sr f_sr)), (a_cd, (arI G n_cd f_cd)), (a_hd, (arI G n_hd f_hd))] sz)) (va_Qv (fun (u : va_W) => (∃ (o_b : Int32) (o_m : Int32) (o_a : Nat → Int32) (o_k : Nat → Int64), (0 ≤ o_b.toInt ∧ o_b.toInt ≤ 1000000) ∧ ((meetF f_ro g_w g_h e_ce e_wy e_ho e_br e_we e_ln).1 = false ∧ (meetF f_ro g_w g_h e_ce e_wy e_ho e_br e_we e_ln).2.2.2.1 = o_b ∧ (meetF f_ro g_w g_h e_ce e_wy e_ho e_br e_we e_ln).2.2.2.2 = e_we) ∧ (u = [(a_k, (oc5 a_h a_j a_pt e_ln e_se e_lh o_b e_we o_m e_ce e_wy e_ho 1)), (a_h, (oc1 e_wa e_le e_st e_fo e_lc a_l a_g a_b a_s a_p a_w e_gb a_bb)), (a_g, (oc6 6 5 a_gn e_g)), (a_gn, (arI G 30 f_g)), (a_p, (oc6 8 5 a_pn e_p)), (a_pn, (arI G 40 f_p)), (a_j, (oc2 a_as a_sk)), (a_as, (arI G 8 o_a)), (a_sk, (arJ G 50 o_k)), (a_l, (arW G 6 f_l)), (a_lo, (oc3 e_cl a_hd a_sr a_cd)), (a_sr, (arI G n_sr f_sr)), (a_cd, (arI G n_cd f_cd)), (a_hd, (arI G n_hd f_hd))])) ∨ (∃ (o_b : Int32) (o_w : Int32) (o_m : Int32) (o_y : Int32) (o_h : Int32) (o_a : Nat → Int32) (o_k : Nat → Int64), (0 ≤ o_b.toInt ∧ o_b.toInt ≤ 1000000) ∧ (0 ≤ o_y.toInt ∧ o_y.toInt ≤ 3) ∧ (0 ≤ o_h.toInt ∧ o_h.toInt ≤ 23) ∧ (meetF f_ro g_w g_h e_ce e_wy e_ho e_br e_we e_ln = (true, o_y, o_h, o_b, o_w)) ∧ (u = [(a_k, (oc5 a_h a_j a_pt e_ln e_se e_lh o_b o_w o_m e_ce o_y o_h 0)), (a_h, (oc1 e_wa e_le e_st e_fo e_lc a_l a_g a_b a_s a_p a_w e_gb a_bb)), (a_g, (oc6 6 5 a_gn e_g)), (a_gn, (arI G 30 f_g)), (a_p, (oc6 8 5 a_pn e_p)), (a_pn, (arI G 40 f_p)), (a_j, (oc2 a_as a_sk)), (a_as, (arI G 8 o_a)), (a_sk, (arJ G 50 o_k)), (a_l, (arW G 6 f_l)), (a_lo, (oc3 e_cl a_hd a_sr a_cd)), (a_sr, (arI G n_sr f_sr)), (a_cd, (arI G n_cd f_cd)), (a_hd, (arI G n_hd f_hd))]))) (g5_B G (va_A [(a_k, (oc5 a_h a_j a_pt e_ln e_se e_lh e_br e_we e_me e_ce e_wy e_ho e_ov)), (a_h, (oc1 e_wa e_le e_st e_fo e_lc a_l a_g a_b a_s a_p a_w e_gb a_bb)), (a_g, (oc6 6 5 a_gn e_g)), (a_gn, (arI G 30 f_g)), (a_p, (oc6 8 5 a_pn e_p)), (a_pn, (arI G 40 f_p)), (a_j, (oc2 a_as a_sk)), (a_as, (arI G 8 f_as)), (a_sk, (arJ G 50 f_sk)), (a_l, (arW G 6 f_l)), (a_lo, (oc3 e_cl a_hd a_sr a_cd)), (a_sr, (arI G n_sr f_sr)), (a_cd, (arI G n_cd f_cd)), (a_hd, (arI G n_hd f_hd))] sz)) (va_A [(a_k, (oc5 a_h a_j a_pt e_ln e_se e_lh e_br e_we e_me e_ce e_wy e_ho e_ov)), (a_h, (oc1 e_wa e_le e_st e_fo e_lc a_l a_g a_b a_s a_p a_w e_gb a_bb)), (a_g, (oc6 6 5 a_gn e_g)), (a_gn, (arI G 30 f_g)), (a_p, (oc6 8 5 a_pn e_p)), (a_pn, (arI G 40 f_p)), (a_j, (oc2 a_as a_sk)), (a_as, (arI G 8 f_as)), (a_sk, (arJ G 50 f_sk)), (a_l, (arW G 6 f_l)), (a_lo, (oc3 e_cl a_hd a_sr a_cd)), (a_sr, (arI G n_sr f_sr)), (a_cd, (arI G n_cd f_cd)), (a_hd, (arI G n_hd f_hd))] sz)) 0 0 (va_A [(a_k, (oc5 a_h a_j a_pt e_ln e_se e_lh e_br e_we e_me e_ce e_wy e_ho e_ov)), (a_h, (oc1 e_wa e_le e_st e_fo e_lc a_l a_g a_b a_s a_p a_w e_gb a_bb)), (a_g, (oc6 6 5 a_gn e_g)), (a_gn, (arI G 30 f_g)), (a_p, (oc6 8 5 a_pn e_p)), (a_pn, (arI G 40 f_p)), (a_j, (oc2 a_as a_sk)), (a_as, (arI G 8 f_as)), (a_sk, (arJ G 50 f_sk)), (a_l, (arW G 6 f_l)), (a_lo, (oc3 e_cl a_hd a_sr a_cd)), (a_sr, (arI G n_sr f_sr)), (a_cd, (arI G n_cd f_cd)), (a_hd, (arI G n_hd f_hd))] sz) := by
  refine Met.ofW (cc := cX5_meetGlass) (maxL := 9) (ret := none) (by decide +kernel) rfl ?_
  intro p e s m args below meth c s₁ B hml hv
  obtain ⟨rfl, hsz, hP, hK, hD0, hN, hT⟩ := hv
  have hx := B.exec
  have hb := B.bytes
  have hr := B.returns
  have hts : ∀ w ∈ tblG, w.before _ s = true := fun w h => atoms_spec (ws := (wsG yX5_meetGlass cX5_meetGlass 9 none)) B.pre w (List.mem_cons_of_mem _ h)
  have hown : s.vm.findClass RX5 = some m.cls := findClass_of_methodNamed B.named
  have hlocks := B.notSynchronized
  subst hsz
  have hD := hD0.self (sz := s.heap.size)
  generalize hAe : va_A [(a_k, (oc5 a_h a_j a_pt e_ln e_se e_lh e_br e_we e_me e_ce e_wy e_ho e_ov)), (a_h, (oc1 e_wa e_le e_st e_fo e_lc a_l a_g a_b a_s a_p a_w e_gb a_bb)), (a_g, (oc6 6 5 a_gn e_g)), (a_gn, (arI G 30 f_g)), (a_p, (oc6 8 5 a_pn e_p)), (a_pn, (arI G 40 f_p)), (a_j, (oc2 a_as a_sk)), (a_as, (arI G 8 f_as)), (a_sk, (arJ G 50 f_sk)), (a_l, (arW G 6 f_l)), (a_lo, (oc3 e_cl a_hd a_sr a_cd)), (a_sr, (arI G n_sr f_sr)), (a_cd, (arI G n_cd f_cd)), (a_hd, (arI G n_hd f_hd))] s.heap.size = A at hD hT ⊢
  have hA : ∀ q : Nat, s.heap.size ≤ q → A q := fun q h => by rw [← hAe]; exact Or.inr h
  have hS : va_S A s.heap s.heap [] := va_S.rf
  replace hP : va_P G.1 vwCl [(a_k, (oc5 a_h a_j a_pt e_ln e_se e_lh e_br e_we e_me e_ce e_wy e_ho e_ov)), (a_h, (oc1 e_wa e_le e_st e_fo e_lc a_l a_g a_b a_s a_p a_w e_gb a_bb)), (a_g, (oc6 6 5 a_gn e_g)), (a_gn, (arI G 30 f_g)), (a_p, (oc6 8 5 a_pn e_p)), (a_pn, (arI G 40 f_p)), (a_j, (oc2 a_as a_sk)), (a_as, (arI G 8 f_as)), (a_sk, (arJ G 50 f_sk)), (a_l, (arW G 6 f_l)), (a_lo, (oc3 e_cl a_hd a_sr a_cd)), (a_sr, (arI G n_sr f_sr)), (a_cd, (arI G n_cd f_cd)), (a_hd, (arI G n_hd f_hd))] s.heap := hP
  have hl := lv_entry ([.ref a_k]) (n := 9) (Nat.le_of_ble_eq_true rfl)
  rw [lg_entry_eq]
  generalize (lg_sl ([.ref a_k]) ++ List.replicate (9 - (lg_sl ([.ref a_k])).length) Slot.unset).toArray = ls at hl ⊢
  replace hl : lv_has ls 9 [(0, .ref a_k)] := hl
  refine lv_aload_n hx hb dX5_meetGlass_0 rfl (lv_at hl 0 rfl) ?_
  refine lv_iconst (v := 1) hx hb dX5_meetGlass_1 (by decide +kernel) ?_
  refine va_put (D := G.1) (ci := 5) (v := .int 1) (ty := .boolean) (C := RX5) (T := TX5) (N := 13) hx hb hts inG_X5 tyX5 tyX5_ok nmX5 hown hK hP hD hS 0 rfl rfl 12 (by decide +kernel) (hts _ fl_X5_56) (fun _ h9 => h9) rfl (by decide +kernel) rfl rfl (Nat.le_of_ble_eq_true rfl) dX5_meetGlass_2 ?_
  clear hP hD hS
  intro H locs hP hD hS
  refine g5_rs [(a_k, (oc5 a_h a_j a_pt e_ln e_se e_lh e_br e_we e_me e_ce e_wy e_ho 1)), (a_h, (oc1 e_wa e_le e_st e_fo e_lc a_l a_g a_b a_s a_p a_w e_gb a_bb)), (a_g, (oc6 6 5 a_gn e_g)), (a_gn, (arI G 30 f_g)), (a_p, (oc6 8 5 a_pn e_p)), (a_pn, (arI G 40 f_p)), (a_j, (oc2 a_as a_sk)), (a_as, (arI G 8 f_as)), (a_sk, (arJ G 50 f_sk)), (a_l, (arW G 6 f_l)), (a_lo, (oc3 e_cl a_hd a_sr a_cd)), (a_sr, (arI G n_sr f_sr)), (a_cd, (arI G n_cd f_cd)), (a_hd, (arI G n_hd f_hd))] hP hD ?_
  clear hP hD
  intro hP hD
  refine lv_aload_n hx hb dX5_meetGlass_5 rfl (lv_at hl 0 rfl) ?_
  refine W.eq (g2 := F0 m 6 ls [.ref a_k]) rfl ?_
  refine va_get (D := G.1) (ci := 5) (v := .ref a_h) (C := RX5) (T := TX5) (N := 13) hx hb hts inG_X5 hown hK hP 0 rfl rfl 0 (by decide +kernel) (hts _ fl_X5_22) (fun _ h9 => h9) rfl dX5_meetGlass_6 ?_
  refine va_get (D := G.1) (ci := 1) (v := .ref a_g) (C := RX1) (T := TX1) (N := 13) hx hb hts inG_X1 hown hK hP 1 rfl rfl 6 (by decide +kernel) (hts _ fl_X5_128) (fun _ h9 => h9) rfl dX5_meetGlass_9 ?_
  refine lv_iconst (v := 0) hx hb dX5_meetGlass_12 (by decide +kernel) ?_
  refine lv_aload_n hx hb dX5_meetGlass_13 rfl (lv_at hl 0 rfl) ?_
  refine va_get (D := G.1) (ci := 5) (v := .int e_ce) (C := RX5) (T := TX5) (N := 13) hx hb hts inG_X5 hown hK hP 0 rfl rfl 9 (by decide +kernel) (hts _ fl_X5_26) (fun _ h9 => h9) rfl dX5_meetGlass_14 ?_
  refine W.eq (g2 := F0 m 17 ls [.int e_ce, .int 0, .ref a_g]) rfl ?_
  obtain ⟨hPc, hDc, hFc⟩ := g5_sub3 (wc := [(a_g, (oc6 6 5 a_gn e_g)), (a_gn, (arI G 30 f_g))]) hP hD hS hA [2, 3] (by decide +kernel) rfl
  refine va_calli (va_runV (As := [.int 0, .int e_ce]) (rest := []) ⟨hx, hb, hml, hown, hts⟩ (t_findX_G l G a_g a_gn H.size e_g 0 e_ce f_g h_e_g) (cwV 2 hts gV_X5_131 rfl rfl rfl hv_X6_find ⟨Nat.le_of_ble_eq_true rfl, Nat.le_of_ble_eq_true rfl⟩) (g5_preV hPc hK hDc hN hT hS hFc (ci := 6) (q0 := 0) rfl rfl) rfl rfl hl.1 rfl (lv_room (Nat.le_of_ble_eq_true rfl)) dX5_meetGlass_17 ⟨Nat.le_of_ble_eq_true rfl, Nat.le_of_ble_eq_true rfl⟩) hS (fun q _ h => hFc q h) hFc (fun r u t H locs ht hvm hw hB hz1 hk1 hS => ?_)
  obtain ⟨hP1, hD1⟩ := hB
  have hP1 := g5_ht ht hP1
  rcases hw with ⟨(i_1 : ∀ r : Int, 0 ≤ r → r < e_g.toInt → tget f_g e_g.toInt 5 r (0 : Int32).toInt ≠ e_ce), rfl, rfl⟩ | ⟨z5, i_2, i_3, i_4, y6, rfl⟩
  ·
    have hJ9 := va_join (wr := [(a_k, (oc5 a_h a_j a_pt e_ln e_se e_lh e_br e_we e_me e_ce e_wy e_ho 1)), (a_h, (oc1 e_wa e_le e_st e_fo e_lc a_l a_g a_b a_s a_p a_w e_gb a_bb)), (a_p, (oc6 8 5 a_pn e_p)), (a_pn, (arI G 40 f_p)), (a_j, (oc2 a_as a_sk)), (a_as, (arI G 8 f_as)), (a_sk, (arJ G 50 f_sk)), (a_l, (arW G 6 f_l)), (a_lo, (oc3 e_cl a_hd a_sr a_cd)), (a_sr, (arI G n_sr f_sr)), (a_cd, (arI G n_cd f_cd)), (a_hd, (arI G n_hd f_hd))]) hP hD [2, 3] [0, 1, 4, 5, 6, 7, 8, 9, 10, 11, 12, 13] rfl rfl (by decide +kernel) (by decide +kernel) hk1 hFc hP1 hD1
    clear hP hD hPc hDc hFc ht hvm hz1 hk1 hP1 hD1
    obtain ⟨hP, hD⟩ := hJ9
    refine g5_rs [(a_k, (oc5 a_h a_j a_pt e_ln e_se e_lh e_br e_we e_me e_ce e_wy e_ho 1)), (a_h, (oc1 e_wa e_le e_st e_fo e_lc a_l a_g a_b a_s a_p a_w e_gb a_bb)), (a_p, (oc6 8 5 a_pn e_p)), (a_pn, (arI G 40 f_p)), (a_j, (oc2 a_as a_sk)), (a_as, (arI G 8 f_as)), (a_sk, (arJ G 50 f_sk)), (a_l, (arW G 6 f_l)), (a_lo, (oc3 e_cl a_hd a_sr a_cd)), (a_sr, (arI G n_sr f_sr)), (a_cd, (arI G n_cd f_cd)), (a_hd, (arI G n_hd f_hd)), (a_g, (oc6 6 5 a_gn e_g)), (a_gn, (arI G 30 f_g))] hP hD ?_
    clear hP hD
    intro hP hD
    refine lv_istore_n (lv' := [(1, .int (-1)), (0, .ref a_k)]) hx hb dX5_meetGlass_20 rfl hl (by decide +kernel) rfl ?_
    clear hl
    intro ls hl
    refine lv_iload_n hx hb dX5_meetGlass_21 rfl (lv_at hl 0 rfl) ?_
    refine lv_iconst (v := (-1)) hx hb dX5_meetGlass_22 (by decide +kernel) ?_
    refine lv_icmp_ne (tgt := 36) hx hb dX5_meetGlass_23 (by decide +kernel) (fun c_7 => ?_) (fun c_7 => ?_)
    ·
      exact absurd c_7 (by decide +kernel)
    ·
      have hGF := find_gn e_qg i_1
      refine lv_aload_n hx hb dX5_meetGlass_26 rfl (lv_at hl 1 rfl) ?_
      refine va_get (D := G.1) (ci := 5) (v := .ref a_h) (C := RX5) (T := TX5) (N := 13) hx hb hts inG_X5 hown hK hP 0 rfl rfl 0 (by decide +kernel) (hts _ fl_X5_22) (fun _ h9 => h9) rfl dX5_meetGlass_27 ?_
      refine va_get (D := G.1) (ci := 1) (v := .ref a_p) (C := RX1) (T := TX1) (N := 13) hx hb hts inG_X1 hown hK hP 1 rfl rfl 9 (by decide +kernel) (hts _ fl_X5_98) (fun _ h9 => h9) rfl dX5_meetGlass_30 ?_
      refine lv_goto (tgt := 43) hx hb dX5_meetGlass_33 (by decide +kernel) ?_
      refine W.eq (g2 := F0 m 43 ls [.ref a_p]) rfl ?_
      refine lv_astore_n (lv' := [(2, .ref a_p), (1, .int (-1)), (0, .ref a_k)]) hx hb dX5_meetGlass_43 rfl hl (by decide +kernel) rfl ?_
      clear hl
      intro ls hl
      refine lv_iload_n hx hb dX5_meetGlass_44 rfl (lv_at hl 1 rfl) ?_
      refine lv_iconst (v := (-1)) hx hb dX5_meetGlass_45 (by decide +kernel) ?_
      refine lv_icmp_ne (tgt := 67) hx hb dX5_meetGlass_46 (by decide +kernel) (fun c_8 => ?_) (fun c_8 => ?_)
      ·
        exact absurd c_8 (by decide +kernel)
      ·
        refine lv_aload_n hx hb dX5_meetGlass_49 rfl (lv_at hl 2 rfl) ?_
        refine va_get (D := G.1) (ci := 5) (v := .ref a_h) (C := RX5) (T := TX5) (N := 13) hx hb hts inG_X5 hown hK hP 0 rfl rfl 0 (by decide +kernel) (hts _ fl_X5_22) (fun _ h9 => h9) rfl dX5_meetGlass_50 ?_
        refine va_get (D := G.1) (ci := 1) (v := .ref a_p) (C := RX1) (T := TX1) (N := 13) hx hb hts inG_X1 hown hK hP 1 rfl rfl 9 (by decide +kernel) (hts _ fl_X5_98) (fun _ h9 => h9) rfl dX5_meetGlass_53 ?_
        refine lv_iconst (v := 0) hx hb dX5_meetGlass_56 (by decide +kernel) ?_
        refine W.eq (g2 := F0 m 57 ls [.int 0, .ref a_p]) rfl ?_
        refine lv_aload_n hx hb dX5_meetGlass_57 rfl (lv_at hl 2 rfl) ?_
        refine va_get (D := G.1) (ci := 5) (v := .int e_ce) (C := RX5) (T := TX5) (N := 13) hx hb hts inG_X5 hown hK hP 0 rfl rfl 9 (by decide +kernel) (hts _ fl_X5_26) (fun _ h9 => h9) rfl dX5_meetGlass_58 ?_
        obtain ⟨hPc, hDc, hFc⟩ := g5_sub3 (wc := [(a_p, (oc6 8 5 a_pn e_p)), (a_pn, (arI G 40 f_p))]) hP hD hS hA [2, 3] (by decide +kernel) rfl
        refine va_calli (va_runV (As := [.int 0, .int e_ce]) (rest := []) ⟨hx, hb, hml, hown, hts⟩ (t_findX_P l G a_p a_pn H.size e_p 0 e_ce f_p h_e_p) (cwV 2 hts gV_X5_131 rfl rfl rfl hv_X6_find ⟨Nat.le_of_ble_eq_true rfl, Nat.le_of_ble_eq_true rfl⟩) (g5_preV hPc hK hDc hN hT hS hFc (ci := 6) (q0 := 0) rfl rfl) rfl rfl hl.1 rfl (lv_room (Nat.le_of_ble_eq_true rfl)) dX5_meetGlass_61 ⟨Nat.le_of_ble_eq_true rfl, Nat.le_of_ble_eq_true rfl⟩) hS (fun q _ h => hFc q h) hFc (fun r u t H locs ht hvm hw hB hz1 hk1 hS => ?_)
        obtain ⟨hP1, hD1⟩ := hB
        have hP1 := g5_ht ht hP1
        rcases hw with ⟨(i_9 : ∀ r : Int, 0 ≤ r → r < e_p.toInt → tget f_p e_p.toInt 5 r (0 : Int32).toInt ≠ e_ce), rfl, rfl⟩ | ⟨z13, (i_10 : 0 ≤ z13.toInt ∧ z13.toInt < e_p.toInt), (i_11 : tget f_p e_p.toInt 5 z13.toInt (0 : Int32).toInt = e_ce), (i_12 : ∀ r : Int, 0 ≤ r → r < z13.toInt → tget f_p e_p.toInt 5 r (0 : Int32).toInt ≠ e_ce), y14, rfl⟩
        ·
          have hJ9 := va_join (wr := [(a_k, (oc5 a_h a_j a_pt e_ln e_se e_lh e_br e_we e_me e_ce e_wy e_ho 1)), (a_h, (oc1 e_wa e_le e_st e_fo e_lc a_l a_g a_b a_s a_p a_w e_gb a_bb)), (a_j, (oc2 a_as a_sk)), (a_as, (arI G 8 f_as)), (a_sk, (arJ G 50 f_sk)), (a_l, (arW G 6 f_l)), (a_lo, (oc3 e_cl a_hd a_sr a_cd)), (a_sr, (arI G n_sr f_sr)), (a_cd, (arI G n_cd f_cd)), (a_hd, (arI G n_hd f_hd)), (a_g, (oc6 6 5 a_gn e_g)), (a_gn, (arI G 30 f_g))]) hP hD [2, 3] [0, 1, 4, 5, 6, 7, 8, 9, 10, 11, 12, 13] rfl rfl (by decide +kernel) (by decide +kernel) hk1 hFc hP1 hD1
          clear hP hD hPc hDc hFc ht hvm hz1 hk1 hP1 hD1
          obtain ⟨hP, hD⟩ := hJ9
          refine g5_rs [(a_k, (oc5 a_h a_j a_pt e_ln e_se e_lh e_br e_we e_me e_ce e_wy e_ho 1)), (a_h, (oc1 e_wa e_le e_st e_fo e_lc a_l a_g a_b a_s a_p a_w e_gb a_bb)), (a_j, (oc2 a_as a_sk)), (a_as, (arI G 8 f_as)), (a_sk, (arJ G 50 f_sk)), (a_l, (arW G 6 f_l)), (a_lo, (oc3 e_cl a_hd a_sr a_cd)), (a_sr, (arI G n_sr f_sr)), (a_cd, (arI G n_cd f_cd)), (a_hd, (arI G n_hd f_hd)), (a_g, (oc6 6 5 a_gn e_g)), (a_gn, (arI G 30 f_g)), (a_p, (oc6 8 5 a_pn e_p)), (a_pn, (arI G 40 f_p))] hP hD ?_
          clear hP hD
          intro hP hD
          exact absurd (sp_on (f := f_ro) e_hu ⟨by omega, by omega⟩ e_on i_9) (fun h9 => h9)
        ·
          have hJ9 := va_join (wr := [(a_k, (oc5 a_h a_j a_pt e_ln e_se e_lh e_br e_we e_me e_ce e_wy e_ho 1)), (a_h, (oc1 e_wa e_le e_st e_fo e_lc a_l a_g a_b a_s a_p a_w e_gb a_bb)), (a_j, (oc2 a_as a_sk)), (a_as, (arI G 8 f_as)), (a_sk, (arJ G 50 f_sk)), (a_l, (arW G 6 f_l)), (a_lo, (oc3 e_cl a_hd a_sr a_cd)), (a_sr, (arI G n_sr f_sr)), (a_cd, (arI G n_cd f_cd)), (a_hd, (arI G n_hd f_hd)), (a_g, (oc6 6 5 a_gn e_g)), (a_gn, (arI G 30 f_g))]) hP hD [2, 3] [0, 1, 4, 5, 6, 7, 8, 9, 10, 11, 12, 13] rfl rfl (by decide +kernel) (by decide +kernel) hk1 hFc hP1 hD1
          clear hP hD hPc hDc hFc ht hvm hz1 hk1 hP1 hD1
          obtain ⟨hP, hD⟩ := hJ9
          refine g5_rs [(a_k, (oc5 a_h a_j a_pt e_ln e_se e_lh e_br e_we e_me e_ce e_wy e_ho 1)), (a_h, (oc1 e_wa e_le e_st e_fo e_lc a_l a_g a_b a_s a_p a_w e_gb a_bb)), (a_j, (oc2 a_as a_sk)), (a_as, (arI G 8 f_as)), (a_sk, (arJ G 50 f_sk)), (a_l, (arW G 6 f_l)), (a_lo, (oc3 e_cl a_hd a_sr a_cd)), (a_sr, (arI G n_sr f_sr)), (a_cd, (arI G n_cd f_cd)), (a_hd, (arI G n_hd f_hd)), (a_g, (oc6 6 5 a_gn e_g)), (a_gn, (arI G 30 f_g)), (a_p, (oc6 8 5 a_pn e_p)), (a_pn, (arI G 40 f_p))] hP hD ?_
          clear hP hD
          intro hP hD
          refine g5_ti (v := z13) y14 ?_
          have hSF := sp_find e_qp e_hu ⟨by omega, by omega⟩ e_on i_10 i_11 i_12
          refine lv_goto (tgt := 68) hx hb dX5_meetGlass_64 (by decide +kernel) ?_
          refine lv_istore_n (lv' := [(3, .int z13), (2, .ref a_p), (1, .int (-1)), (0, .ref a_k)]) hx hb dX5_meetGlass_68 rfl hl (by decide +kernel) rfl ?_
          clear hl
          intro ls hl
          refine lv_iload_n hx hb dX5_meetGlass_69 rfl (lv_at hl 2 rfl) ?_
          refine lv_iconst (v := (-1)) hx hb dX5_meetGlass_70 (by decide +kernel) ?_
          refine W.eq (g2 := F0 m 71 ls [.int (-1), .int (-1)]) rfl ?_
          refine lv_icmp_ne (tgt := 81) hx hb dX5_meetGlass_71 (by decide +kernel) (fun c_15 => ?_) (fun c_15 => ?_)
          ·
            exact absurd c_15 (by decide +kernel)
          ·
            refine lv_bipush (v := 6) hx hb dX5_meetGlass_74 (by decide +kernel) ?_
            refine lv_iload_n hx hb dX5_meetGlass_76 rfl (lv_at hl 0 rfl) ?_
            refine lv_iadd hx hb dX5_meetGlass_77 ?_
            have t_16 : (6 + z13).toInt = 6 + z13.toInt := g5_iadd (a := 6) (b := z13.toInt) (by decide +kernel) (by rfl) (by omega) (by omega)
            refine lv_goto (tgt := 82) hx hb dX5_meetGlass_78 (by decide +kernel) ?_
            refine W.eq (g2 := F0 m 82 ls [.int (6 + z13)]) rfl ?_
            refine lv_istore (lv' := [(4, .int (6 + z13)), (3, .int z13), (2, .ref a_p), (1, .int (-1)), (0, .ref a_k)]) hx hb dX5_meetGlass_82 hl (by decide +kernel) rfl ?_
            clear hl
            intro ls hl
            refine lv_aload_n hx hb dX5_meetGlass_84 rfl (lv_at hl 2 rfl) ?_
            refine lv_iload_n hx hb dX5_meetGlass_85 rfl (lv_at hl 1 rfl) ?_
            refine lv_iconst (v := 1) hx hb dX5_meetGlass_86 (by decide +kernel) ?_
            obtain ⟨hPc, hDc, hFc⟩ := g5_sub3 (wc := [(a_p, (oc6 8 5 a_pn e_p)), (a_pn, (arI G 40 f_p))]) hP hD hS hA [12, 13] (by decide +kernel) rfl
            refine va_calli (va_runV (As := [.int z13, .int 1]) (rest := []) ⟨hx, hb, hml, hown, hts⟩ (t_get_P l G a_p a_pn H.size e_p z13 1 f_p h_e_p) (cwV 2 hts gV_X5_107 rfl rfl rfl hv_X6_get ⟨Nat.le_of_ble_eq_true rfl, Nat.le_of_ble_eq_true rfl⟩) (g5_preV hPc hK hDc hN hT hS hFc (ci := 6) (q0 := 0) rfl rfl) rfl rfl hl.1 rfl (lv_room (Nat.le_of_ble_eq_true rfl)) dX5_meetGlass_87 ⟨Nat.le_of_ble_eq_true rfl, Nat.le_of_ble_eq_true rfl⟩) hS (fun q _ h => hFc q h) hFc (fun r u t H locs ht hvm hw hB hz1 hk1 hS => ?_)
            obtain ⟨hP1, hD1⟩ := hB
            have hP1 := g5_ht ht hP1
            obtain ⟨z18, (i_17 : z18 = tget f_p e_p.toInt 5 z13.toInt (1 : Int32).toInt), y19, rfl⟩ := hw
            have hJ9 := va_join (wr := [(a_k, (oc5 a_h a_j a_pt e_ln e_se e_lh e_br e_we e_me e_ce e_wy e_ho 1)), (a_h, (oc1 e_wa e_le e_st e_fo e_lc a_l a_g a_b a_s a_p a_w e_gb a_bb)), (a_j, (oc2 a_as a_sk)), (a_as, (arI G 8 f_as)), (a_sk, (arJ G 50 f_sk)), (a_l, (arW G 6 f_l)), (a_lo, (oc3 e_cl a_hd a_sr a_cd)), (a_sr, (arI G n_sr f_sr)), (a_cd, (arI G n_cd f_cd)), (a_hd, (arI G n_hd f_hd)), (a_g, (oc6 6 5 a_gn e_g)), (a_gn, (arI G 30 f_g))]) hP hD [12, 13] [0, 1, 2, 3, 4, 5, 6, 7, 8, 9, 10, 11] rfl rfl (by decide +kernel) (by decide +kernel) hk1 hFc hP1 hD1
            clear hP hD hPc hDc hFc ht hvm hz1 hk1 hP1 hD1
            obtain ⟨hP, hD⟩ := hJ9
            refine g5_rs [(a_k, (oc5 a_h a_j a_pt e_ln e_se e_lh e_br e_we e_me e_ce e_wy e_ho 1)), (a_h, (oc1 e_wa e_le e_st e_fo e_lc a_l a_g a_b a_s a_p a_w e_gb a_bb)), (a_j, (oc2 a_as a_sk)), (a_as, (arI G 8 f_as)), (a_sk, (arJ G 50 f_sk)), (a_l, (arW G 6 f_l)), (a_lo, (oc3 e_cl a_hd a_sr a_cd)), (a_sr, (arI G n_sr f_sr)), (a_cd, (arI G n_cd f_cd)), (a_hd, (arI G n_hd f_hd)), (a_g, (oc6 6 5 a_gn e_g)), (a_gn, (arI G 30 f_g)), (a_p, (oc6 8 5 a_pn e_p)), (a_pn, (arI G 40 f_p))] hP hD ?_
            clear hP hD
            intro hP hD
            refine g5_ti (v := z18) y19 ?_
            have hc1_20 := sp_col (k := 1) e_qp i_10 i_17 (by decide +kernel) (by omega)
            have hg_20 : 0 ≤ z18.toInt ∧ z18.toInt ≤ 5 := by rw [i_17]; exact (e_pk z13.toInt (by omega) (by omega)).2.1
            refine W.eq (g2 := F0 m 90 ls [.int z18]) rfl ?_
            refine lv_istore (lv' := [(5, .int z18), (4, .int (6 + z13)), (3, .int z13), (2, .ref a_p), (1, .int (-1)), (0, .ref a_k)]) hx hb dX5_meetGlass_90 hl (by decide +kernel) rfl ?_
            clear hl
            intro ls hl
            refine lv_aload_n hx hb dX5_meetGlass_92 rfl (lv_at hl 5 rfl) ?_
            refine lv_dup hx hb dX5_meetGlass_93 rfl ?_
            refine va_get (D := G.1) (ci := 5) (v := .int e_me) (C := RX5) (T := TX5) (N := 13) hx hb hts inG_X5 hown hK hP 0 rfl rfl 8 (by decide +kernel) (hts _ fl_X5_95) (fun _ h9 => h9) rfl dX5_meetGlass_94 ?_
            refine lv_iconst (v := 1) hx hb dX5_meetGlass_97 (by decide +kernel) ?_
            refine W.eq (g2 := F0 m 98 ls [.int 1, .int e_me, .ref a_k]) rfl ?_
            refine lv_iload hx hb dX5_meetGlass_98 (lv_at hl 1 rfl) ?_
            refine lv_ishl hx hb dX5_meetGlass_100 ?_
            refine lv_ior hx hb dX5_meetGlass_101 ?_
            refine va_put (D := G.1) (ci := 5) (v := .int (e_me ||| (1 <<< ((6 + z13) &&& 31)))) (ty := .int) (C := RX5) (T := TX5) (N := 13) hx hb hts inG_X5 tyX5 tyX5_ok nmX5 hown hK hP hD hS 0 rfl rfl 8 (by decide +kernel) (hts _ fl_X5_95) (fun _ h9 => h9) rfl (by decide +kernel) rfl rfl (Nat.le_of_ble_eq_true rfl) dX5_meetGlass_102 ?_
            clear hP hD hS
            intro H locs hP hD hS
            refine g5_rs [(a_k, (oc5 a_h a_j a_pt e_ln e_se e_lh e_br e_we (e_me ||| (1 <<< ((6 + z13) &&& 31))) e_ce e_wy e_ho 1)), (a_h, (oc1 e_wa e_le e_st e_fo e_lc a_l a_g a_b a_s a_p a_w e_gb a_bb)), (a_j, (oc2 a_as a_sk)), (a_as, (arI G 8 f_as)), (a_sk, (arJ G 50 f_sk)), (a_l, (arW G 6 f_l)), (a_lo, (oc3 e_cl a_hd a_sr a_cd)), (a_sr, (arI G n_sr f_sr)), (a_cd, (arI G n_cd f_cd)), (a_hd, (arI G n_hd f_hd)), (a_g, (oc6 6 5 a_gn e_g)), (a_gn, (arI G 30 f_g)), (a_p, (oc6 8 5 a_pn e_p)), (a_pn, (arI G 40 f_p))] hP hD ?_
            clear hP hD
            intro hP hD
            refine lv_aload_n hx hb dX5_meetGlass_105 rfl (lv_at hl 5 rfl) ?_
            refine W.eq (g2 := F0 m 106 ls [.ref a_k]) rfl ?_
            refine va_get (D := G.1) (ci := 5) (v := .ref a_h) (C := RX5) (T := TX5) (N := 13) hx hb hts inG_X5 hown hK hP 0 rfl rfl 0 (by decide +kernel) (hts _ fl_X5_22) (fun _ h9 => h9) rfl dX5_meetGlass_106 ?_
            obtain ⟨hPc, hDc, hFc⟩ := g5_sub3 (wc := [(a_h, (oc1 e_wa e_le e_st e_fo e_lc a_l a_g a_b a_s a_p a_w e_gb a_bb)), (a_l, (arW G 6 f_l))]) hP hD hS hA [1, 5] (by decide +kernel) rfl
            refine va_callq (va_runV (As := []) (rest := []) ⟨hx, hb, hml, hown, hts⟩ (h_lawL l G a_h a_l a_g a_b a_s a_p a_w a_bb a_lo H.size e_le e_st e_fo e_lc e_wa e_gb f_l (e_f) (e_a)) (cwV 0 hts gV_X5_113 rfl rfl rfl hv_X1_lawInForce ⟨Nat.le_of_ble_eq_true rfl, Nat.le_of_ble_eq_true rfl⟩) (g5_preV hPc hK hDc hN hT hS hFc (ci := 1) (q0 := 0) rfl rfl) rfl rfl hl.1 rfl (lv_room (Nat.le_of_ble_eq_true rfl)) dX5_meetGlass_109 ⟨Nat.le_of_ble_eq_true rfl, Nat.le_of_ble_eq_true rfl⟩) hS (fun q _ h => hFc q h) hFc (fun r u t H locs ht hvm hw hB hz1 hk1 hS => ?_)
            obtain ⟨hP1, hD1⟩ := hB
            have hP1 := g5_ht ht hP1
            obtain ⟨rfl, rfl⟩ := hw
            have hJ9 := va_join (wr := [(a_k, (oc5 a_h a_j a_pt e_ln e_se e_lh e_br e_we (e_me ||| (1 <<< ((6 + z13) &&& 31))) e_ce e_wy e_ho 1)), (a_j, (oc2 a_as a_sk)), (a_as, (arI G 8 f_as)), (a_sk, (arJ G 50 f_sk)), (a_lo, (oc3 e_cl a_hd a_sr a_cd)), (a_sr, (arI G n_sr f_sr)), (a_cd, (arI G n_cd f_cd)), (a_hd, (arI G n_hd f_hd)), (a_g, (oc6 6 5 a_gn e_g)), (a_gn, (arI G 30 f_g)), (a_p, (oc6 8 5 a_pn e_p)), (a_pn, (arI G 40 f_p))]) hP hD [1, 5] [0, 2, 3, 4, 6, 7, 8, 9, 10, 11, 12, 13] rfl rfl (by decide +kernel) (by decide +kernel) hk1 hFc hP1 hD1
            clear hP hD hPc hDc hFc ht hvm hz1 hk1 hP1 hD1
            obtain ⟨hP, hD⟩ := hJ9
            refine g5_rs [(a_k, (oc5 a_h a_j a_pt e_ln e_se e_lh e_br e_we (e_me ||| (1 <<< ((6 + z13) &&& 31))) e_ce e_wy e_ho 1)), (a_j, (oc2 a_as a_sk)), (a_as, (arI G 8 f_as)), (a_sk, (arJ G 50 f_sk)), (a_lo, (oc3 e_cl a_hd a_sr a_cd)), (a_sr, (arI G n_sr f_sr)), (a_cd, (arI G n_cd f_cd)), (a_hd, (arI G n_hd f_hd)), (a_g, (oc6 6 5 a_gn e_g)), (a_gn, (arI G 30 f_g)), (a_p, (oc6 8 5 a_pn e_p)), (a_pn, (arI G 40 f_p)), (a_h, (oc1 e_wa e_le e_st e_fo e_lc a_l a_g a_b a_s a_p a_w e_gb a_bb)), (a_l, (arW G 6 f_l))] hP hD ?_
            clear hP hD
            intro hP hD
            refine g5_tv (v := .ref a_lo) rfl ?_
            refine lv_astore (lv' := [(6, .ref a_lo), (5, .int z18), (4, .int (6 + z13)), (3, .int z13), (2, .ref a_p), (1, .int (-1)), (0, .ref a_k)]) hx hb dX5_meetGlass_112 hl (by decide +kernel) rfl ?_
            clear hl
            intro ls hl
            refine lv_aload_n hx hb dX5_meetGlass_114 rfl (lv_at hl 6 rfl) ?_
            refine lv_iload hx hb dX5_meetGlass_115 (lv_at hl 2 rfl) ?_
            refine W.eq (g2 := F0 m 117 ls [.int (6 + z13), .ref a_k]) rfl ?_
            refine lv_iconst (v := (-1)) hx hb dX5_meetGlass_117 (by decide +kernel) ?_
            obtain ⟨hPc, hDc, hFc⟩ := g5_sub3 (wc := [(a_k, (oc5 a_h a_j a_pt e_ln e_se e_lh e_br e_we (e_me ||| (1 <<< ((6 + z13) &&& 31))) e_ce e_wy e_ho 1)), (a_j, (oc2 a_as a_sk)), (a_as, (arI G 8 f_as))]) hP hD hS hA [0, 1, 2] (by decide +kernel) rfl
            refine va_callv (va_runV (As := [.int (6 + z13), .int (-1)]) (rest := []) ⟨hx, hb, hml, hown, hts⟩ (k_askX l G a_k a_j a_as a_h a_pt a_sk H.size e_ln e_se e_lh e_br e_we (e_me ||| (1 <<< ((6 + z13) &&& 31))) e_ce e_wy e_ho 1 (6 + z13) (-1) f_as h_e_br h_e_ce h_e_wy h_e_ho ⟨by decide, by decide⟩) (cwV 2 hts gV_X5_120 rfl rfl rfl hv_X5_ask ⟨Nat.le_of_ble_eq_true rfl, Nat.le_of_ble_eq_true rfl⟩) (g5_preV hPc hK hDc hN hT hS hFc (ci := 5) (q0 := 0) rfl rfl) rfl rfl hl.1 rfl (lv_room (Nat.le_of_ble_eq_true rfl)) dX5_meetGlass_118 ⟨Nat.le_of_ble_eq_true rfl, Nat.le_of_ble_eq_true rfl⟩) hS (fun q _ h => hFc q h) hFc (fun u t H locs ht hvm hw hB hz1 hk1 hS => ?_)
            obtain ⟨hP1, hD1⟩ := hB
            have hP1 := g5_ht ht hP1
            obtain ⟨z22, (i_21 : ∀ j : Nat, j < 8 → askQ (6 + z13) e_ce e_ho e_wy ((-1) : Int32) e_ln e_br j = (z22 j).toInt64), rfl⟩ := hw
            have hJ9 := va_join (wr := [(a_sk, (arJ G 50 f_sk)), (a_lo, (oc3 e_cl a_hd a_sr a_cd)), (a_sr, (arI G n_sr f_sr)), (a_cd, (arI G n_cd f_cd)), (a_hd, (arI G n_hd f_hd)), (a_g, (oc6 6 5 a_gn e_g)), (a_gn, (arI G 30 f_g)), (a_p, (oc6 8 5 a_pn e_p)), (a_pn, (arI G 40 f_p)), (a_h, (oc1 e_wa e_le e_st e_fo e_lc a_l a_g a_b a_s a_p a_w e_gb a_bb)), (a_l, (arW G 6 f_l))]) hP hD [0, 1, 2] [3, 4, 5, 6, 7, 8, 9, 10, 11, 12, 13] rfl rfl (by decide +kernel) (by decide +kernel) hk1 hFc hP1 hD1
            clear hP hD hPc hDc hFc ht hvm hz1 hk1 hP1 hD1
            obtain ⟨hP, hD⟩ := hJ9
            refine g5_rs [(a_sk, (arJ G 50 f_sk)), (a_lo, (oc3 e_cl a_hd a_sr a_cd)), (a_sr, (arI G n_sr f_sr)), (a_cd, (arI G n_cd f_cd)), (a_hd, (arI G n_hd f_hd)), (a_g, (oc6 6 5 a_gn e_g)), (a_gn, (arI G 30 f_g)), (a_p, (oc6 8 5 a_pn e_p)), (a_pn, (arI G 40 f_p)), (a_h, (oc1 e_wa e_le e_st e_fo e_lc a_l a_g a_b a_s a_p a_w e_gb a_bb)), (a_l, (arW G 6 f_l)), (a_k, (oc5 a_h a_j a_pt e_ln e_se e_lh e_br e_we (e_me ||| (1 <<< ((6 + z13) &&& 31))) e_ce e_wy e_ho 1)), (a_j, (oc2 a_as a_sk)), (a_as, (arI G 8 z22))] hP hD ?_
            clear hP hD
            intro hP hD
            refine lv_aload_n hx hb dX5_meetGlass_121 rfl (lv_at hl 4 rfl) ?_
            refine lv_iload_n hx hb dX5_meetGlass_122 rfl (lv_at hl 3 rfl) ?_
            refine lv_iconst (v := 4) hx hb dX5_meetGlass_123 (by decide +kernel) ?_
            refine W.eq (g2 := F0 m 124 ls [.int 4, .int z13, .ref a_p]) rfl ?_
            obtain ⟨hPc, hDc, hFc⟩ := g5_sub3 (wc := [(a_p, (oc6 8 5 a_pn e_p)), (a_pn, (arI G 40 f_p))]) hP hD hS hA [7, 8] (by decide +kernel) rfl
            refine va_calli (va_runV (As := [.int z13, .int 4]) (rest := []) ⟨hx, hb, hml, hown, hts⟩ (t_get_P l G a_p a_pn H.size e_p z13 4 f_p h_e_p) (cwV 2 hts gV_X5_107 rfl rfl rfl hv_X6_get ⟨Nat.le_of_ble_eq_true rfl, Nat.le_of_ble_eq_true rfl⟩) (g5_preV hPc hK hDc hN hT hS hFc (ci := 6) (q0 := 0) rfl rfl) rfl rfl hl.1 rfl (lv_room (Nat.le_of_ble_eq_true rfl)) dX5_meetGlass_124 ⟨Nat.le_of_ble_eq_true rfl, Nat.le_of_ble_eq_true rfl⟩) hS (fun q _ h => hFc q h) hFc (fun r u t H locs ht hvm hw hB hz1 hk1 hS => ?_)
            obtain ⟨hP1, hD1⟩ := hB
            have hP1 := g5_ht ht hP1
            obtain ⟨z24, (i_23 : z24 = tget f_p e_p.toInt 5 z13.toInt (4 : Int32).toInt), y25, rfl⟩ := hw
            have hJ9 := va_join (wr := [(a_sk, (arJ G 50 f_sk)), (a_lo, (oc3 e_cl a_hd a_sr a_cd)), (a_sr, (arI G n_sr f_sr)), (a_cd, (arI G n_cd f_cd)), (a_hd, (arI G n_hd f_hd)), (a_g, (oc6 6 5 a_gn e_g)), (a_gn, (arI G 30 f_g)), (a_h, (oc1 e_wa e_le e_st e_fo e_lc a_l a_g a_b a_s a_p a_w e_gb a_bb)), (a_l, (arW G 6 f_l)), (a_k, (oc5 a_h a_j a_pt e_ln e_se e_lh e_br e_we (e_me ||| (1 <<< ((6 + z13) &&& 31))) e_ce e_wy e_ho 1)), (a_j, (oc2 a_as a_sk)), (a_as, (arI G 8 z22))]) hP hD [7, 8] [0, 1, 2, 3, 4, 5, 6, 9, 10, 11, 12, 13] rfl rfl (by decide +kernel) (by decide +kernel) hk1 hFc hP1 hD1
            clear hP hD hPc hDc hFc ht hvm hz1 hk1 hP1 hD1
            obtain ⟨hP, hD⟩ := hJ9
            refine g5_rs [(a_sk, (arJ G 50 f_sk)), (a_lo, (oc3 e_cl a_hd a_sr a_cd)), (a_sr, (arI G n_sr f_sr)), (a_cd, (arI G n_cd f_cd)), (a_hd, (arI G n_hd f_hd)), (a_g, (oc6 6 5 a_gn e_g)), (a_gn, (arI G 30 f_g)), (a_h, (oc1 e_wa e_le e_st e_fo e_lc a_l a_g a_b a_s a_p a_w e_gb a_bb)), (a_l, (arW G 6 f_l)), (a_k, (oc5 a_h a_j a_pt e_ln e_se e_lh e_br e_we (e_me ||| (1 <<< ((6 + z13) &&& 31))) e_ce e_wy e_ho 1)), (a_j, (oc2 a_as a_sk)), (a_as, (arI G 8 z22)), (a_p, (oc6 8 5 a_pn e_p)), (a_pn, (arI G 40 f_p))] hP hD ?_
            clear hP hD
            intro hP hD
            refine g5_ti (v := z24) y25 ?_
            have hz4_26 := sp_z4 e_qp i_10 i_23
            refine lv_aload_n hx hb dX5_meetGlass_127 rfl (lv_at hl 6 rfl) ?_
            refine va_get (D := G.1) (ci := 5) (v := .int e_ho) (C := RX5) (T := TX5) (N := 13) hx hb hts inG_X5 hown hK hP 9 rfl rfl 11 (by decide +kernel) (hts _ fl_X5_33) (fun _ h9 => h9) rfl dX5_meetGlass_128 ?_
            refine lv_ishr hx hb dX5_meetGlass_131 ?_
            refine lv_iconst (v := 1) hx hb dX5_meetGlass_132 (by decide +kernel) ?_
            refine W.eq (g2 := F0 m 133 ls [.int 1, .int (z24 >>> (e_ho &&& 31))]) rfl ?_
            refine lv_iand hx hb dX5_meetGlass_133 ?_
            refine g5_ti (v := 0) (g5_toc (n := 0) (by decide +kernel) (q0_z hz4_26)) ?_
            refine lv_if_ne (tgt := 169) hx hb dX5_meetGlass_134 (by decide +kernel) (fun c_27 => ?_) (fun c_27 => ?_)
            ·
              exact absurd c_27 (by decide +kernel)
            ·
              refine lv_aload_n hx hb dX5_meetGlass_137 rfl (lv_at hl 6 rfl) ?_
              refine va_get (D := G.1) (ci := 5) (v := .ref a_j) (C := RX5) (T := TX5) (N := 13) hx hb hts inG_X5 hown hK hP 9 rfl rfl 1 (by decide +kernel) (hts _ fl_X5_12) (fun _ h9 => h9) rfl dX5_meetGlass_138 ?_
              refine lv_aload hx hb dX5_meetGlass_141 (lv_at hl 0 rfl) ?_
              refine lv_iconst (v := 2) hx hb dX5_meetGlass_143 (by decide +kernel) ?_
              refine W.eq (g2 := F0 m 144 ls [.int 2, .ref a_lo, .ref a_j]) rfl ?_
              obtain ⟨hPc, hDc, hFc⟩ := g5_sub3 (wc := [(a_j, (oc2 a_as a_sk)), (a_as, (arI G 8 z22)), (a_sk, (arJ G 50 f_sk)), (a_lo, (oc3 e_cl a_hd a_sr a_cd)), (a_sr, (arI G n_sr f_sr)), (a_cd, (arI G n_cd f_cd)), (a_hd, (arI G n_hd f_hd))]) hP hD hS hA [10, 11, 0, 1, 2, 3, 4] (by decide +kernel) rfl
              refine va_calli (va_runV (As := [.ref a_lo, .int 2]) (rest := []) ⟨hx, hb, hml, hown, hts⟩ (j_isHeldX l G a_j a_as a_sk a_lo a_sr a_cd a_hd H.size 2 e_cl z22 f_sk f_sr f_cd f_hd (askQ (6 + z13) e_ce e_ho e_wy (-1) e_ln e_br) g_L n_sr n_cd n_hd h_e_cl (e_hn) (e_hs) (e_hk) (e_c) (i_21) (e_lw) (e_lv)) (cwV 2 hts gV_X5_124 rfl rfl rfl hv_X2_isHeld ⟨Nat.le_of_ble_eq_true rfl, Nat.le_of_ble_eq_true rfl⟩) (g5_preV hPc hK hDc hN hT hS hFc (ci := 2) (q0 := 0) rfl rfl) rfl rfl hl.1 rfl (lv_room (Nat.le_of_ble_eq_true rfl)) dX5_meetGlass_144 ⟨Nat.le_of_ble_eq_true rfl, Nat.le_of_ble_eq_true rfl⟩) hS (fun q _ h => hFc q h) hFc (fun r u t H locs ht hvm hw hB hz1 hk1 hS => ?_)
              obtain ⟨hP1, hD1⟩ := hB
              have hP1 := g5_ht ht hP1
              rcases hw with ⟨z29, (i_28 : ∃ v : Int64, toldX g_L (2 : Int32).toInt (askQ (6 + z13) e_ce e_ho e_wy (-1) e_ln e_br) = some v ∧ ((2 : Int32).toInt < 2 → z29 0 = v)), rfl, rfl⟩ | ⟨z31, (i_30 : toldX g_L (2 : Int32).toInt (askQ (6 + z13) e_ce e_ho e_wy (-1) e_ln e_br) = none), rfl, rfl⟩
              ·
                have hJ9 := va_join (wr := [(a_g, (oc6 6 5 a_gn e_g)), (a_gn, (arI G 30 f_g)), (a_h, (oc1 e_wa e_le e_st e_fo e_lc a_l a_g a_b a_s a_p a_w e_gb a_bb)), (a_l, (arW G 6 f_l)), (a_k, (oc5 a_h a_j a_pt e_ln e_se e_lh e_br e_we (e_me ||| (1 <<< ((6 + z13) &&& 31))) e_ce e_wy e_ho 1)), (a_p, (oc6 8 5 a_pn e_p)), (a_pn, (arI G 40 f_p))]) hP hD [10, 11, 0, 1, 2, 3, 4] [5, 6, 7, 8, 9, 12, 13] rfl rfl (by decide +kernel) (by decide +kernel) hk1 hFc hP1 hD1
                clear hP hD hPc hDc hFc ht hvm hz1 hk1 hP1 hD1
                obtain ⟨hP, hD⟩ := hJ9
                refine g5_rs [(a_g, (oc6 6 5 a_gn e_g)), (a_gn, (arI G 30 f_g)), (a_h, (oc1 e_wa e_le e_st e_fo e_lc a_l a_g a_b a_s a_p a_w e_gb a_bb)), (a_l, (arW G 6 f_l)), (a_k, (oc5 a_h a_j a_pt e_ln e_se e_lh e_br e_we (e_me ||| (1 <<< ((6 + z13) &&& 31))) e_ce e_wy e_ho 1)), (a_p, (oc6 8 5 a_pn e_p)), (a_pn, (arI G 40 f_p)), (a_j, (oc2 a_as a_sk)), (a_as, (arI G 8 z22)), (a_sk, (arJ G 50 z29)), (a_lo, (oc3 e_cl a_hd a_sr a_cd)), (a_sr, (arI G n_sr f_sr)), (a_cd, (arI G n_cd f_cd)), (a_hd, (arI G n_hd f_hd))] hP hD ?_
                clear hP hD
                intro hP hD
                obtain ⟨v2_32, ht_32, hv_32⟩ := i_28
                skip
                refine lv_if_ne (tgt := 169) hx hb dX5_meetGlass_147 (by decide +kernel) (fun c_33 => ?_) (fun c_33 => ?_)
                ·
                  exact W.vret hx hb hr (fun t ht hW => ⟨⟨[(a_k, (oc5 a_h a_j a_pt e_ln e_se e_lh e_br e_we (e_me ||| (1 <<< ((6 + z13) &&& 31))) e_ce e_wy e_ho 1)), (a_h, (oc1 e_wa e_le e_st e_fo e_lc a_l a_g a_b a_s a_p a_w e_gb a_bb)), (a_g, (oc6 6 5 a_gn e_g)), (a_gn, (arI G 30 f_g)), (a_p, (oc6 8 5 a_pn e_p)), (a_pn, (arI G 40 f_p)), (a_j, (oc2 a_as a_sk)), (a_as, (arI G 8 z22)), (a_sk, (arJ G 50 z29)), (a_l, (arW G 6 f_l)), (a_lo, (oc3 e_cl a_hd a_sr a_cd)), (a_sr, (arI G n_sr f_sr)), (a_cd, (arI G n_cd f_cd)), (a_hd, (arI G n_hd f_hd))], rfl, Or.inl (⟨e_br, (e_me ||| (1 <<< ((6 + z13) &&& 31))), z22, z29, h_e_br, by rw [met_sc (du := 0) hGF hSF (by omega) hc1_20 rfl (by decide +kernel) e_f4, tn_0 (Or.inr (Or.inl (by rw [tW_of e_w (by decide +kernel) ht_32]; exact fun q9 => by cases q9)))]; exact ⟨rfl, rfl, rfl⟩, rfl⟩), by rw [ht]; exact hP.sub [4, 2, 0, 1, 5, 6, 7, 8, 9, 3, 10, 11, 12, 13] rfl, hD.sub [4, 2, 0, 1, 5, 6, 7, 8, 9, 3, 10, 11, 12, 13] (by decide +kernel) rfl⟩, hS.F ht⟩) hS.2.2 dX5_meetGlass_169
                ·
                  exact absurd c_33 (by decide +kernel)
              ·
                have hJ9 := va_join (wr := [(a_g, (oc6 6 5 a_gn e_g)), (a_gn, (arI G 30 f_g)), (a_h, (oc1 e_wa e_le e_st e_fo e_lc a_l a_g a_b a_s a_p a_w e_gb a_bb)), (a_l, (arW G 6 f_l)), (a_k, (oc5 a_h a_j a_pt e_ln e_se e_lh e_br e_we (e_me ||| (1 <<< ((6 + z13) &&& 31))) e_ce e_wy e_ho 1)), (a_p, (oc6 8 5 a_pn e_p)), (a_pn, (arI G 40 f_p))]) hP hD [10, 11, 0, 1, 2, 3, 4] [5, 6, 7, 8, 9, 12, 13] rfl rfl (by decide +kernel) (by decide +kernel) hk1 hFc hP1 hD1
                clear hP hD hPc hDc hFc ht hvm hz1 hk1 hP1 hD1
                obtain ⟨hP, hD⟩ := hJ9
                refine g5_rs [(a_g, (oc6 6 5 a_gn e_g)), (a_gn, (arI G 30 f_g)), (a_h, (oc1 e_wa e_le e_st e_fo e_lc a_l a_g a_b a_s a_p a_w e_gb a_bb)), (a_l, (arW G 6 f_l)), (a_k, (oc5 a_h a_j a_pt e_ln e_se e_lh e_br e_we (e_me ||| (1 <<< ((6 + z13) &&& 31))) e_ce e_wy e_ho 1)), (a_p, (oc6 8 5 a_pn e_p)), (a_pn, (arI G 40 f_p)), (a_j, (oc2 a_as a_sk)), (a_as, (arI G 8 z22)), (a_sk, (arJ G 50 z31)), (a_lo, (oc3 e_cl a_hd a_sr a_cd)), (a_sr, (arI G n_sr f_sr)), (a_cd, (arI G n_cd f_cd)), (a_hd, (arI G n_hd f_hd))] hP hD ?_
                clear hP hD
                intro hP hD
                refine lv_if_ne (tgt := 169) hx hb dX5_meetGlass_147 (by decide +kernel) (fun c_34 => ?_) (fun c_34 => ?_)
                ·
                  exact absurd c_34 (by decide +kernel)
                ·
                  refine lv_iload hx hb dX5_meetGlass_150 (lv_at hl 1 rfl) ?_
                  refine lv_iconst (v := 2) hx hb dX5_meetGlass_152 (by decide +kernel) ?_
                  refine lv_icmp_lt (tgt := 170) hx hb dX5_meetGlass_153 (by decide +kernel) (fun c_35 => ?_) (fun c_35 => ?_)
                  ·
                    have i_35 : z18.toInt < 2 := g5_lt (a := z18.toInt) (b := 2) rfl (by decide +kernel) c_35
                    have hNS : ¬ (False ∨ toldW g_w 2 (askQ (6 + z13) e_ce e_ho e_wy (-1) e_ln e_br) ≠ none ∨ (2 ≤ z18.toInt ∧ e_wy.toInt ≠ z18.toInt % 4)) := ns_of id (tW_of e_w (by decide +kernel) i_30) (fun q9 => by have q8 := wr_of (so := z18) (wy := e_wy) ⟨by omega, by omega⟩ ⟨by omega, by omega⟩; first | omega | (unfold gNe at *; omega))
                    refine lv_aload_n hx hb dX5_meetGlass_170 rfl (lv_at hl 6 rfl) ?_
                    refine va_get (D := G.1) (ci := 5) (v := .ref a_j) (C := RX5) (T := TX5) (N := 13) hx hb hts inG_X5 hown hK hP 4 rfl rfl 1 (by decide +kernel) (hts _ fl_X5_12) (fun _ h9 => h9) rfl dX5_meetGlass_171 ?_
                    refine lv_aload hx hb dX5_meetGlass_174 (lv_at hl 0 rfl) ?_
                    refine lv_iconst (v := 0) hx hb dX5_meetGlass_176 (by decide +kernel) ?_
                    refine W.eq (g2 := F0 m 177 ls [.int 0, .ref a_lo, .ref a_j]) rfl ?_
                    obtain ⟨hPc, hDc, hFc⟩ := g5_sub3 (wc := [(a_j, (oc2 a_as a_sk)), (a_as, (arI G 8 z22)), (a_sk, (arJ G 50 z31)), (a_lo, (oc3 e_cl a_hd a_sr a_cd)), (a_sr, (arI G n_sr f_sr)), (a_cd, (arI G n_cd f_cd)), (a_hd, (arI G n_hd f_hd))]) hP hD hS hA [7, 8, 9, 10, 11, 12, 13] (by decide +kernel) rfl
                    refine va_calli (va_runV (As := [.ref a_lo, .int 0]) (rest := []) ⟨hx, hb, hml, hown, hts⟩ (j_isHeldX l G a_j a_as a_sk a_lo a_sr a_cd a_hd H.size 0 e_cl z22 z31 f_sr f_cd f_hd (askQ (6 + z13) e_ce e_ho e_wy (-1) e_ln e_br) g_L n_sr n_cd n_hd h_e_cl (e_hn) (e_hs) (e_hk) (e_c) (i_21) (e_lw) (e_lv)) (cwV 2 hts gV_X5_124 rfl rfl rfl hv_X2_isHeld ⟨Nat.le_of_ble_eq_true rfl, Nat.le_of_ble_eq_true rfl⟩) (g5_preV hPc hK hDc hN hT hS hFc (ci := 2) (q0 := 0) rfl rfl) rfl rfl hl.1 rfl (lv_room (Nat.le_of_ble_eq_true rfl)) dX5_meetGlass_177 ⟨Nat.le_of_ble_eq_true rfl, Nat.le_of_ble_eq_true rfl⟩) hS (fun q _ h => hFc q h) hFc (fun r u t H locs ht hvm hw hB hz1 hk1 hS => ?_)
                    obtain ⟨hP1, hD1⟩ := hB
                    have hP1 := g5_ht ht hP1
                    rcases hw with ⟨z37, (i_36 : ∃ v : Int64, toldX g_L (0 : Int32).toInt (askQ (6 + z13) e_ce e_ho e_wy (-1) e_ln e_br) = some v ∧ ((0 : Int32).toInt < 2 → z37 0 = v)), rfl, rfl⟩ | ⟨z39, (i_38 : toldX g_L (0 : Int32).toInt (askQ (6 + z13) e_ce e_ho e_wy (-1) e_ln e_br) = none), rfl, rfl⟩
                    ·
                      have hJ9 := va_join (wr := [(a_g, (oc6 6 5 a_gn e_g)), (a_gn, (arI G 30 f_g)), (a_h, (oc1 e_wa e_le e_st e_fo e_lc a_l a_g a_b a_s a_p a_w e_gb a_bb)), (a_l, (arW G 6 f_l)), (a_k, (oc5 a_h a_j a_pt e_ln e_se e_lh e_br e_we (e_me ||| (1 <<< ((6 + z13) &&& 31))) e_ce e_wy e_ho 1)), (a_p, (oc6 8 5 a_pn e_p)), (a_pn, (arI G 40 f_p))]) hP hD [7, 8, 9, 10, 11, 12, 13] [0, 1, 2, 3, 4, 5, 6] rfl rfl (by decide +kernel) (by decide +kernel) hk1 hFc hP1 hD1
                      clear hP hD hPc hDc hFc ht hvm hz1 hk1 hP1 hD1
                      obtain ⟨hP, hD⟩ := hJ9
                      refine g5_rs [(a_g, (oc6 6 5 a_gn e_g)), (a_gn, (arI G 30 f_g)), (a_h, (oc1 e_wa e_le e_st e_fo e_lc a_l a_g a_b a_s a_p a_w e_gb a_bb)), (a_l, (arW G 6 f_l)), (a_k, (oc5 a_h a_j a_pt e_ln e_se e_lh e_br e_we (e_me ||| (1 <<< ((6 + z13) &&& 31))) e_ce e_wy e_ho 1)), (a_p, (oc6 8 5 a_pn e_p)), (a_pn, (arI G 40 f_p)), (a_j, (oc2 a_as a_sk)), (a_as, (arI G 8 z22)), (a_sk, (arJ G 50 z37)), (a_lo, (oc3 e_cl a_hd a_sr a_cd)), (a_sr, (arI G n_sr f_sr)), (a_cd, (arI G n_cd f_cd)), (a_hd, (arI G n_hd f_hd))] hP hD ?_
                      clear hP hD
                      intro hP hD
                      obtain ⟨v0_40, ht_40, hv_40⟩ := i_36
                      have hw_40 := hv_40 (by decide +kernel)
                      refine lv_if_eq (tgt := 195) hx hb dX5_meetGlass_180 (by decide +kernel) (fun c_41 => ?_) (fun c_41 => ?_)
                      ·
                        exact absurd c_41 (by decide +kernel)
                      ·
                        refine lv_aload_n hx hb dX5_meetGlass_183 rfl (lv_at hl 6 rfl) ?_
                        refine va_get (D := G.1) (ci := 5) (v := .ref a_j) (C := RX5) (T := TX5) (N := 13) hx hb hts inG_X5 hown hK hP 4 rfl rfl 1 (by decide +kernel) (hts _ fl_X5_12) (fun _ h9 => h9) rfl dX5_meetGlass_184 ?_
                        refine lv_bipush (v := 23) hx hb dX5_meetGlass_187 (by decide +kernel) ?_
                        obtain ⟨hPc, hDc, hFc⟩ := g5_sub3 (wc := [(a_j, (oc2 a_as a_sk)), (a_sk, (arJ G 50 z37))]) hP hD hS hA [7, 9] (by decide +kernel) rfl
                        refine va_calli (va_runV (As := [.int 23]) (rest := []) ⟨hx, hb, hml, hown, hts⟩ (j_toldX l G a_j a_sk a_as H.size 23 z37 ⟨by decide, by decide⟩) (cwV 1 hts gV_X5_134 rfl rfl rfl hv_X2_toldUpTo ⟨Nat.le_of_ble_eq_true rfl, Nat.le_of_ble_eq_true rfl⟩) (g5_preV hPc hK hDc hN hT hS hFc (ci := 2) (q0 := 0) rfl rfl) rfl rfl hl.1 rfl (lv_room (Nat.le_of_ble_eq_true rfl)) dX5_meetGlass_189 ⟨Nat.le_of_ble_eq_true rfl, Nat.le_of_ble_eq_true rfl⟩) hS (fun q _ h => hFc q h) hFc (fun r u t H locs ht hvm hw hB hz1 hk1 hS => ?_)
                        obtain ⟨hP1, hD1⟩ := hB
                        have hP1 := g5_ht ht hP1
                        obtain ⟨z44, (i_42 : 0 ≤ z44.toInt ∧ z44.toInt ≤ (23 : Int32).toInt), (i_43 : z44 = clampQ (z37 0) (23 : Int32)), y45, rfl⟩ := hw
                        have hJ9 := va_join (wr := [(a_g, (oc6 6 5 a_gn e_g)), (a_gn, (arI G 30 f_g)), (a_h, (oc1 e_wa e_le e_st e_fo e_lc a_l a_g a_b a_s a_p a_w e_gb a_bb)), (a_l, (arW G 6 f_l)), (a_k, (oc5 a_h a_j a_pt e_ln e_se e_lh e_br e_we (e_me ||| (1 <<< ((6 + z13) &&& 31))) e_ce e_wy e_ho 1)), (a_p, (oc6 8 5 a_pn e_p)), (a_pn, (arI G 40 f_p)), (a_as, (arI G 8 z22)), (a_lo, (oc3 e_cl a_hd a_sr a_cd)), (a_sr, (arI G n_sr f_sr)), (a_cd, (arI G n_cd f_cd)), (a_hd, (arI G n_hd f_hd))]) hP hD [7, 9] [0, 1, 2, 3, 4, 5, 6, 8, 10, 11, 12, 13] rfl rfl (by decide +kernel) (by decide +kernel) hk1 hFc hP1 hD1
                        clear hP hD hPc hDc hFc ht hvm hz1 hk1 hP1 hD1
                        obtain ⟨hP, hD⟩ := hJ9
                        refine g5_rs [(a_g, (oc6 6 5 a_gn e_g)), (a_gn, (arI G 30 f_g)), (a_h, (oc1 e_wa e_le e_st e_fo e_lc a_l a_g a_b a_s a_p a_w e_gb a_bb)), (a_l, (arW G 6 f_l)), (a_k, (oc5 a_h a_j a_pt e_ln e_se e_lh e_br e_we (e_me ||| (1 <<< ((6 + z13) &&& 31))) e_ce e_wy e_ho 1)), (a_p, (oc6 8 5 a_pn e_p)), (a_pn, (arI G 40 f_p)), (a_as, (arI G 8 z22)), (a_lo, (oc3 e_cl a_hd a_sr a_cd)), (a_sr, (arI G n_sr f_sr)), (a_cd, (arI G n_cd f_cd)), (a_hd, (arI G n_hd f_hd)), (a_j, (oc2 a_as a_sk)), (a_sk, (arJ G 50 z37))] hP hD ?_
                        clear hP hD
                        intro hP hD
                        refine g5_ti (v := z44) y45 ?_
                        refine W.eq (g2 := F0 m 192 ls [.int z44]) rfl ?_
                        refine lv_goto (tgt := 201) hx hb dX5_meetGlass_192 (by decide +kernel) ?_
                        have hV_46 : z44 = tellQ (toldW g_w 0 (askQ (6 + z13) e_ce e_ho e_wy (-1) e_ln e_br)) (f_ro (270 + 3 * z13.toInt.toNat + 2)) 23 := tell_s (tW_of e_w (by decide +kernel) ht_40) (by rw [i_43, hw_40])
                        have hr_46 : 0 ≤ z44.toInt ∧ z44.toInt ≤ 23 := ⟨by omega, by have zk : (23 : Int32).toInt = 23 := (by decide +kernel); omega⟩
                        refine lv_istore (lv' := [(7, .int z44), (6, .ref a_lo), (5, .int z18), (4, .int (6 + z13)), (3, .int z13), (2, .ref a_p), (1, .int (-1)), (0, .ref a_k)]) hx hb dX5_meetGlass_201 hl (by decide +kernel) rfl ?_
                        clear hl
                        intro ls hl
                        refine lv_iload hx hb dX5_meetGlass_203 (lv_at hl 0 rfl) ?_
                        refine lv_aload_n hx hb dX5_meetGlass_205 rfl (lv_at hl 7 rfl) ?_
                        refine va_get (D := G.1) (ci := 5) (v := .int e_ho) (C := RX5) (T := TX5) (N := 13) hx hb hts inG_X5 hown hK hP 4 rfl rfl 11 (by decide +kernel) (hts _ fl_X5_33) (fun _ h9 => h9) rfl dX5_meetGlass_206 ?_
                        refine W.eq (g2 := F0 m 209 ls [.int e_ho, .int z44]) rfl ?_
                        refine lv_icmp_le (tgt := 213) hx hb dX5_meetGlass_209 (by decide +kernel) (fun c_47 => ?_) (fun c_47 => ?_)
                        ·
                          have i_47 : z44.toInt ≤ e_ho.toInt := g5_le (a := z44.toInt) (b := e_ho.toInt) rfl rfl c_47
                          refine lv_aload_n hx hb dX5_meetGlass_213 rfl (lv_at hl 7 rfl) ?_
                          refine va_get (D := G.1) (ci := 5) (v := .ref a_j) (C := RX5) (T := TX5) (N := 13) hx hb hts inG_X5 hown hK hP 4 rfl rfl 1 (by decide +kernel) (hts _ fl_X5_12) (fun _ h9 => h9) rfl dX5_meetGlass_214 ?_
                          refine lv_aload hx hb dX5_meetGlass_217 (lv_at hl 1 rfl) ?_
                          refine lv_iconst (v := 1) hx hb dX5_meetGlass_219 (by decide +kernel) ?_
                          refine W.eq (g2 := F0 m 220 ls [.int 1, .ref a_lo, .ref a_j]) rfl ?_
                          obtain ⟨hPc, hDc, hFc⟩ := g5_sub3 (wc := [(a_j, (oc2 a_as a_sk)), (a_as, (arI G 8 z22)), (a_sk, (arJ G 50 z37)), (a_lo, (oc3 e_cl a_hd a_sr a_cd)), (a_sr, (arI G n_sr f_sr)), (a_cd, (arI G n_cd f_cd)), (a_hd, (arI G n_hd f_hd))]) hP hD hS hA [12, 7, 13, 8, 9, 10, 11] (by decide +kernel) rfl
                          refine va_calli (va_runV (As := [.ref a_lo, .int 1]) (rest := []) ⟨hx, hb, hml, hown, hts⟩ (j_isHeldX l G a_j a_as a_sk a_lo a_sr a_cd a_hd H.size 1 e_cl z22 z37 f_sr f_cd f_hd (askQ (6 + z13) e_ce e_ho e_wy (-1) e_ln e_br) g_L n_sr n_cd n_hd h_e_cl (e_hn) (e_hs) (e_hk) (e_c) (i_21) (e_lw) (e_lv)) (cwV 2 hts gV_X5_124 rfl rfl rfl hv_X2_isHeld ⟨Nat.le_of_ble_eq_true rfl, Nat.le_of_ble_eq_true rfl⟩) (g5_preV hPc hK hDc hN hT hS hFc (ci := 2) (q0 := 0) rfl rfl) rfl rfl hl.1 rfl (lv_room (Nat.le_of_ble_eq_true rfl)) dX5_meetGlass_220 ⟨Nat.le_of_ble_eq_true rfl, Nat.le_of_ble_eq_true rfl⟩) hS (fun q _ h => hFc q h) hFc (fun r u t H locs ht hvm hw hB hz1 hk1 hS => ?_)
                          obtain ⟨hP1, hD1⟩ := hB
                          have hP1 := g5_ht ht hP1
                          rcases hw with ⟨z49, (i_48 : ∃ v : Int64, toldX g_L (1 : Int32).toInt (askQ (6 + z13) e_ce e_ho e_wy (-1) e_ln e_br) = some v ∧ ((1 : Int32).toInt < 2 → z49 0 = v)), rfl, rfl⟩ | ⟨z51, (i_50 : toldX g_L (1 : Int32).toInt (askQ (6 + z13) e_ce e_ho e_wy (-1) e_ln e_br) = none), rfl, rfl⟩
                          ·
                            have hJ9 := va_join (wr := [(a_g, (oc6 6 5 a_gn e_g)), (a_gn, (arI G 30 f_g)), (a_h, (oc1 e_wa e_le e_st e_fo e_lc a_l a_g a_b a_s a_p a_w e_gb a_bb)), (a_l, (arW G 6 f_l)), (a_k, (oc5 a_h a_j a_pt e_ln e_se e_lh e_br e_we (e_me ||| (1 <<< ((6 + z13) &&& 31))) e_ce e_wy e_ho 1)), (a_p, (oc6 8 5 a_pn e_p)), (a_pn, (arI G 40 f_p))]) hP hD [12, 7, 13, 8, 9, 10, 11] [0, 1, 2, 3, 4, 5, 6] rfl rfl (by decide +kernel) (by decide +kernel) hk1 hFc hP1 hD1
                            clear hP hD hPc hDc hFc ht hvm hz1 hk1 hP1 hD1
                            obtain ⟨hP, hD⟩ := hJ9
                            refine g5_rs [(a_g, (oc6 6 5 a_gn e_g)), (a_gn, (arI G 30 f_g)), (a_h, (oc1 e_wa e_le e_st e_fo e_lc a_l a_g a_b a_s a_p a_w e_gb a_bb)), (a_l, (arW G 6 f_l)), (a_k, (oc5 a_h a_j a_pt e_ln e_se e_lh e_br e_we (e_me ||| (1 <<< ((6 + z13) &&& 31))) e_ce e_wy e_ho 1)), (a_p, (oc6 8 5 a_pn e_p)), (a_pn, (arI G 40 f_p)), (a_j, (oc2 a_as a_sk)), (a_as, (arI G 8 z22)), (a_sk, (arJ G 50 z49)), (a_lo, (oc3 e_cl a_hd a_sr a_cd)), (a_sr, (arI G n_sr f_sr)), (a_cd, (arI G n_cd f_cd)), (a_hd, (arI G n_hd f_hd))] hP hD ?_
                            clear hP hD
                            intro hP hD
                            obtain ⟨v1_52, ht_52, hv_52⟩ := i_48
                            have hw_52 := hv_52 (by decide +kernel)
                            refine lv_if_eq (tgt := 238) hx hb dX5_meetGlass_223 (by decide +kernel) (fun c_53 => ?_) (fun c_53 => ?_)
                            ·
                              exact absurd c_53 (by decide +kernel)
                            ·
                              refine lv_aload_n hx hb dX5_meetGlass_226 rfl (lv_at hl 7 rfl) ?_
                              refine va_get (D := G.1) (ci := 5) (v := .ref a_j) (C := RX5) (T := TX5) (N := 13) hx hb hts inG_X5 hown hK hP 4 rfl rfl 1 (by decide +kernel) (hts _ fl_X5_12) (fun _ h9 => h9) rfl dX5_meetGlass_227 ?_
                              refine lv_bipush (v := 10) hx hb dX5_meetGlass_230 (by decide +kernel) ?_
                              obtain ⟨hPc, hDc, hFc⟩ := g5_sub3 (wc := [(a_j, (oc2 a_as a_sk)), (a_sk, (arJ G 50 z49))]) hP hD hS hA [7, 9] (by decide +kernel) rfl
                              refine va_calli (va_runV (As := [.int 10]) (rest := []) ⟨hx, hb, hml, hown, hts⟩ (j_toldX l G a_j a_sk a_as H.size 10 z49 ⟨by decide, by decide⟩) (cwV 1 hts gV_X5_134 rfl rfl rfl hv_X2_toldUpTo ⟨Nat.le_of_ble_eq_true rfl, Nat.le_of_ble_eq_true rfl⟩) (g5_preV hPc hK hDc hN hT hS hFc (ci := 2) (q0 := 0) rfl rfl) rfl rfl hl.1 rfl (lv_room (Nat.le_of_ble_eq_true rfl)) dX5_meetGlass_232 ⟨Nat.le_of_ble_eq_true rfl, Nat.le_of_ble_eq_true rfl⟩) hS (fun q _ h => hFc q h) hFc (fun r u t H locs ht hvm hw hB hz1 hk1 hS => ?_)
                              obtain ⟨hP1, hD1⟩ := hB
                              have hP1 := g5_ht ht hP1
                              obtain ⟨z56, (i_54 : 0 ≤ z56.toInt ∧ z56.toInt ≤ (10 : Int32).toInt), (i_55 : z56 = clampQ (z49 0) (10 : Int32)), y57, rfl⟩ := hw
                              have hJ9 := va_join (wr := [(a_g, (oc6 6 5 a_gn e_g)), (a_gn, (arI G 30 f_g)), (a_h, (oc1 e_wa e_le e_st e_fo e_lc a_l a_g a_b a_s a_p a_w e_gb a_bb)), (a_l, (arW G 6 f_l)), (a_k, (oc5 a_h a_j a_pt e_ln e_se e_lh e_br e_we (e_me ||| (1 <<< ((6 + z13) &&& 31))) e_ce e_wy e_ho 1)), (a_p, (oc6 8 5 a_pn e_p)), (a_pn, (arI G 40 f_p)), (a_as, (arI G 8 z22)), (a_lo, (oc3 e_cl a_hd a_sr a_cd)), (a_sr, (arI G n_sr f_sr)), (a_cd, (arI G n_cd f_cd)), (a_hd, (arI G n_hd f_hd))]) hP hD [7, 9] [0, 1, 2, 3, 4, 5, 6, 8, 10, 11, 12, 13] rfl rfl (by decide +kernel) (by decide +kernel) hk1 hFc hP1 hD1
                              clear hP hD hPc hDc hFc ht hvm hz1 hk1 hP1 hD1
                              obtain ⟨hP, hD⟩ := hJ9
                              refine g5_rs [(a_g, (oc6 6 5 a_gn e_g)), (a_gn, (arI G 30 f_g)), (a_h, (oc1 e_wa e_le e_st e_fo e_lc a_l a_g a_b a_s a_p a_w e_gb a_bb)), (a_l, (arW G 6 f_l)), (a_k, (oc5 a_h a_j a_pt e_ln e_se e_lh e_br e_we (e_me ||| (1 <<< ((6 + z13) &&& 31))) e_ce e_wy e_ho 1)), (a_p, (oc6 8 5 a_pn e_p)), (a_pn, (arI G 40 f_p)), (a_as, (arI G 8 z22)), (a_lo, (oc3 e_cl a_hd a_sr a_cd)), (a_sr, (arI G n_sr f_sr)), (a_cd, (arI G n_cd f_cd)), (a_hd, (arI G n_hd f_hd)), (a_j, (oc2 a_as a_sk)), (a_sk, (arJ G 50 z49))] hP hD ?_
                              clear hP hD
                              intro hP hD
                              refine g5_ti (v := z56) y57 ?_
                              refine W.eq (g2 := F0 m 235 ls [.int z56]) rfl ?_
                              refine lv_goto (tgt := 244) hx hb dX5_meetGlass_235 (by decide +kernel) ?_
                              have hV_58 : z56 = tellQ (toldW g_w 1 (askQ (6 + z13) e_ce e_ho e_wy (-1) e_ln e_br)) (0) 10 := tell_s (tW_of e_w (by decide +kernel) ht_52) (by rw [i_55, hw_52])
                              have hr_58 : 0 ≤ z56.toInt ∧ z56.toInt ≤ 10 := ⟨by omega, by have zk : (10 : Int32).toInt = 10 := (by decide +kernel); omega⟩
                              refine lv_istore (lv' := [(8, .int z56), (7, .int z44), (6, .ref a_lo), (5, .int z18), (4, .int (6 + z13)), (3, .int z13), (2, .ref a_p), (1, .int (-1)), (0, .ref a_k)]) hx hb dX5_meetGlass_244 hl (by decide +kernel) rfl ?_
                              clear hl
                              intro ls hl
                              refine lv_aload_n hx hb dX5_meetGlass_246 rfl (lv_at hl 8 rfl) ?_
                              refine lv_aload_n hx hb dX5_meetGlass_247 rfl (lv_at hl 8 rfl) ?_
                              refine va_get (D := G.1) (ci := 5) (v := .int e_br) (C := RX5) (T := TX5) (N := 13) hx hb hts inG_X5 hown hK hP 4 rfl rfl 6 (by decide +kernel) (hts _ fl_X5_46) (fun _ h9 => h9) rfl dX5_meetGlass_248 ?_
                              refine W.eq (g2 := F0 m 251 ls [.int e_br, .ref a_k]) rfl ?_
                              refine lv_bipush (v := 10) hx hb dX5_meetGlass_251 (by decide +kernel) ?_
                              refine lv_iload hx hb dX5_meetGlass_253 (lv_at hl 0 rfl) ?_
                              refine lv_isub hx hb dX5_meetGlass_255 ?_
                              have t_59 : (10 - z56).toInt = 10 - z56.toInt := g5_isub (a := 10) (b := z56.toInt) (by decide +kernel) (by rfl) (by omega) (by omega)
                              refine lv_imul hx hb dX5_meetGlass_256 ?_
                              refine lv_bipush (v := 10) hx hb dX5_meetGlass_257 (by decide +kernel) ?_
                              refine W.eq (g2 := F0 m 259 ls [.int 10, .int (e_br * (10 - z56)), .ref a_k]) rfl ?_
                              refine lv_idiv hx hb dX5_meetGlass_259 (by decide +kernel) ?_
                              have hb_60 : 0 ≤ ((e_br * (10 - z56)) / 10).toInt ∧ ((e_br * (10 - z56)) / 10).toInt ≤ 1000000 := g_dust (by omega) (by omega)
                              refine va_put (D := G.1) (ci := 5) (v := .int ((e_br * (10 - z56)) / 10)) (ty := .int) (C := RX5) (T := TX5) (N := 13) hx hb hts inG_X5 tyX5 tyX5_ok nmX5 hown hK hP hD hS 4 rfl rfl 6 (by decide +kernel) (hts _ fl_X5_46) (fun _ h9 => h9) rfl (by decide +kernel) rfl rfl (Nat.le_of_ble_eq_true rfl) dX5_meetGlass_260 ?_
                              clear hP hD hS
                              intro H locs hP hD hS
                              refine g5_rs [(a_g, (oc6 6 5 a_gn e_g)), (a_gn, (arI G 30 f_g)), (a_h, (oc1 e_wa e_le e_st e_fo e_lc a_l a_g a_b a_s a_p a_w e_gb a_bb)), (a_l, (arW G 6 f_l)), (a_k, (oc5 a_h a_j a_pt e_ln e_se e_lh ((e_br * (10 - z56)) / 10) e_we (e_me ||| (1 <<< ((6 + z13) &&& 31))) e_ce e_wy e_ho 1)), (a_p, (oc6 8 5 a_pn e_p)), (a_pn, (arI G 40 f_p)), (a_as, (arI G 8 z22)), (a_lo, (oc3 e_cl a_hd a_sr a_cd)), (a_sr, (arI G n_sr f_sr)), (a_cd, (arI G n_cd f_cd)), (a_hd, (arI G n_hd f_hd)), (a_j, (oc2 a_as a_sk)), (a_sk, (arJ G 50 z49))] hP hD ?_
                              clear hP hD
                              intro hP hD
                              refine lv_aload_n hx hb dX5_meetGlass_263 rfl (lv_at hl 8 rfl) ?_
                              refine va_get (D := G.1) (ci := 5) (v := .int ((e_br * (10 - z56)) / 10)) (C := RX5) (T := TX5) (N := 13) hx hb hts inG_X5 hown hK hP 4 rfl rfl 6 (by decide +kernel) (hts _ fl_X5_46) (fun _ h9 => h9) rfl dX5_meetGlass_264 ?_
                              refine lv_aload_n hx hb dX5_meetGlass_267 rfl (lv_at hl 8 rfl) ?_
                              refine W.eq (g2 := F0 m 268 ls [.ref a_k, .int ((e_br * (10 - z56)) / 10)]) rfl ?_
                              refine va_get (D := G.1) (ci := 5) (v := .ref a_h) (C := RX5) (T := TX5) (N := 13) hx hb hts inG_X5 hown hK hP 4 rfl rfl 0 (by decide +kernel) (hts _ fl_X5_22) (fun _ h9 => h9) rfl dX5_meetGlass_268 ?_
                              refine va_get (D := G.1) (ci := 1) (v := .int e_le) (C := RX1) (T := TX1) (N := 13) hx hb hts inG_X1 hown hK hP 2 rfl rfl 1 (by decide +kernel) (hts _ fl_X5_138) (fun _ h9 => h9) rfl dX5_meetGlass_271 ?_
                              refine lv_icmp_ge (tgt := 278) hx hb dX5_meetGlass_274 (by decide +kernel) (fun c_61 => ?_) (fun c_61 => ?_)
                              ·
                                have i_61 : ((e_br * (10 - z56)) / 10).toInt ≥ e_le.toInt := g5_ge (a := ((e_br * (10 - z56)) / 10).toInt) (b := e_le.toInt) rfl rfl c_61
                                refine lv_aload_n hx hb dX5_meetGlass_278 rfl (lv_at hl 8 rfl) ?_
                                refine lv_dup hx hb dX5_meetGlass_279 rfl ?_
                                refine va_get (D := G.1) (ci := 5) (v := .int e_ho) (C := RX5) (T := TX5) (N := 13) hx hb hts inG_X5 hown hK hP 4 rfl rfl 11 (by decide +kernel) (hts _ fl_X5_33) (fun _ h9 => h9) rfl dX5_meetGlass_280 ?_
                                refine lv_iload hx hb dX5_meetGlass_283 (lv_at hl 1 rfl) ?_
                                refine W.eq (g2 := F0 m 285 ls [.int z44, .int e_ho, .ref a_k]) rfl ?_
                                refine lv_isub hx hb dX5_meetGlass_285 ?_
                                have t_62 : (e_ho - z44).toInt = e_ho.toInt - z44.toInt := g5_isub (a := e_ho.toInt) (b := z44.toInt) (by rfl) (by rfl) (by omega) (by omega)
                                refine va_put (D := G.1) (ci := 5) (v := .int (e_ho - z44)) (ty := .int) (C := RX5) (T := TX5) (N := 13) hx hb hts inG_X5 tyX5 tyX5_ok nmX5 hown hK hP hD hS 4 rfl rfl 11 (by decide +kernel) (hts _ fl_X5_33) (fun _ h9 => h9) rfl (by decide +kernel) rfl rfl (Nat.le_of_ble_eq_true rfl) dX5_meetGlass_286 ?_
                                clear hP hD hS
                                intro H locs hP hD hS
                                refine g5_rs [(a_g, (oc6 6 5 a_gn e_g)), (a_gn, (arI G 30 f_g)), (a_h, (oc1 e_wa e_le e_st e_fo e_lc a_l a_g a_b a_s a_p a_w e_gb a_bb)), (a_l, (arW G 6 f_l)), (a_k, (oc5 a_h a_j a_pt e_ln e_se e_lh ((e_br * (10 - z56)) / 10) e_we (e_me ||| (1 <<< ((6 + z13) &&& 31))) e_ce e_wy (e_ho - z44) 1)), (a_p, (oc6 8 5 a_pn e_p)), (a_pn, (arI G 40 f_p)), (a_as, (arI G 8 z22)), (a_lo, (oc3 e_cl a_hd a_sr a_cd)), (a_sr, (arI G n_sr f_sr)), (a_cd, (arI G n_cd f_cd)), (a_hd, (arI G n_hd f_hd)), (a_j, (oc2 a_as a_sk)), (a_sk, (arJ G 50 z49))] hP hD ?_
                                clear hP hD
                                intro hP hD
                                refine lv_aload_n hx hb dX5_meetGlass_289 rfl (lv_at hl 8 rfl) ?_
                                refine lv_iload hx hb dX5_meetGlass_290 (lv_at hl 3 rfl) ?_
                                refine lv_if_ne (tgt := 304) hx hb dX5_meetGlass_292 (by decide +kernel) (fun c_63 => ?_) (fun c_63 => ?_)
                                ·
                                  have n_63 : gNe (z18.toInt) (0) := g5_ne (a := z18.toInt) (b := 0) rfl (by decide +kernel) c_63
                                  have i_63 : z18.toInt ≥ 1 := by have z := g5_ne (a := z18.toInt) (b := 0) (by rfl) (by decide +kernel) c_63; omega
                                  refine lv_iload hx hb dX5_meetGlass_304 (lv_at hl 3 rfl) ?_
                                  refine lv_iconst (v := 1) hx hb dX5_meetGlass_306 (by decide +kernel) ?_
                                  refine lv_icmp_ne (tgt := 319) hx hb dX5_meetGlass_307 (by decide +kernel) (fun c_64 => ?_) (fun c_64 => ?_)
                                  ·
                                    have i_64 : z18.toInt ≠ 1 := g5_ne (a := z18.toInt) (b := 1) rfl (by decide +kernel) c_64
                                    omega
                                  ·
                                    have i_64 : z18.toInt = 1 := g5_neN (a := z18.toInt) (b := 1) rfl (by decide +kernel) c_64
                                    refine lv_iconst (v := 3) hx hb dX5_meetGlass_310 (by decide +kernel) ?_
                                    refine lv_aload_n hx hb dX5_meetGlass_311 rfl (lv_at hl 8 rfl) ?_
                                    refine va_get (D := G.1) (ci := 5) (v := .int e_wy) (C := RX5) (T := TX5) (N := 13) hx hb hts inG_X5 hown hK hP 4 rfl rfl 10 (by decide +kernel) (hts _ fl_X5_30) (fun _ h9 => h9) rfl dX5_meetGlass_312 ?_
                                    refine lv_isub hx hb dX5_meetGlass_315 ?_
                                    have t_65 : (3 - e_wy).toInt = 3 - e_wy.toInt := g5_isub (a := 3) (b := e_wy.toInt) (by decide +kernel) (by rfl) (by omega) (by omega)
                                    refine W.eq (g2 := F0 m 316 ls [.int (3 - e_wy), .ref a_k]) rfl ?_
                                    refine lv_goto (tgt := 325) hx hb dX5_meetGlass_316 (by decide +kernel) ?_
                                    refine va_put (D := G.1) (ci := 5) (v := .int (3 - e_wy)) (ty := .int) (C := RX5) (T := TX5) (N := 13) hx hb hts inG_X5 tyX5 tyX5_ok nmX5 hown hK hP hD hS 4 rfl rfl 10 (by decide +kernel) (hts _ fl_X5_30) (fun _ h9 => h9) rfl (by decide +kernel) rfl rfl (Nat.le_of_ble_eq_true rfl) dX5_meetGlass_325 ?_
                                    clear hP hD hS
                                    intro H locs hP hD hS
                                    refine g5_rs [(a_g, (oc6 6 5 a_gn e_g)), (a_gn, (arI G 30 f_g)), (a_h, (oc1 e_wa e_le e_st e_fo e_lc a_l a_g a_b a_s a_p a_w e_gb a_bb)), (a_l, (arW G 6 f_l)), (a_k, (oc5 a_h a_j a_pt e_ln e_se e_lh ((e_br * (10 - z56)) / 10) e_we (e_me ||| (1 <<< ((6 + z13) &&& 31))) e_ce (3 - e_wy) (e_ho - z44) 1)), (a_p, (oc6 8 5 a_pn e_p)), (a_pn, (arI G 40 f_p)), (a_as, (arI G 8 z22)), (a_lo, (oc3 e_cl a_hd a_sr a_cd)), (a_sr, (arI G n_sr f_sr)), (a_cd, (arI G n_cd f_cd)), (a_hd, (arI G n_hd f_hd)), (a_j, (oc2 a_as a_sk)), (a_sk, (arJ G 50 z49))] hP hD ?_
                                    clear hP hD
                                    intro hP hD
                                    refine lv_aload_n hx hb dX5_meetGlass_328 rfl (lv_at hl 8 rfl) ?_
                                    refine lv_dup hx hb dX5_meetGlass_329 rfl ?_
                                    refine va_get (D := G.1) (ci := 5) (v := .int e_we) (C := RX5) (T := TX5) (N := 13) hx hb hts inG_X5 hown hK hP 4 rfl rfl 7 (by decide +kernel) (hts _ fl_X5_49) (fun _ h9 => h9) rfl dX5_meetGlass_330 ?_
                                    refine W.eq (g2 := F0 m 333 ls [.int e_we, .ref a_k]) rfl ?_
                                    refine lv_iconst (v := 1) hx hb dX5_meetGlass_333 (by decide +kernel) ?_
                                    refine lv_iload hx hb dX5_meetGlass_334 (lv_at hl 4 rfl) ?_
                                    refine lv_ishl hx hb dX5_meetGlass_336 ?_
                                    refine lv_ior hx hb dX5_meetGlass_337 ?_
                                    refine va_put (D := G.1) (ci := 5) (v := .int (e_we ||| (1 <<< ((6 + z13) &&& 31)))) (ty := .int) (C := RX5) (T := TX5) (N := 13) hx hb hts inG_X5 tyX5 tyX5_ok nmX5 hown hK hP hD hS 4 rfl rfl 7 (by decide +kernel) (hts _ fl_X5_49) (fun _ h9 => h9) rfl (by decide +kernel) rfl rfl (Nat.le_of_ble_eq_true rfl) dX5_meetGlass_338 ?_
                                    clear hP hD hS
                                    intro H locs hP hD hS
                                    refine g5_rs [(a_g, (oc6 6 5 a_gn e_g)), (a_gn, (arI G 30 f_g)), (a_h, (oc1 e_wa e_le e_st e_fo e_lc a_l a_g a_b a_s a_p a_w e_gb a_bb)), (a_l, (arW G 6 f_l)), (a_k, (oc5 a_h a_j a_pt e_ln e_se e_lh ((e_br * (10 - z56)) / 10) (e_we ||| (1 <<< ((6 + z13) &&& 31))) (e_me ||| (1 <<< ((6 + z13) &&& 31))) e_ce (3 - e_wy) (e_ho - z44) 1)), (a_p, (oc6 8 5 a_pn e_p)), (a_pn, (arI G 40 f_p)), (a_as, (arI G 8 z22)), (a_lo, (oc3 e_cl a_hd a_sr a_cd)), (a_sr, (arI G n_sr f_sr)), (a_cd, (arI G n_cd f_cd)), (a_hd, (arI G n_hd f_hd)), (a_j, (oc2 a_as a_sk)), (a_sk, (arJ G 50 z49))] hP hD ?_
                                    clear hP hD
                                    intro hP hD
                                    refine W.eq (g2 := F0 m 341 ls []) rfl ?_
                                    refine lv_aload_n hx hb dX5_meetGlass_341 rfl (lv_at hl 8 rfl) ?_
                                    refine lv_iconst (v := 0) hx hb dX5_meetGlass_342 (by decide +kernel) ?_
                                    refine va_put (D := G.1) (ci := 5) (v := .int 0) (ty := .boolean) (C := RX5) (T := TX5) (N := 13) hx hb hts inG_X5 tyX5 tyX5_ok nmX5 hown hK hP hD hS 4 rfl rfl 12 (by decide +kernel) (hts _ fl_X5_56) (fun _ h9 => h9) rfl (by decide +kernel) rfl rfl (Nat.le_of_ble_eq_true rfl) dX5_meetGlass_343 ?_
                                    clear hP hD hS
                                    intro H locs hP hD hS
                                    refine g5_rs [(a_g, (oc6 6 5 a_gn e_g)), (a_gn, (arI G 30 f_g)), (a_h, (oc1 e_wa e_le e_st e_fo e_lc a_l a_g a_b a_s a_p a_w e_gb a_bb)), (a_l, (arW G 6 f_l)), (a_k, (oc5 a_h a_j a_pt e_ln e_se e_lh ((e_br * (10 - z56)) / 10) (e_we ||| (1 <<< ((6 + z13) &&& 31))) (e_me ||| (1 <<< ((6 + z13) &&& 31))) e_ce (3 - e_wy) (e_ho - z44) 0)), (a_p, (oc6 8 5 a_pn e_p)), (a_pn, (arI G 40 f_p)), (a_as, (arI G 8 z22)), (a_lo, (oc3 e_cl a_hd a_sr a_cd)), (a_sr, (arI G n_sr f_sr)), (a_cd, (arI G n_cd f_cd)), (a_hd, (arI G n_hd f_hd)), (a_j, (oc2 a_as a_sk)), (a_sk, (arJ G 50 z49))] hP hD ?_
                                    clear hP hD
                                    intro hP hD
                                    exact W.vret hx hb hr (fun t ht hW => ⟨⟨[(a_k, (oc5 a_h a_j a_pt e_ln e_se e_lh ((e_br * (10 - z56)) / 10) (e_we ||| (1 <<< ((6 + z13) &&& 31))) (e_me ||| (1 <<< ((6 + z13) &&& 31))) e_ce (3 - e_wy) (e_ho - z44) 0)), (a_h, (oc1 e_wa e_le e_st e_fo e_lc a_l a_g a_b a_s a_p a_w e_gb a_bb)), (a_g, (oc6 6 5 a_gn e_g)), (a_gn, (arI G 30 f_g)), (a_p, (oc6 8 5 a_pn e_p)), (a_pn, (arI G 40 f_p)), (a_j, (oc2 a_as a_sk)), (a_as, (arI G 8 z22)), (a_sk, (arJ G 50 z49)), (a_l, (arW G 6 f_l)), (a_lo, (oc3 e_cl a_hd a_sr a_cd)), (a_sr, (arI G n_sr f_sr)), (a_cd, (arI G n_cd f_cd)), (a_hd, (arI G n_hd f_hd))], rfl, Or.inr (⟨((e_br * (10 - z56)) / 10), (e_we ||| (1 <<< ((6 + z13) &&& 31))), (e_me ||| (1 <<< ((6 + z13) &&& 31))), (3 - e_wy), (e_ho - z44), z22, z49, ⟨by omega, by omega⟩, ⟨by omega, by omega⟩, ⟨by omega, by omega⟩, by rw [met_sc (du := 0) hGF hSF (by omega) hc1_20 rfl (by decide +kernel) e_f4, tn_3 hNS hV_46 (by omega) hV_58 rfl (by omega), nw_1 (so := z18) (by omega)], rfl⟩), by rw [ht]; exact hP.sub [4, 2, 0, 1, 5, 6, 12, 7, 13, 3, 8, 9, 10, 11] rfl, hD.sub [4, 2, 0, 1, 5, 6, 12, 7, 13, 3, 8, 9, 10, 11] (by decide +kernel) rfl⟩, hS.F ht⟩) hS.2.2 dX5_meetGlass_346
                                ·
                                  have i_63 : z18.toInt = 0 := g5_neN (a := z18.toInt) (b := 0) rfl (by decide +kernel) c_63
                                  refine lv_aload_n hx hb dX5_meetGlass_295 rfl (lv_at hl 8 rfl) ?_
                                  refine va_get (D := G.1) (ci := 5) (v := .int e_wy) (C := RX5) (T := TX5) (N := 13) hx hb hts inG_X5 hown hK hP 4 rfl rfl 10 (by decide +kernel) (hts _ fl_X5_30) (fun _ h9 => h9) rfl dX5_meetGlass_296 ?_
                                  refine lv_iconst (v := 1) hx hb dX5_meetGlass_299 (by decide +kernel) ?_
                                  refine lv_ixor hx hb dX5_meetGlass_300 ?_
                                  have hx_66 := (g_xor (w := e_wy) (by omega) (by omega)).1
                                  refine W.eq (g2 := F0 m 301 ls [.int (e_wy ^^^ 1), .ref a_k]) rfl ?_
                                  refine lv_goto (tgt := 325) hx hb dX5_meetGlass_301 (by decide +kernel) ?_
                                  refine va_put (D := G.1) (ci := 5) (v := .int (e_wy ^^^ 1)) (ty := .int) (C := RX5) (T := TX5) (N := 13) hx hb hts inG_X5 tyX5 tyX5_ok nmX5 hown hK hP hD hS 4 rfl rfl 10 (by decide +kernel) (hts _ fl_X5_30) (fun _ h9 => h9) rfl (by decide +kernel) rfl rfl (Nat.le_of_ble_eq_true rfl) dX5_meetGlass_325 ?_
                                  clear hP hD hS
                                  intro H locs hP hD hS
                                  refine g5_rs [(a_g, (oc6 6 5 a_gn e_g)), (a_gn, (arI G 30 f_g)), (a_h, (oc1 e_wa e_le e_st e_fo e_lc a_l a_g a_b a_s a_p a_w e_gb a_bb)), (a_l, (arW G 6 f_l)), (a_k, (oc5 a_h a_j a_pt e_ln e_se e_lh ((e_br * (10 - z56)) / 10) e_we (e_me ||| (1 <<< ((6 + z13) &&& 31))) e_ce (e_wy ^^^ 1) (e_ho - z44) 1)), (a_p, (oc6 8 5 a_pn e_p)), (a_pn, (arI G 40 f_p)), (a_as, (arI G 8 z22)), (a_lo, (oc3 e_cl a_hd a_sr a_cd)), (a_sr, (arI G n_sr f_sr)), (a_cd, (arI G n_cd f_cd)), (a_hd, (arI G n_hd f_hd)), (a_j, (oc2 a_as a_sk)), (a_sk, (arJ G 50 z49))] hP hD ?_
                                  clear hP hD
                                  intro hP hD
                                  refine lv_aload_n hx hb dX5_meetGlass_328 rfl (lv_at hl 8 rfl) ?_
                                  refine lv_dup hx hb dX5_meetGlass_329 rfl ?_
                                  refine va_get (D := G.1) (ci := 5) (v := .int e_we) (C := RX5) (T := TX5) (N := 13) hx hb hts inG_X5 hown hK hP 4 rfl rfl 7 (by decide +kernel) (hts _ fl_X5_49) (fun _ h9 => h9) rfl dX5_meetGlass_330 ?_
                                  refine W.eq (g2 := F0 m 333 ls [.int e_we, .ref a_k]) rfl ?_
                                  refine lv_iconst (v := 1) hx hb dX5_meetGlass_333 (by decide +kernel) ?_
                                  refine lv_iload hx hb dX5_meetGlass_334 (lv_at hl 4 rfl) ?_
                                  refine lv_ishl hx hb dX5_meetGlass_336 ?_
                                  refine lv_ior hx hb dX5_meetGlass_337 ?_
                                  refine va_put (D := G.1) (ci := 5) (v := .int (e_we ||| (1 <<< ((6 + z13) &&& 31)))) (ty := .int) (C := RX5) (T := TX5) (N := 13) hx hb hts inG_X5 tyX5 tyX5_ok nmX5 hown hK hP hD hS 4 rfl rfl 7 (by decide +kernel) (hts _ fl_X5_49) (fun _ h9 => h9) rfl (by decide +kernel) rfl rfl (Nat.le_of_ble_eq_true rfl) dX5_meetGlass_338 ?_
                                  clear hP hD hS
                                  intro H locs hP hD hS
                                  refine g5_rs [(a_g, (oc6 6 5 a_gn e_g)), (a_gn, (arI G 30 f_g)), (a_h, (oc1 e_wa e_le e_st e_fo e_lc a_l a_g a_b a_s a_p a_w e_gb a_bb)), (a_l, (arW G 6 f_l)), (a_k, (oc5 a_h a_j a_pt e_ln e_se e_lh ((e_br * (10 - z56)) / 10) (e_we ||| (1 <<< ((6 + z13) &&& 31))) (e_me ||| (1 <<< ((6 + z13) &&& 31))) e_ce (e_wy ^^^ 1) (e_ho - z44) 1)), (a_p, (oc6 8 5 a_pn e_p)), (a_pn, (arI G 40 f_p)), (a_as, (arI G 8 z22)), (a_lo, (oc3 e_cl a_hd a_sr a_cd)), (a_sr, (arI G n_sr f_sr)), (a_cd, (arI G n_cd f_cd)), (a_hd, (arI G n_hd f_hd)), (a_j, (oc2 a_as a_sk)), (a_sk, (arJ G 50 z49))] hP hD ?_
                                  clear hP hD
                                  intro hP hD
                                  refine W.eq (g2 := F0 m 341 ls []) rfl ?_
                                  refine lv_aload_n hx hb dX5_meetGlass_341 rfl (lv_at hl 8 rfl) ?_
                                  refine lv_iconst (v := 0) hx hb dX5_meetGlass_342 (by decide +kernel) ?_
                                  refine va_put (D := G.1) (ci := 5) (v := .int 0) (ty := .boolean) (C := RX5) (T := TX5) (N := 13) hx hb hts inG_X5 tyX5 tyX5_ok nmX5 hown hK hP hD hS 4 rfl rfl 12 (by decide +kernel) (hts _ fl_X5_56) (fun _ h9 => h9) rfl (by decide +kernel) rfl rfl (Nat.le_of_ble_eq_true rfl) dX5_meetGlass_343 ?_
                                  clear hP hD hS
                                  intro H locs hP hD hS
                                  refine g5_rs [(a_g, (oc6 6 5 a_gn e_g)), (a_gn, (arI G 30 f_g)), (a_h, (oc1 e_wa e_le e_st e_fo e_lc a_l a_g a_b a_s a_p a_w e_gb a_bb)), (a_l, (arW G 6 f_l)), (a_k, (oc5 a_h a_j a_pt e_ln e_se e_lh ((e_br * (10 - z56)) / 10) (e_we ||| (1 <<< ((6 + z13) &&& 31))) (e_me ||| (1 <<< ((6 + z13) &&& 31))) e_ce (e_wy ^^^ 1) (e_ho - z44) 0)), (a_p, (oc6 8 5 a_pn e_p)), (a_pn, (arI G 40 f_p)), (a_as, (arI G 8 z22)), (a_lo, (oc3 e_cl a_hd a_sr a_cd)), (a_sr, (arI G n_sr f_sr)), (a_cd, (arI G n_cd f_cd)), (a_hd, (arI G n_hd f_hd)), (a_j, (oc2 a_as a_sk)), (a_sk, (arJ G 50 z49))] hP hD ?_
                                  clear hP hD
                                  intro hP hD
                                  exact W.vret hx hb hr (fun t ht hW => ⟨⟨[(a_k, (oc5 a_h a_j a_pt e_ln e_se e_lh ((e_br * (10 - z56)) / 10) (e_we ||| (1 <<< ((6 + z13) &&& 31))) (e_me ||| (1 <<< ((6 + z13) &&& 31))) e_ce (e_wy ^^^ 1) (e_ho - z44) 0)), (a_h, (oc1 e_wa e_le e_st e_fo e_lc a_l a_g a_b a_s a_p a_w e_gb a_bb)), (a_g, (oc6 6 5 a_gn e_g)), (a_gn, (arI G 30 f_g)), (a_p, (oc6 8 5 a_pn e_p)), (a_pn, (arI G 40 f_p)), (a_j, (oc2 a_as a_sk)), (a_as, (arI G 8 z22)), (a_sk, (arJ G 50 z49)), (a_l, (arW G 6 f_l)), (a_lo, (oc3 e_cl a_hd a_sr a_cd)), (a_sr, (arI G n_sr f_sr)), (a_cd, (arI G n_cd f_cd)), (a_hd, (arI G n_hd f_hd))], rfl, Or.inr (⟨((e_br * (10 - z56)) / 10), (e_we ||| (1 <<< ((6 + z13) &&& 31))), (e_me ||| (1 <<< ((6 + z13) &&& 31))), (e_wy ^^^ 1), (e_ho - z44), z22, z49, ⟨by omega, by omega⟩, ⟨by omega, by omega⟩, ⟨by omega, by omega⟩, by rw [met_sc (du := 0) hGF hSF (by omega) hc1_20 rfl (by decide +kernel) e_f4, tn_3 hNS hV_46 (by omega) hV_58 rfl (by omega), nw_0 (so := z18) (by omega)], rfl⟩), by rw [ht]; exact hP.sub [4, 2, 0, 1, 5, 6, 12, 7, 13, 3, 8, 9, 10, 11] rfl, hD.sub [4, 2, 0, 1, 5, 6, 12, 7, 13, 3, 8, 9, 10, 11] (by decide +kernel) rfl⟩, hS.F ht⟩) hS.2.2 dX5_meetGlass_346
                              ·
                                have i_61 : ((e_br * (10 - z56)) / 10).toInt < e_le.toInt := g5_geN (a := ((e_br * (10 - z56)) / 10).toInt) (b := e_le.toInt) rfl rfl c_61
                                exact W.vret hx hb hr (fun t ht hW => ⟨⟨[(a_k, (oc5 a_h a_j a_pt e_ln e_se e_lh ((e_br * (10 - z56)) / 10) e_we (e_me ||| (1 <<< ((6 + z13) &&& 31))) e_ce e_wy e_ho 1)), (a_h, (oc1 e_wa e_le e_st e_fo e_lc a_l a_g a_b a_s a_p a_w e_gb a_bb)), (a_g, (oc6 6 5 a_gn e_g)), (a_gn, (arI G 30 f_g)), (a_p, (oc6 8 5 a_pn e_p)), (a_pn, (arI G 40 f_p)), (a_j, (oc2 a_as a_sk)), (a_as, (arI G 8 z22)), (a_sk, (arJ G 50 z49)), (a_l, (arW G 6 f_l)), (a_lo, (oc3 e_cl a_hd a_sr a_cd)), (a_sr, (arI G n_sr f_sr)), (a_cd, (arI G n_cd f_cd)), (a_hd, (arI G n_hd f_hd))], rfl, Or.inl (⟨((e_br * (10 - z56)) / 10), (e_me ||| (1 <<< ((6 + z13) &&& 31))), z22, z49, ⟨by omega, by omega⟩, by rw [met_sc (du := 0) hGF hSF (by omega) hc1_20 rfl (by decide +kernel) e_f4, tn_2 hNS hV_46 (by omega) hV_58 rfl (by omega)]; exact ⟨rfl, rfl, rfl⟩, rfl⟩), by rw [ht]; exact hP.sub [4, 2, 0, 1, 5, 6, 12, 7, 13, 3, 8, 9, 10, 11] rfl, hD.sub [4, 2, 0, 1, 5, 6, 12, 7, 13, 3, 8, 9, 10, 11] (by decide +kernel) rfl⟩, hS.F ht⟩) hS.2.2 dX5_meetGlass_277
                          ·
                            have hJ9 := va_join (wr := [(a_g, (oc6 6 5 a_gn e_g)), (a_gn, (arI G 30 f_g)), (a_h, (oc1 e_wa e_le e_st e_fo e_lc a_l a_g a_b a_s a_p a_w e_gb a_bb)), (a_l, (arW G 6 f_l)), (a_k, (oc5 a_h a_j a_pt e_ln e_se e_lh e_br e_we (e_me ||| (1 <<< ((6 + z13) &&& 31))) e_ce e_wy e_ho 1)), (a_p, (oc6 8 5 a_pn e_p)), (a_pn, (arI G 40 f_p))]) hP hD [12, 7, 13, 8, 9, 10, 11] [0, 1, 2, 3, 4, 5, 6] rfl rfl (by decide +kernel) (by decide +kernel) hk1 hFc hP1 hD1
                            clear hP hD hPc hDc hFc ht hvm hz1 hk1 hP1 hD1
                            obtain ⟨hP, hD⟩ := hJ9
                            refine g5_rs [(a_g, (oc6 6 5 a_gn e_g)), (a_gn, (arI G 30 f_g)), (a_h, (oc1 e_wa e_le e_st e_fo e_lc a_l a_g a_b a_s a_p a_w e_gb a_bb)), (a_l, (arW G 6 f_l)), (a_k, (oc5 a_h a_j a_pt e_ln e_se e_lh e_br e_we (e_me ||| (1 <<< ((6 + z13) &&& 31))) e_ce e_wy e_ho 1)), (a_p, (oc6 8 5 a_pn e_p)), (a_pn, (arI G 40 f_p)), (a_j, (oc2 a_as a_sk)), (a_as, (arI G 8 z22)), (a_sk, (arJ G 50 z51)), (a_lo, (oc3 e_cl a_hd a_sr a_cd)), (a_sr, (arI G n_sr f_sr)), (a_cd, (arI G n_cd f_cd)), (a_hd, (arI G n_hd f_hd))] hP hD ?_
                            clear hP hD
                            intro hP hD
                            refine lv_if_eq (tgt := 238) hx hb dX5_meetGlass_223 (by decide +kernel) (fun c_67 => ?_) (fun c_67 => ?_)
                            ·
                              refine lv_aload_n hx hb dX5_meetGlass_238 rfl (lv_at hl 5 rfl) ?_
                              refine lv_iload_n hx hb dX5_meetGlass_239 rfl (lv_at hl 4 rfl) ?_
                              refine lv_iconst (v := 3) hx hb dX5_meetGlass_240 (by decide +kernel) ?_
                              obtain ⟨hPc, hDc, hFc⟩ := g5_sub3 (wc := [(a_p, (oc6 8 5 a_pn e_p)), (a_pn, (arI G 40 f_p))]) hP hD hS hA [5, 6] (by decide +kernel) rfl
                              refine va_calli (va_runV (As := [.int z13, .int 3]) (rest := []) ⟨hx, hb, hml, hown, hts⟩ (t_get_P l G a_p a_pn H.size e_p z13 3 f_p h_e_p) (cwV 2 hts gV_X5_107 rfl rfl rfl hv_X6_get ⟨Nat.le_of_ble_eq_true rfl, Nat.le_of_ble_eq_true rfl⟩) (g5_preV hPc hK hDc hN hT hS hFc (ci := 6) (q0 := 0) rfl rfl) rfl rfl hl.1 rfl (lv_room (Nat.le_of_ble_eq_true rfl)) dX5_meetGlass_241 ⟨Nat.le_of_ble_eq_true rfl, Nat.le_of_ble_eq_true rfl⟩) hS (fun q _ h => hFc q h) hFc (fun r u t H locs ht hvm hw hB hz1 hk1 hS => ?_)
                              obtain ⟨hP1, hD1⟩ := hB
                              have hP1 := g5_ht ht hP1
                              obtain ⟨z69, (i_68 : z69 = tget f_p e_p.toInt 5 z13.toInt (3 : Int32).toInt), y70, rfl⟩ := hw
                              have hJ9 := va_join (wr := [(a_g, (oc6 6 5 a_gn e_g)), (a_gn, (arI G 30 f_g)), (a_h, (oc1 e_wa e_le e_st e_fo e_lc a_l a_g a_b a_s a_p a_w e_gb a_bb)), (a_l, (arW G 6 f_l)), (a_k, (oc5 a_h a_j a_pt e_ln e_se e_lh e_br e_we (e_me ||| (1 <<< ((6 + z13) &&& 31))) e_ce e_wy e_ho 1)), (a_j, (oc2 a_as a_sk)), (a_as, (arI G 8 z22)), (a_sk, (arJ G 50 z51)), (a_lo, (oc3 e_cl a_hd a_sr a_cd)), (a_sr, (arI G n_sr f_sr)), (a_cd, (arI G n_cd f_cd)), (a_hd, (arI G n_hd f_hd))]) hP hD [5, 6] [0, 1, 2, 3, 4, 7, 8, 9, 10, 11, 12, 13] rfl rfl (by decide +kernel) (by decide +kernel) hk1 hFc hP1 hD1
                              clear hP hD hPc hDc hFc ht hvm hz1 hk1 hP1 hD1
                              obtain ⟨hP, hD⟩ := hJ9
                              refine g5_rs [(a_g, (oc6 6 5 a_gn e_g)), (a_gn, (arI G 30 f_g)), (a_h, (oc1 e_wa e_le e_st e_fo e_lc a_l a_g a_b a_s a_p a_w e_gb a_bb)), (a_l, (arW G 6 f_l)), (a_k, (oc5 a_h a_j a_pt e_ln e_se e_lh e_br e_we (e_me ||| (1 <<< ((6 + z13) &&& 31))) e_ce e_wy e_ho 1)), (a_j, (oc2 a_as a_sk)), (a_as, (arI G 8 z22)), (a_sk, (arJ G 50 z51)), (a_lo, (oc3 e_cl a_hd a_sr a_cd)), (a_sr, (arI G n_sr f_sr)), (a_cd, (arI G n_cd f_cd)), (a_hd, (arI G n_hd f_hd)), (a_p, (oc6 8 5 a_pn e_p)), (a_pn, (arI G 40 f_p))] hP hD ?_
                              clear hP hD
                              intro hP hD
                              refine g5_ti (v := z69) y70 ?_
                              have hz3_71 := sp_z3 e_qp i_10 i_68
                              have hd_71 : z69 = 0 := Int32.toInt_inj.mp (hz3_71.trans (by decide +kernel))
                              have hV_71 : z69 = tellQ (toldW g_w 1 (askQ (6 + z13) e_ce e_ho e_wy (-1) e_ln e_br)) (0) 10 := hd_71.trans (tell_n (tW_of e_w (by decide +kernel) i_50))
                              refine W.eq (g2 := F0 m 244 ls [.int z69]) rfl ?_
                              refine lv_istore (lv' := [(8, .int z69), (7, .int z44), (6, .ref a_lo), (5, .int z18), (4, .int (6 + z13)), (3, .int z13), (2, .ref a_p), (1, .int (-1)), (0, .ref a_k)]) hx hb dX5_meetGlass_244 hl (by decide +kernel) rfl ?_
                              clear hl
                              intro ls hl
                              refine lv_aload_n hx hb dX5_meetGlass_246 rfl (lv_at hl 8 rfl) ?_
                              refine lv_aload_n hx hb dX5_meetGlass_247 rfl (lv_at hl 8 rfl) ?_
                              refine va_get (D := G.1) (ci := 5) (v := .int e_br) (C := RX5) (T := TX5) (N := 13) hx hb hts inG_X5 hown hK hP 4 rfl rfl 6 (by decide +kernel) (hts _ fl_X5_46) (fun _ h9 => h9) rfl dX5_meetGlass_248 ?_
                              refine lv_bipush (v := 10) hx hb dX5_meetGlass_251 (by decide +kernel) ?_
                              refine W.eq (g2 := F0 m 253 ls [.int 10, .int e_br, .ref a_k]) rfl ?_
                              refine lv_iload hx hb dX5_meetGlass_253 (lv_at hl 0 rfl) ?_
                              refine lv_isub hx hb dX5_meetGlass_255 ?_
                              have t_72 : (10 - z69).toInt = 10 - z69.toInt := g5_isub (a := 10) (b := z69.toInt) (by decide +kernel) (by rfl) (by omega) (by omega)
                              refine lv_imul hx hb dX5_meetGlass_256 ?_
                              refine lv_bipush (v := 10) hx hb dX5_meetGlass_257 (by decide +kernel) ?_
                              refine lv_idiv hx hb dX5_meetGlass_259 (by decide +kernel) ?_
                              have hb_73 : 0 ≤ ((e_br * (10 - z69)) / 10).toInt ∧ ((e_br * (10 - z69)) / 10).toInt ≤ 1000000 := g_dust (by omega) (by omega)
                              refine W.eq (g2 := F0 m 260 ls [.int ((e_br * (10 - z69)) / 10), .ref a_k]) rfl ?_
                              refine va_put (D := G.1) (ci := 5) (v := .int ((e_br * (10 - z69)) / 10)) (ty := .int) (C := RX5) (T := TX5) (N := 13) hx hb hts inG_X5 tyX5 tyX5_ok nmX5 hown hK hP hD hS 4 rfl rfl 6 (by decide +kernel) (hts _ fl_X5_46) (fun _ h9 => h9) rfl (by decide +kernel) rfl rfl (Nat.le_of_ble_eq_true rfl) dX5_meetGlass_260 ?_
                              clear hP hD hS
                              intro H locs hP hD hS
                              refine g5_rs [(a_g, (oc6 6 5 a_gn e_g)), (a_gn, (arI G 30 f_g)), (a_h, (oc1 e_wa e_le e_st e_fo e_lc a_l a_g a_b a_s a_p a_w e_gb a_bb)), (a_l, (arW G 6 f_l)), (a_k, (oc5 a_h a_j a_pt e_ln e_se e_lh ((e_br * (10 - z69)) / 10) e_we (e_me ||| (1 <<< ((6 + z13) &&& 31))) e_ce e_wy e_ho 1)), (a_j, (oc2 a_as a_sk)), (a_as, (arI G 8 z22)), (a_sk, (arJ G 50 z51)), (a_lo, (oc3 e_cl a_hd a_sr a_cd)), (a_sr, (arI G n_sr f_sr)), (a_cd, (arI G n_cd f_cd)), (a_hd, (arI G n_hd f_hd)), (a_p, (oc6 8 5 a_pn e_p)), (a_pn, (arI G 40 f_p))] hP hD ?_
                              clear hP hD
                              intro hP hD
                              refine lv_aload_n hx hb dX5_meetGlass_263 rfl (lv_at hl 8 rfl) ?_
                              refine va_get (D := G.1) (ci := 5) (v := .int ((e_br * (10 - z69)) / 10)) (C := RX5) (T := TX5) (N := 13) hx hb hts inG_X5 hown hK hP 4 rfl rfl 6 (by decide +kernel) (hts _ fl_X5_46) (fun _ h9 => h9) rfl dX5_meetGlass_264 ?_
                              refine lv_aload_n hx hb dX5_meetGlass_267 rfl (lv_at hl 8 rfl) ?_
                              refine va_get (D := G.1) (ci := 5) (v := .ref a_h) (C := RX5) (T := TX5) (N := 13) hx hb hts inG_X5 hown hK hP 4 rfl rfl 0 (by decide +kernel) (hts _ fl_X5_22) (fun _ h9 => h9) rfl dX5_meetGlass_268 ?_
                              refine W.eq (g2 := F0 m 271 ls [.ref a_h, .int ((e_br * (10 - z69)) / 10)]) rfl ?_
                              refine va_get (D := G.1) (ci := 1) (v := .int e_le) (C := RX1) (T := TX1) (N := 13) hx hb hts inG_X1 hown hK hP 2 rfl rfl 1 (by decide +kernel) (hts _ fl_X5_138) (fun _ h9 => h9) rfl dX5_meetGlass_271 ?_
                              refine lv_icmp_ge (tgt := 278) hx hb dX5_meetGlass_274 (by decide +kernel) (fun c_74 => ?_) (fun c_74 => ?_)
                              ·
                                have i_74 : ((e_br * (10 - z69)) / 10).toInt ≥ e_le.toInt := g5_ge (a := ((e_br * (10 - z69)) / 10).toInt) (b := e_le.toInt) rfl rfl c_74
                                refine lv_aload_n hx hb dX5_meetGlass_278 rfl (lv_at hl 8 rfl) ?_
                                refine lv_dup hx hb dX5_meetGlass_279 rfl ?_
                                refine va_get (D := G.1) (ci := 5) (v := .int e_ho) (C := RX5) (T := TX5) (N := 13) hx hb hts inG_X5 hown hK hP 4 rfl rfl 11 (by decide +kernel) (hts _ fl_X5_33) (fun _ h9 => h9) rfl dX5_meetGlass_280 ?_
                                refine lv_iload hx hb dX5_meetGlass_283 (lv_at hl 1 rfl) ?_
                                refine W.eq (g2 := F0 m 285 ls [.int z44, .int e_ho, .ref a_k]) rfl ?_
                                refine lv_isub hx hb dX5_meetGlass_285 ?_
                                have t_75 : (e_ho - z44).toInt = e_ho.toInt - z44.toInt := g5_isub (a := e_ho.toInt) (b := z44.toInt) (by rfl) (by rfl) (by omega) (by omega)
                                refine va_put (D := G.1) (ci := 5) (v := .int (e_ho - z44)) (ty := .int) (C := RX5) (T := TX5) (N := 13) hx hb hts inG_X5 tyX5 tyX5_ok nmX5 hown hK hP hD hS 4 rfl rfl 11 (by decide +kernel) (hts _ fl_X5_33) (fun _ h9 => h9) rfl (by decide +kernel) rfl rfl (Nat.le_of_ble_eq_true rfl) dX5_meetGlass_286 ?_
                                clear hP hD hS
                                intro H locs hP hD hS
                                refine g5_rs [(a_g, (oc6 6 5 a_gn e_g)), (a_gn, (arI G 30 f_g)), (a_h, (oc1 e_wa e_le e_st e_fo e_lc a_l a_g a_b a_s a_p a_w e_gb a_bb)), (a_l, (arW G 6 f_l)), (a_k, (oc5 a_h a_j a_pt e_ln e_se e_lh ((e_br * (10 - z69)) / 10) e_we (e_me ||| (1 <<< ((6 + z13) &&& 31))) e_ce e_wy (e_ho - z44) 1)), (a_j, (oc2 a_as a_sk)), (a_as, (arI G 8 z22)), (a_sk, (arJ G 50 z51)), (a_lo, (oc3 e_cl a_hd a_sr a_cd)), (a_sr, (arI G n_sr f_sr)), (a_cd, (arI G n_cd f_cd)), (a_hd, (arI G n_hd f_hd)), (a_p, (oc6 8 5 a_pn e_p)), (a_pn, (arI G 40 f_p))] hP hD ?_
                                clear hP hD
                                intro hP hD
                                refine lv_aload_n hx hb dX5_meetGlass_289 rfl (lv_at hl 8 rfl) ?_
                                refine lv_iload hx hb dX5_meetGlass_290 (lv_at hl 3 rfl) ?_
                                refine lv_if_ne (tgt := 304) hx hb dX5_meetGlass_292 (by decide +kernel) (fun c_76 => ?_) (fun c_76 => ?_)
                                ·
                                  have n_76 : gNe (z18.toInt) (0) := g5_ne (a := z18.toInt) (b := 0) rfl (by decide +kernel) c_76
                                  have i_76 : z18.toInt ≥ 1 := by have z := g5_ne (a := z18.toInt) (b := 0) (by rfl) (by decide +kernel) c_76; omega
                                  refine lv_iload hx hb dX5_meetGlass_304 (lv_at hl 3 rfl) ?_
                                  refine lv_iconst (v := 1) hx hb dX5_meetGlass_306 (by decide +kernel) ?_
                                  refine lv_icmp_ne (tgt := 319) hx hb dX5_meetGlass_307 (by decide +kernel) (fun c_77 => ?_) (fun c_77 => ?_)
                                  ·
                                    have i_77 : z18.toInt ≠ 1 := g5_ne (a := z18.toInt) (b := 1) rfl (by decide +kernel) c_77
                                    omega
                                  ·
                                    have i_77 : z18.toInt = 1 := g5_neN (a := z18.toInt) (b := 1) rfl (by decide +kernel) c_77
                                    refine lv_iconst (v := 3) hx hb dX5_meetGlass_310 (by decide +kernel) ?_
                                    refine lv_aload_n hx hb dX5_meetGlass_311 rfl (lv_at hl 8 rfl) ?_
                                    refine va_get (D := G.1) (ci := 5) (v := .int e_wy) (C := RX5) (T := TX5) (N := 13) hx hb hts inG_X5 hown hK hP 4 rfl rfl 10 (by decide +kernel) (hts _ fl_X5_30) (fun _ h9 => h9) rfl dX5_meetGlass_312 ?_
                                    refine lv_isub hx hb dX5_meetGlass_315 ?_
                                    have t_78 : (3 - e_wy).toInt = 3 - e_wy.toInt := g5_isub (a := 3) (b := e_wy.toInt) (by decide +kernel) (by rfl) (by omega) (by omega)
                                    refine W.eq (g2 := F0 m 316 ls [.int (3 - e_wy), .ref a_k]) rfl ?_
                                    refine lv_goto (tgt := 325) hx hb dX5_meetGlass_316 (by decide +kernel) ?_
                                    refine va_put (D := G.1) (ci := 5) (v := .int (3 - e_wy)) (ty := .int) (C := RX5) (T := TX5) (N := 13) hx hb hts inG_X5 tyX5 tyX5_ok nmX5 hown hK hP hD hS 4 rfl rfl 10 (by decide +kernel) (hts _ fl_X5_30) (fun _ h9 => h9) rfl (by decide +kernel) rfl rfl (Nat.le_of_ble_eq_true rfl) dX5_meetGlass_325 ?_
                                    clear hP hD hS
                                    intro H locs hP hD hS
                                    refine g5_rs [(a_g, (oc6 6 5 a_gn e_g)), (a_gn, (arI G 30 f_g)), (a_h, (oc1 e_wa e_le e_st e_fo e_lc a_l a_g a_b a_s a_p a_w e_gb a_bb)), (a_l, (arW G 6 f_l)), (a_k, (oc5 a_h a_j a_pt e_ln e_se e_lh ((e_br * (10 - z69)) / 10) e_we (e_me ||| (1 <<< ((6 + z13) &&& 31))) e_ce (3 - e_wy) (e_ho - z44) 1)), (a_j, (oc2 a_as a_sk)), (a_as, (arI G 8 z22)), (a_sk, (arJ G 50 z51)), (a_lo, (oc3 e_cl a_hd a_sr a_cd)), (a_sr, (arI G n_sr f_sr)), (a_cd, (arI G n_cd f_cd)), (a_hd, (arI G n_hd f_hd)), (a_p, (oc6 8 5 a_pn e_p)), (a_pn, (arI G 40 f_p))] hP hD ?_
                                    clear hP hD
                                    intro hP hD
                                    refine lv_aload_n hx hb dX5_meetGlass_328 rfl (lv_at hl 8 rfl) ?_
                                    refine lv_dup hx hb dX5_meetGlass_329 rfl ?_
                                    refine va_get (D := G.1) (ci := 5) (v := .int e_we) (C := RX5) (T := TX5) (N := 13) hx hb hts inG_X5 hown hK hP 4 rfl rfl 7 (by decide +kernel) (hts _ fl_X5_49) (fun _ h9 => h9) rfl dX5_meetGlass_330 ?_
                                    refine W.eq (g2 := F0 m 333 ls [.int e_we, .ref a_k]) rfl ?_
                                    refine lv_iconst (v := 1) hx hb dX5_meetGlass_333 (by decide +kernel) ?_
                                    refine lv_iload hx hb dX5_meetGlass_334 (lv_at hl 4 rfl) ?_
                                    refine lv_ishl hx hb dX5_meetGlass_336 ?_
                                    refine lv_ior hx hb dX5_meetGlass_337 ?_
                                    refine va_put (D := G.1) (ci := 5) (v := .int (e_we ||| (1 <<< ((6 + z13) &&& 31)))) (ty := .int) (C := RX5) (T := TX5) (N := 13) hx hb hts inG_X5 tyX5 tyX5_ok nmX5 hown hK hP hD hS 4 rfl rfl 7 (by decide +kernel) (hts _ fl_X5_49) (fun _ h9 => h9) rfl (by decide +kernel) rfl rfl (Nat.le_of_ble_eq_true rfl) dX5_meetGlass_338 ?_
                                    clear hP hD hS
                                    intro H locs hP hD hS
                                    refine g5_rs [(a_g, (oc6 6 5 a_gn e_g)), (a_gn, (arI G 30 f_g)), (a_h, (oc1 e_wa e_le e_st e_fo e_lc a_l a_g a_b a_s a_p a_w e_gb a_bb)), (a_l, (arW G 6 f_l)), (a_k, (oc5 a_h a_j a_pt e_ln e_se e_lh ((e_br * (10 - z69)) / 10) (e_we ||| (1 <<< ((6 + z13) &&& 31))) (e_me ||| (1 <<< ((6 + z13) &&& 31))) e_ce (3 - e_wy) (e_ho - z44) 1)), (a_j, (oc2 a_as a_sk)), (a_as, (arI G 8 z22)), (a_sk, (arJ G 50 z51)), (a_lo, (oc3 e_cl a_hd a_sr a_cd)), (a_sr, (arI G n_sr f_sr)), (a_cd, (arI G n_cd f_cd)), (a_hd, (arI G n_hd f_hd)), (a_p, (oc6 8 5 a_pn e_p)), (a_pn, (arI G 40 f_p))] hP hD ?_
                                    clear hP hD
                                    intro hP hD
                                    refine W.eq (g2 := F0 m 341 ls []) rfl ?_
                                    refine lv_aload_n hx hb dX5_meetGlass_341 rfl (lv_at hl 8 rfl) ?_
                                    refine lv_iconst (v := 0) hx hb dX5_meetGlass_342 (by decide +kernel) ?_
                                    refine va_put (D := G.1) (ci := 5) (v := .int 0) (ty := .boolean) (C := RX5) (T := TX5) (N := 13) hx hb hts inG_X5 tyX5 tyX5_ok nmX5 hown hK hP hD hS 4 rfl rfl 12 (by decide +kernel) (hts _ fl_X5_56) (fun _ h9 => h9) rfl (by decide +kernel) rfl rfl (Nat.le_of_ble_eq_true rfl) dX5_meetGlass_343 ?_
                                    clear hP hD hS
                                    intro H locs hP hD hS
                                    refine g5_rs [(a_g, (oc6 6 5 a_gn e_g)), (a_gn, (arI G 30 f_g)), (a_h, (oc1 e_wa e_le e_st e_fo e_lc a_l a_g a_b a_s a_p a_w e_gb a_bb)), (a_l, (arW G 6 f_l)), (a_k, (oc5 a_h a_j a_pt e_ln e_se e_lh ((e_br * (10 - z69)) / 10) (e_we ||| (1 <<< ((6 + z13) &&& 31))) (e_me ||| (1 <<< ((6 + z13) &&& 31))) e_ce (3 - e_wy) (e_ho - z44) 0)), (a_j, (oc2 a_as a_sk)), (a_as, (arI G 8 z22)), (a_sk, (arJ G 50 z51)), (a_lo, (oc3 e_cl a_hd a_sr a_cd)), (a_sr, (arI G n_sr f_sr)), (a_cd, (arI G n_cd f_cd)), (a_hd, (arI G n_hd f_hd)), (a_p, (oc6 8 5 a_pn e_p)), (a_pn, (arI G 40 f_p))] hP hD ?_
                                    clear hP hD
                                    intro hP hD
                                    exact W.vret hx hb hr (fun t ht hW => ⟨⟨[(a_k, (oc5 a_h a_j a_pt e_ln e_se e_lh ((e_br * (10 - z69)) / 10) (e_we ||| (1 <<< ((6 + z13) &&& 31))) (e_me ||| (1 <<< ((6 + z13) &&& 31))) e_ce (3 - e_wy) (e_ho - z44) 0)), (a_h, (oc1 e_wa e_le e_st e_fo e_lc a_l a_g a_b a_s a_p a_w e_gb a_bb)), (a_g, (oc6 6 5 a_gn e_g)), (a_gn, (arI G 30 f_g)), (a_p, (oc6 8 5 a_pn e_p)), (a_pn, (arI G 40 f_p)), (a_j, (oc2 a_as a_sk)), (a_as, (arI G 8 z22)), (a_sk, (arJ G 50 z51)), (a_l, (arW G 6 f_l)), (a_lo, (oc3 e_cl a_hd a_sr a_cd)), (a_sr, (arI G n_sr f_sr)), (a_cd, (arI G n_cd f_cd)), (a_hd, (arI G n_hd f_hd))], rfl, Or.inr (⟨((e_br * (10 - z69)) / 10), (e_we ||| (1 <<< ((6 + z13) &&& 31))), (e_me ||| (1 <<< ((6 + z13) &&& 31))), (3 - e_wy), (e_ho - z44), z22, z51, ⟨by omega, by omega⟩, ⟨by omega, by omega⟩, ⟨by omega, by omega⟩, by rw [met_sc (du := 0) hGF hSF (by omega) hc1_20 rfl (by decide +kernel) e_f4, tn_3 hNS hV_46 (by omega) hV_71 rfl (by omega), nw_1 (so := z18) (by omega)], rfl⟩), by rw [ht]; exact hP.sub [4, 2, 0, 1, 12, 13, 5, 6, 7, 3, 8, 9, 10, 11] rfl, hD.sub [4, 2, 0, 1, 12, 13, 5, 6, 7, 3, 8, 9, 10, 11] (by decide +kernel) rfl⟩, hS.F ht⟩) hS.2.2 dX5_meetGlass_346
                                ·
                                  have i_76 : z18.toInt = 0 := g5_neN (a := z18.toInt) (b := 0) rfl (by decide +kernel) c_76
                                  refine lv_aload_n hx hb dX5_meetGlass_295 rfl (lv_at hl 8 rfl) ?_
                                  refine va_get (D := G.1) (ci := 5) (v := .int e_wy) (C := RX5) (T := TX5) (N := 13) hx hb hts inG_X5 hown hK hP 4 rfl rfl 10 (by decide +kernel) (hts _ fl_X5_30) (fun _ h9 => h9) rfl dX5_meetGlass_296 ?_
                                  refine lv_iconst (v := 1) hx hb dX5_meetGlass_299 (by decide +kernel) ?_
                                  refine lv_ixor hx hb dX5_meetGlass_300 ?_
                                  have hx_79 := (g_xor (w := e_wy) (by omega) (by omega)).1
                                  refine W.eq (g2 := F0 m 301 ls [.int (e_wy ^^^ 1), .ref a_k]) rfl ?_
                                  refine lv_goto (tgt := 325) hx hb dX5_meetGlass_301 (by decide +kernel) ?_
                                  refine va_put (D := G.1) (ci := 5) (v := .int (e_wy ^^^ 1)) (ty := .int) (C := RX5) (T := TX5) (N := 13) hx hb hts inG_X5 tyX5 tyX5_ok nmX5 hown hK hP hD hS 4 rfl rfl 10 (by decide +kernel) (hts _ fl_X5_30) (fun _ h9 => h9) rfl (by decide +kernel) rfl rfl (Nat.le_of_ble_eq_true rfl) dX5_meetGlass_325 ?_
                                  clear hP hD hS
                                  intro H locs hP hD hS
                                  refine g5_rs [(a_g, (oc6 6 5 a_gn e_g)), (a_gn, (arI G 30 f_g)), (a_h, (oc1 e_wa e_le e_st e_fo e_lc a_l a_g a_b a_s a_p a_w e_gb a_bb)), (a_l, (arW G 6 f_l)), (a_k, (oc5 a_h a_j a_pt e_ln e_se e_lh ((e_br * (10 - z69)) / 10) e_we (e_me ||| (1 <<< ((6 + z13) &&& 31))) e_ce (e_wy ^^^ 1) (e_ho - z44) 1)), (a_j, (oc2 a_as a_sk)), (a_as, (arI G 8 z22)), (a_sk, (arJ G 50 z51)), (a_lo, (oc3 e_cl a_hd a_sr a_cd)), (a_sr, (arI G n_sr f_sr)), (a_cd, (arI G n_cd f_cd)), (a_hd, (arI G n_hd f_hd)), (a_p, (oc6 8 5 a_pn e_p)), (a_pn, (arI G 40 f_p))] hP hD ?_
                                  clear hP hD
                                  intro hP hD
                                  refine lv_aload_n hx hb dX5_meetGlass_328 rfl (lv_at hl 8 rfl) ?_
                                  refine lv_dup hx hb dX5_meetGlass_329 rfl ?_
                                  refine va_get (D := G.1) (ci := 5) (v := .int e_we) (C := RX5) (T := TX5) (N := 13) hx hb hts inG_X5 hown hK hP 4 rfl rfl 7 (by decide +kernel) (hts _ fl_X5_49) (fun _ h9 => h9) rfl dX5_meetGlass_330 ?_
                                  refine W.eq (g2 := F0 m 333 ls [.int e_we, .ref a_k]) rfl ?_
                                  refine lv_iconst (v := 1) hx hb dX5_meetGlass_333 (by decide +kernel) ?_
                                  refine lv_iload hx hb dX5_meetGlass_334 (lv_at hl 4 rfl) ?_
                                  refine lv_ishl hx hb dX5_meetGlass_336 ?_
                                  refine lv_ior hx hb dX5_meetGlass_337 ?_
                                  refine va_put (D := G.1) (ci := 5) (v := .int (e_we ||| (1 <<< ((6 + z13) &&& 31)))) (ty := .int) (C := RX5) (T := TX5) (N := 13) hx hb hts inG_X5 tyX5 tyX5_ok nmX5 hown hK hP hD hS 4 rfl rfl 7 (by decide +kernel) (hts _ fl_X5_49) (fun _ h9 => h9) rfl (by decide +kernel) rfl rfl (Nat.le_of_ble_eq_true rfl) dX5_meetGlass_338 ?_
                                  clear hP hD hS
                                  intro H locs hP hD hS
                                  refine g5_rs [(a_g, (oc6 6 5 a_gn e_g)), (a_gn, (arI G 30 f_g)), (a_h, (oc1 e_wa e_le e_st e_fo e_lc a_l a_g a_b a_s a_p a_w e_gb a_bb)), (a_l, (arW G 6 f_l)), (a_k, (oc5 a_h a_j a_pt e_ln e_se e_lh ((e_br * (10 - z69)) / 10) (e_we ||| (1 <<< ((6 + z13) &&& 31))) (e_me ||| (1 <<< ((6 + z13) &&& 31))) e_ce (e_wy ^^^ 1) (e_ho - z44) 1)), (a_j, (oc2 a_as a_sk)), (a_as, (arI G 8 z22)), (a_sk, (arJ G 50 z51)), (a_lo, (oc3 e_cl a_hd a_sr a_cd)), (a_sr, (arI G n_sr f_sr)), (a_cd, (arI G n_cd f_cd)), (a_hd, (arI G n_hd f_hd)), (a_p, (oc6 8 5 a_pn e_p)), (a_pn, (arI G 40 f_p))] hP hD ?_
                                  clear hP hD
                                  intro hP hD
                                  refine W.eq (g2 := F0 m 341 ls []) rfl ?_
                                  refine lv_aload_n hx hb dX5_meetGlass_341 rfl (lv_at hl 8 rfl) ?_
                                  refine lv_iconst (v := 0) hx hb dX5_meetGlass_342 (by decide +kernel) ?_
                                  refine va_put (D := G.1) (ci := 5) (v := .int 0) (ty := .boolean) (C := RX5) (T := TX5) (N := 13) hx hb hts inG_X5 tyX5 tyX5_ok nmX5 hown hK hP hD hS 4 rfl rfl 12 (by decide +kernel) (hts _ fl_X5_56) (fun _ h9 => h9) rfl (by decide +kernel) rfl rfl (Nat.le_of_ble_eq_true rfl) dX5_meetGlass_343 ?_
                                  clear hP hD hS
                                  intro H locs hP hD hS
                                  refine g5_rs [(a_g, (oc6 6 5 a_gn e_g)), (a_gn, (arI G 30 f_g)), (a_h, (oc1 e_wa e_le e_st e_fo e_lc a_l a_g a_b a_s a_p a_w e_gb a_bb)), (a_l, (arW G 6 f_l)), (a_k, (oc5 a_h a_j a_pt e_ln e_se e_lh ((e_br * (10 - z69)) / 10) (e_we ||| (1 <<< ((6 + z13) &&& 31))) (e_me ||| (1 <<< ((6 + z13) &&& 31))) e_ce (e_wy ^^^ 1) (e_ho - z44) 0)), (a_j, (oc2 a_as a_sk)), (a_as, (arI G 8 z22)), (a_sk, (arJ G 50 z51)), (a_lo, (oc3 e_cl a_hd a_sr a_cd)), (a_sr, (arI G n_sr f_sr)), (a_cd, (arI G n_cd f_cd)), (a_hd, (arI G n_hd f_hd)), (a_p, (oc6 8 5 a_pn e_p)), (a_pn, (arI G 40 f_p))] hP hD ?_
                                  clear hP hD
                                  intro hP hD
                                  exact W.vret hx hb hr (fun t ht hW => ⟨⟨[(a_k, (oc5 a_h a_j a_pt e_ln e_se e_lh ((e_br * (10 - z69)) / 10) (e_we ||| (1 <<< ((6 + z13) &&& 31))) (e_me ||| (1 <<< ((6 + z13) &&& 31))) e_ce (e_wy ^^^ 1) (e_ho - z44) 0)), (a_h, (oc1 e_wa e_le e_st e_fo e_lc a_l a_g a_b a_s a_p a_w e_gb a_bb)), (a_g, (oc6 6 5 a_gn e_g)), (a_gn, (arI G 30 f_g)), (a_p, (oc6 8 5 a_pn e_p)), (a_pn, (arI G 40 f_p)), (a_j, (oc2 a_as a_sk)), (a_as, (arI G 8 z22)), (a_sk, (arJ G 50 z51)), (a_l, (arW G 6 f_l)), (a_lo, (oc3 e_cl a_hd a_sr a_cd)), (a_sr, (arI G n_sr f_sr)), (a_cd, (arI G n_cd f_cd)), (a_hd, (arI G n_hd f_hd))], rfl, Or.inr (⟨((e_br * (10 - z69)) / 10), (e_we ||| (1 <<< ((6 + z13) &&& 31))), (e_me ||| (1 <<< ((6 + z13) &&& 31))), (e_wy ^^^ 1), (e_ho - z44), z22, z51, ⟨by omega, by omega⟩, ⟨by omega, by omega⟩, ⟨by omega, by omega⟩, by rw [met_sc (du := 0) hGF hSF (by omega) hc1_20 rfl (by decide +kernel) e_f4, tn_3 hNS hV_46 (by omega) hV_71 rfl (by omega), nw_0 (so := z18) (by omega)], rfl⟩), by rw [ht]; exact hP.sub [4, 2, 0, 1, 12, 13, 5, 6, 7, 3, 8, 9, 10, 11] rfl, hD.sub [4, 2, 0, 1, 12, 13, 5, 6, 7, 3, 8, 9, 10, 11] (by decide +kernel) rfl⟩, hS.F ht⟩) hS.2.2 dX5_meetGlass_346
                              ·
                                have i_74 : ((e_br * (10 - z69)) / 10).toInt < e_le.toInt := g5_geN (a := ((e_br * (10 - z69)) / 10).toInt) (b := e_le.toInt) rfl rfl c_74
                                exact W.vret hx hb hr (fun t ht hW => ⟨⟨[(a_k, (oc5 a_h a_j a_pt e_ln e_se e_lh ((e_br * (10 - z69)) / 10) e_we (e_me ||| (1 <<< ((6 + z13) &&& 31))) e_ce e_wy e_ho 1)), (a_h, (oc1 e_wa e_le e_st e_fo e_lc a_l a_g a_b a_s a_p a_w e_gb a_bb)), (a_g, (oc6 6 5 a_gn e_g)), (a_gn, (arI G 30 f_g)), (a_p, (oc6 8 5 a_pn e_p)), (a_pn, (arI G 40 f_p)), (a_j, (oc2 a_as a_sk)), (a_as, (arI G 8 z22)), (a_sk, (arJ G 50 z51)), (a_l, (arW G 6 f_l)), (a_lo, (oc3 e_cl a_hd a_sr a_cd)), (a_sr, (arI G n_sr f_sr)), (a_cd, (arI G n_cd f_cd)), (a_hd, (arI G n_hd f_hd))], rfl, Or.inl (⟨((e_br * (10 - z69)) / 10), (e_me ||| (1 <<< ((6 + z13) &&& 31))), z22, z51, ⟨by omega, by omega⟩, by rw [met_sc (du := 0) hGF hSF (by omega) hc1_20 rfl (by decide +kernel) e_f4, tn_2 hNS hV_46 (by omega) hV_71 rfl (by omega)]; exact ⟨rfl, rfl, rfl⟩, rfl⟩), by rw [ht]; exact hP.sub [4, 2, 0, 1, 12, 13, 5, 6, 7, 3, 8, 9, 10, 11] rfl, hD.sub [4, 2, 0, 1, 12, 13, 5, 6, 7, 3, 8, 9, 10, 11] (by decide +kernel) rfl⟩, hS.F ht⟩) hS.2.2 dX5_meetGlass_277
                            ·
                              exact absurd c_67 (by decide +kernel)
                        ·
                          have i_47 : z44.toInt > e_ho.toInt := g5_leN (a := z44.toInt) (b := e_ho.toInt) rfl rfl c_47
                          exact W.vret hx hb hr (fun t ht hW => ⟨⟨[(a_k, (oc5 a_h a_j a_pt e_ln e_se e_lh e_br e_we (e_me ||| (1 <<< ((6 + z13) &&& 31))) e_ce e_wy e_ho 1)), (a_h, (oc1 e_wa e_le e_st e_fo e_lc a_l a_g a_b a_s a_p a_w e_gb a_bb)), (a_g, (oc6 6 5 a_gn e_g)), (a_gn, (arI G 30 f_g)), (a_p, (oc6 8 5 a_pn e_p)), (a_pn, (arI G 40 f_p)), (a_j, (oc2 a_as a_sk)), (a_as, (arI G 8 z22)), (a_sk, (arJ G 50 z37)), (a_l, (arW G 6 f_l)), (a_lo, (oc3 e_cl a_hd a_sr a_cd)), (a_sr, (arI G n_sr f_sr)), (a_cd, (arI G n_cd f_cd)), (a_hd, (arI G n_hd f_hd))], rfl, Or.inl (⟨e_br, (e_me ||| (1 <<< ((6 + z13) &&& 31))), z22, z37, h_e_br, by rw [met_sc (du := 0) hGF hSF (by omega) hc1_20 rfl (by decide +kernel) e_f4, tn_1 hNS hV_46 (by omega)]; exact ⟨rfl, rfl, rfl⟩, rfl⟩), by rw [ht]; exact hP.sub [4, 2, 0, 1, 5, 6, 12, 7, 13, 3, 8, 9, 10, 11] rfl, hD.sub [4, 2, 0, 1, 5, 6, 12, 7, 13, 3, 8, 9, 10, 11] (by decide +kernel) rfl⟩, hS.F ht⟩) hS.2.2 dX5_meetGlass_212
                    ·
                      have hJ9 := va_join (wr := [(a_g, (oc6 6 5 a_gn e_g)), (a_gn, (arI G 30 f_g)), (a_h, (oc1 e_wa e_le e_st e_fo e_lc a_l a_g a_b a_s a_p a_w e_gb a_bb)), (a_l, (arW G 6 f_l)), (a_k, (oc5 a_h a_j a_pt e_ln e_se e_lh e_br e_we (e_me ||| (1 <<< ((6 + z13) &&& 31))) e_ce e_wy e_ho 1)), (a_p, (oc6 8 5 a_pn e_p)), (a_pn, (arI G 40 f_p))]) hP hD [7, 8, 9, 10, 11, 12, 13] [0, 1, 2, 3, 4, 5, 6] rfl rfl (by decide +kernel) (by decide +kernel) hk1 hFc hP1 hD1
                      clear hP hD hPc hDc hFc ht hvm hz1 hk1 hP1 hD1
                      obtain ⟨hP, hD⟩ := hJ9
                      refine g5_rs [(a_g, (oc6 6 5 a_gn e_g)), (a_gn, (arI G 30 f_g)), (a_h, (oc1 e_wa e_le e_st e_fo e_lc a_l a_g a_b a_s a_p a_w e_gb a_bb)), (a_l, (arW G 6 f_l)), (a_k, (oc5 a_h a_j a_pt e_ln e_se e_lh e_br e_we (e_me ||| (1 <<< ((6 + z13) &&& 31))) e_ce e_wy e_ho 1)), (a_p, (oc6 8 5 a_pn e_p)), (a_pn, (arI G 40 f_p)), (a_j, (oc2 a_as a_sk)), (a_as, (arI G 8 z22)), (a_sk, (arJ G 50 z39)), (a_lo, (oc3 e_cl a_hd a_sr a_cd)), (a_sr, (arI G n_sr f_sr)), (a_cd, (arI G n_cd f_cd)), (a_hd, (arI G n_hd f_hd))] hP hD ?_
                      clear hP hD
                      intro hP hD
                      refine lv_if_eq (tgt := 195) hx hb dX5_meetGlass_180 (by decide +kernel) (fun c_80 => ?_) (fun c_80 => ?_)
                      ·
                        refine lv_aload_n hx hb dX5_meetGlass_195 rfl (lv_at hl 4 rfl) ?_
                        refine lv_iload_n hx hb dX5_meetGlass_196 rfl (lv_at hl 3 rfl) ?_
                        refine lv_iconst (v := 2) hx hb dX5_meetGlass_197 (by decide +kernel) ?_
                        obtain ⟨hPc, hDc, hFc⟩ := g5_sub3 (wc := [(a_p, (oc6 8 5 a_pn e_p)), (a_pn, (arI G 40 f_p))]) hP hD hS hA [5, 6] (by decide +kernel) rfl
                        refine va_calli (va_runV (As := [.int z13, .int 2]) (rest := []) ⟨hx, hb, hml, hown, hts⟩ (t_get_P l G a_p a_pn H.size e_p z13 2 f_p h_e_p) (cwV 2 hts gV_X5_107 rfl rfl rfl hv_X6_get ⟨Nat.le_of_ble_eq_true rfl, Nat.le_of_ble_eq_true rfl⟩) (g5_preV hPc hK hDc hN hT hS hFc (ci := 6) (q0 := 0) rfl rfl) rfl rfl hl.1 rfl (lv_room (Nat.le_of_ble_eq_true rfl)) dX5_meetGlass_198 ⟨Nat.le_of_ble_eq_true rfl, Nat.le_of_ble_eq_true rfl⟩) hS (fun q _ h => hFc q h) hFc (fun r u t H locs ht hvm hw hB hz1 hk1 hS => ?_)
                        obtain ⟨hP1, hD1⟩ := hB
                        have hP1 := g5_ht ht hP1
                        obtain ⟨z82, (i_81 : z82 = tget f_p e_p.toInt 5 z13.toInt (2 : Int32).toInt), y83, rfl⟩ := hw
                        have hJ9 := va_join (wr := [(a_g, (oc6 6 5 a_gn e_g)), (a_gn, (arI G 30 f_g)), (a_h, (oc1 e_wa e_le e_st e_fo e_lc a_l a_g a_b a_s a_p a_w e_gb a_bb)), (a_l, (arW G 6 f_l)), (a_k, (oc5 a_h a_j a_pt e_ln e_se e_lh e_br e_we (e_me ||| (1 <<< ((6 + z13) &&& 31))) e_ce e_wy e_ho 1)), (a_j, (oc2 a_as a_sk)), (a_as, (arI G 8 z22)), (a_sk, (arJ G 50 z39)), (a_lo, (oc3 e_cl a_hd a_sr a_cd)), (a_sr, (arI G n_sr f_sr)), (a_cd, (arI G n_cd f_cd)), (a_hd, (arI G n_hd f_hd))]) hP hD [5, 6] [0, 1, 2, 3, 4, 7, 8, 9, 10, 11, 12, 13] rfl rfl (by decide +kernel) (by decide +kernel) hk1 hFc hP1 hD1
                        clear hP hD hPc hDc hFc ht hvm hz1 hk1 hP1 hD1
                        obtain ⟨hP, hD⟩ := hJ9
                        refine g5_rs [(a_g, (oc6 6 5 a_gn e_g)), (a_gn, (arI G 30 f_g)), (a_h, (oc1 e_wa e_le e_st e_fo e_lc a_l a_g a_b a_s a_p a_w e_gb a_bb)), (a_l, (arW G 6 f_l)), (a_k, (oc5 a_h a_j a_pt e_ln e_se e_lh e_br e_we (e_me ||| (1 <<< ((6 + z13) &&& 31))) e_ce e_wy e_ho 1)), (a_j, (oc2 a_as a_sk)), (a_as, (arI G 8 z22)), (a_sk, (arJ G 50 z39)), (a_lo, (oc3 e_cl a_hd a_sr a_cd)), (a_sr, (arI G n_sr f_sr)), (a_cd, (arI G n_cd f_cd)), (a_hd, (arI G n_hd f_hd)), (a_p, (oc6 8 5 a_pn e_p)), (a_pn, (arI G 40 f_p))] hP hD ?_
                        clear hP hD
                        intro hP hD
                        refine g5_ti (v := z82) y83 ?_
                        have hc2_85 := sp_col (k := 2) e_qp i_10 i_81 (by decide +kernel) (by omega)
                        have hg_85 : 0 ≤ z82.toInt ∧ z82.toInt ≤ 23 := by rw [i_81]; exact (e_pk z13.toInt (by omega) (by omega)).2.2.1
                        have hV_84 : z82 = tellQ (toldW g_w 0 (askQ (6 + z13) e_ce e_ho e_wy (-1) e_ln e_br)) (f_ro (270 + 3 * z13.toInt.toNat + 2)) 23 := hc2_85.symm.trans (tell_n (tW_of e_w (by decide +kernel) i_38))
                        refine W.eq (g2 := F0 m 201 ls [.int z82]) rfl ?_
                        refine lv_istore (lv' := [(7, .int z82), (6, .ref a_lo), (5, .int z18), (4, .int (6 + z13)), (3, .int z13), (2, .ref a_p), (1, .int (-1)), (0, .ref a_k)]) hx hb dX5_meetGlass_201 hl (by decide +kernel) rfl ?_
                        clear hl
                        intro ls hl
                        refine lv_iload hx hb dX5_meetGlass_203 (lv_at hl 0 rfl) ?_
                        refine lv_aload_n hx hb dX5_meetGlass_205 rfl (lv_at hl 7 rfl) ?_
                        refine va_get (D := G.1) (ci := 5) (v := .int e_ho) (C := RX5) (T := TX5) (N := 13) hx hb hts inG_X5 hown hK hP 4 rfl rfl 11 (by decide +kernel) (hts _ fl_X5_33) (fun _ h9 => h9) rfl dX5_meetGlass_206 ?_
                        refine lv_icmp_le (tgt := 213) hx hb dX5_meetGlass_209 (by decide +kernel) (fun c_86 => ?_) (fun c_86 => ?_)
                        ·
                          have i_86 : z82.toInt ≤ e_ho.toInt := g5_le (a := z82.toInt) (b := e_ho.toInt) rfl rfl c_86
                          refine lv_aload_n hx hb dX5_meetGlass_213 rfl (lv_at hl 7 rfl) ?_
                          refine va_get (D := G.1) (ci := 5) (v := .ref a_j) (C := RX5) (T := TX5) (N := 13) hx hb hts inG_X5 hown hK hP 4 rfl rfl 1 (by decide +kernel) (hts _ fl_X5_12) (fun _ h9 => h9) rfl dX5_meetGlass_214 ?_
                          refine lv_aload hx hb dX5_meetGlass_217 (lv_at hl 1 rfl) ?_
                          refine lv_iconst (v := 1) hx hb dX5_meetGlass_219 (by decide +kernel) ?_
                          refine W.eq (g2 := F0 m 220 ls [.int 1, .ref a_lo, .ref a_j]) rfl ?_
                          obtain ⟨hPc, hDc, hFc⟩ := g5_sub3 (wc := [(a_j, (oc2 a_as a_sk)), (a_as, (arI G 8 z22)), (a_sk, (arJ G 50 z39)), (a_lo, (oc3 e_cl a_hd a_sr a_cd)), (a_sr, (arI G n_sr f_sr)), (a_cd, (arI G n_cd f_cd)), (a_hd, (arI G n_hd f_hd))]) hP hD hS hA [5, 6, 7, 8, 9, 10, 11] (by decide +kernel) rfl
                          refine va_calli (va_runV (As := [.ref a_lo, .int 1]) (rest := []) ⟨hx, hb, hml, hown, hts⟩ (j_isHeldX l G a_j a_as a_sk a_lo a_sr a_cd a_hd H.size 1 e_cl z22 z39 f_sr f_cd f_hd (askQ (6 + z13) e_ce e_ho e_wy (-1) e_ln e_br) g_L n_sr n_cd n_hd h_e_cl (e_hn) (e_hs) (e_hk) (e_c) (i_21) (e_lw) (e_lv)) (cwV 2 hts gV_X5_124 rfl rfl rfl hv_X2_isHeld ⟨Nat.le_of_ble_eq_true rfl, Nat.le_of_ble_eq_true rfl⟩) (g5_preV hPc hK hDc hN hT hS hFc (ci := 2) (q0 := 0) rfl rfl) rfl rfl hl.1 rfl (lv_room (Nat.le_of_ble_eq_true rfl)) dX5_meetGlass_220 ⟨Nat.le_of_ble_eq_true rfl, Nat.le_of_ble_eq_true rfl⟩) hS (fun q _ h => hFc q h) hFc (fun r u t H locs ht hvm hw hB hz1 hk1 hS => ?_)
                          obtain ⟨hP1, hD1⟩ := hB
                          have hP1 := g5_ht ht hP1
                          rcases hw with ⟨z88, (i_87 : ∃ v : Int64, toldX g_L (1 : Int32).toInt (askQ (6 + z13) e_ce e_ho e_wy (-1) e_ln e_br) = some v ∧ ((1 : Int32).toInt < 2 → z88 0 = v)), rfl, rfl⟩ | ⟨z90, (i_89 : toldX g_L (1 : Int32).toInt (askQ (6 + z13) e_ce e_ho e_wy (-1) e_ln e_br) = none), rfl, rfl⟩
                          ·
                            have hJ9 := va_join (wr := [(a_g, (oc6 6 5 a_gn e_g)), (a_gn, (arI G 30 f_g)), (a_h, (oc1 e_wa e_le e_st e_fo e_lc a_l a_g a_b a_s a_p a_w e_gb a_bb)), (a_l, (arW G 6 f_l)), (a_k, (oc5 a_h a_j a_pt e_ln e_se e_lh e_br e_we (e_me ||| (1 <<< ((6 + z13) &&& 31))) e_ce e_wy e_ho 1)), (a_p, (oc6 8 5 a_pn e_p)), (a_pn, (arI G 40 f_p))]) hP hD [5, 6, 7, 8, 9, 10, 11] [0, 1, 2, 3, 4, 12, 13] rfl rfl (by decide +kernel) (by decide +kernel) hk1 hFc hP1 hD1
                            clear hP hD hPc hDc hFc ht hvm hz1 hk1 hP1 hD1
                            obtain ⟨hP, hD⟩ := hJ9
                            refine g5_rs [(a_g, (oc6 6 5 a_gn e_g)), (a_gn, (arI G 30 f_g)), (a_h, (oc1 e_wa e_le e_st e_fo e_lc a_l a_g a_b a_s a_p a_w e_gb a_bb)), (a_l, (arW G 6 f_l)), (a_k, (oc5 a_h a_j a_pt e_ln e_se e_lh e_br e_we (e_me ||| (1 <<< ((6 + z13) &&& 31))) e_ce e_wy e_ho 1)), (a_p, (oc6 8 5 a_pn e_p)), (a_pn, (arI G 40 f_p)), (a_j, (oc2 a_as a_sk)), (a_as, (arI G 8 z22)), (a_sk, (arJ G 50 z88)), (a_lo, (oc3 e_cl a_hd a_sr a_cd)), (a_sr, (arI G n_sr f_sr)), (a_cd, (arI G n_cd f_cd)), (a_hd, (arI G n_hd f_hd))] hP hD ?_
                            clear hP hD
                            intro hP hD
                            obtain ⟨v1_91, ht_91, hv_91⟩ := i_87
                            have hw_91 := hv_91 (by decide +kernel)
                            refine lv_if_eq (tgt := 238) hx hb dX5_meetGlass_223 (by decide +kernel) (fun c_92 => ?_) (fun c_92 => ?_)
                            ·
                              exact absurd c_92 (by decide +kernel)
                            ·
                              refine lv_aload_n hx hb dX5_meetGlass_226 rfl (lv_at hl 7 rfl) ?_
                              refine va_get (D := G.1) (ci := 5) (v := .ref a_j) (C := RX5) (T := TX5) (N := 13) hx hb hts inG_X5 hown hK hP 4 rfl rfl 1 (by decide +kernel) (hts _ fl_X5_12) (fun _ h9 => h9) rfl dX5_meetGlass_227 ?_
                              refine lv_bipush (v := 10) hx hb dX5_meetGlass_230 (by decide +kernel) ?_
                              obtain ⟨hPc, hDc, hFc⟩ := g5_sub3 (wc := [(a_j, (oc2 a_as a_sk)), (a_sk, (arJ G 50 z88))]) hP hD hS hA [7, 9] (by decide +kernel) rfl
                              refine va_calli (va_runV (As := [.int 10]) (rest := []) ⟨hx, hb, hml, hown, hts⟩ (j_toldX l G a_j a_sk a_as H.size 10 z88 ⟨by decide, by decide⟩) (cwV 1 hts gV_X5_134 rfl rfl rfl hv_X2_toldUpTo ⟨Nat.le_of_ble_eq_true rfl, Nat.le_of_ble_eq_true rfl⟩) (g5_preV hPc hK hDc hN hT hS hFc (ci := 2) (q0 := 0) rfl rfl) rfl rfl hl.1 rfl (lv_room (Nat.le_of_ble_eq_true rfl)) dX5_meetGlass_232 ⟨Nat.le_of_ble_eq_true rfl, Nat.le_of_ble_eq_true rfl⟩) hS (fun q _ h => hFc q h) hFc (fun r u t H locs ht hvm hw hB hz1 hk1 hS => ?_)
                              obtain ⟨hP1, hD1⟩ := hB
                              have hP1 := g5_ht ht hP1
                              obtain ⟨z95, (i_93 : 0 ≤ z95.toInt ∧ z95.toInt ≤ (10 : Int32).toInt), (i_94 : z95 = clampQ (z88 0) (10 : Int32)), y96, rfl⟩ := hw
                              have hJ9 := va_join (wr := [(a_g, (oc6 6 5 a_gn e_g)), (a_gn, (arI G 30 f_g)), (a_h, (oc1 e_wa e_le e_st e_fo e_lc a_l a_g a_b a_s a_p a_w e_gb a_bb)), (a_l, (arW G 6 f_l)), (a_k, (oc5 a_h a_j a_pt e_ln e_se e_lh e_br e_we (e_me ||| (1 <<< ((6 + z13) &&& 31))) e_ce e_wy e_ho 1)), (a_p, (oc6 8 5 a_pn e_p)), (a_pn, (arI G 40 f_p)), (a_as, (arI G 8 z22)), (a_lo, (oc3 e_cl a_hd a_sr a_cd)), (a_sr, (arI G n_sr f_sr)), (a_cd, (arI G n_cd f_cd)), (a_hd, (arI G n_hd f_hd))]) hP hD [7, 9] [0, 1, 2, 3, 4, 5, 6, 8, 10, 11, 12, 13] rfl rfl (by decide +kernel) (by decide +kernel) hk1 hFc hP1 hD1
                              clear hP hD hPc hDc hFc ht hvm hz1 hk1 hP1 hD1
                              obtain ⟨hP, hD⟩ := hJ9
                              refine g5_rs [(a_g, (oc6 6 5 a_gn e_g)), (a_gn, (arI G 30 f_g)), (a_h, (oc1 e_wa e_le e_st e_fo e_lc a_l a_g a_b a_s a_p a_w e_gb a_bb)), (a_l, (arW G 6 f_l)), (a_k, (oc5 a_h a_j a_pt e_ln e_se e_lh e_br e_we (e_me ||| (1 <<< ((6 + z13) &&& 31))) e_ce e_wy e_ho 1)), (a_p, (oc6 8 5 a_pn e_p)), (a_pn, (arI G 40 f_p)), (a_as, (arI G 8 z22)), (a_lo, (oc3 e_cl a_hd a_sr a_cd)), (a_sr, (arI G n_sr f_sr)), (a_cd, (arI G n_cd f_cd)), (a_hd, (arI G n_hd f_hd)), (a_j, (oc2 a_as a_sk)), (a_sk, (arJ G 50 z88))] hP hD ?_
                              clear hP hD
                              intro hP hD
                              refine g5_ti (v := z95) y96 ?_
                              refine W.eq (g2 := F0 m 235 ls [.int z95]) rfl ?_
                              refine lv_goto (tgt := 244) hx hb dX5_meetGlass_235 (by decide +kernel) ?_
                              have hV_97 : z95 = tellQ (toldW g_w 1 (askQ (6 + z13) e_ce e_ho e_wy (-1) e_ln e_br)) (0) 10 := tell_s (tW_of e_w (by decide +kernel) ht_91) (by rw [i_94, hw_91])
                              have hr_97 : 0 ≤ z95.toInt ∧ z95.toInt ≤ 10 := ⟨by omega, by have zk : (10 : Int32).toInt = 10 := (by decide +kernel); omega⟩
                              refine lv_istore (lv' := [(8, .int z95), (7, .int z82), (6, .ref a_lo), (5, .int z18), (4, .int (6 + z13)), (3, .int z13), (2, .ref a_p), (1, .int (-1)), (0, .ref a_k)]) hx hb dX5_meetGlass_244 hl (by decide +kernel) rfl ?_
                              clear hl
                              intro ls hl
                              refine lv_aload_n hx hb dX5_meetGlass_246 rfl (lv_at hl 8 rfl) ?_
                              refine lv_aload_n hx hb dX5_meetGlass_247 rfl (lv_at hl 8 rfl) ?_
                              refine va_get (D := G.1) (ci := 5) (v := .int e_br) (C := RX5) (T := TX5) (N := 13) hx hb hts inG_X5 hown hK hP 4 rfl rfl 6 (by decide +kernel) (hts _ fl_X5_46) (fun _ h9 => h9) rfl dX5_meetGlass_248 ?_
                              refine W.eq (g2 := F0 m 251 ls [.int e_br, .ref a_k]) rfl ?_
                              refine lv_bipush (v := 10) hx hb dX5_meetGlass_251 (by decide +kernel) ?_
                              refine lv_iload hx hb dX5_meetGlass_253 (lv_at hl 0 rfl) ?_
                              refine lv_isub hx hb dX5_meetGlass_255 ?_
                              have t_98 : (10 - z95).toInt = 10 - z95.toInt := g5_isub (a := 10) (b := z95.toInt) (by decide +kernel) (by rfl) (by omega) (by omega)
                              refine lv_imul hx hb dX5_meetGlass_256 ?_
                              refine lv_bipush (v := 10) hx hb dX5_meetGlass_257 (by decide +kernel) ?_
                              refine W.eq (g2 := F0 m 259 ls [.int 10, .int (e_br * (10 - z95)), .ref a_k]) rfl ?_
                              refine lv_idiv hx hb dX5_meetGlass_259 (by decide +kernel) ?_
                              have hb_99 : 0 ≤ ((e_br * (10 - z95)) / 10).toInt ∧ ((e_br * (10 - z95)) / 10).toInt ≤ 1000000 := g_dust (by omega) (by omega)
                              refine va_put (D := G.1) (ci := 5) (v := .int ((e_br * (10 - z95)) / 10)) (ty := .int) (C := RX5) (T := TX5) (N := 13) hx hb hts inG_X5 tyX5 tyX5_ok nmX5 hown hK hP hD hS 4 rfl rfl 6 (by decide +kernel) (hts _ fl_X5_46) (fun _ h9 => h9) rfl (by decide +kernel) rfl rfl (Nat.le_of_ble_eq_true rfl) dX5_meetGlass_260 ?_
                              clear hP hD hS
                              intro H locs hP hD hS
                              refine g5_rs [(a_g, (oc6 6 5 a_gn e_g)), (a_gn, (arI G 30 f_g)), (a_h, (oc1 e_wa e_le e_st e_fo e_lc a_l a_g a_b a_s a_p a_w e_gb a_bb)), (a_l, (arW G 6 f_l)), (a_k, (oc5 a_h a_j a_pt e_ln e_se e_lh ((e_br * (10 - z95)) / 10) e_we (e_me ||| (1 <<< ((6 + z13) &&& 31))) e_ce e_wy e_ho 1)), (a_p, (oc6 8 5 a_pn e_p)), (a_pn, (arI G 40 f_p)), (a_as, (arI G 8 z22)), (a_lo, (oc3 e_cl a_hd a_sr a_cd)), (a_sr, (arI G n_sr f_sr)), (a_cd, (arI G n_cd f_cd)), (a_hd, (arI G n_hd f_hd)), (a_j, (oc2 a_as a_sk)), (a_sk, (arJ G 50 z88))] hP hD ?_
                              clear hP hD
                              intro hP hD
                              refine lv_aload_n hx hb dX5_meetGlass_263 rfl (lv_at hl 8 rfl) ?_
                              refine va_get (D := G.1) (ci := 5) (v := .int ((e_br * (10 - z95)) / 10)) (C := RX5) (T := TX5) (N := 13) hx hb hts inG_X5 hown hK hP 4 rfl rfl 6 (by decide +kernel) (hts _ fl_X5_46) (fun _ h9 => h9) rfl dX5_meetGlass_264 ?_
                              refine lv_aload_n hx hb dX5_meetGlass_267 rfl (lv_at hl 8 rfl) ?_
                              refine W.eq (g2 := F0 m 268 ls [.ref a_k, .int ((e_br * (10 - z95)) / 10)]) rfl ?_
                              refine va_get (D := G.1) (ci := 5) (v := .ref a_h) (C := RX5) (T := TX5) (N := 13) hx hb hts inG_X5 hown hK hP 4 rfl rfl 0 (by decide +kernel) (hts _ fl_X5_22) (fun _ h9 => h9) rfl dX5_meetGlass_268 ?_
                              refine va_get (D := G.1) (ci := 1) (v := .int e_le) (C := RX1) (T := TX1) (N := 13) hx hb hts inG_X1 hown hK hP 2 rfl rfl 1 (by decide +kernel) (hts _ fl_X5_138) (fun _ h9 => h9) rfl dX5_meetGlass_271 ?_
                              refine lv_icmp_ge (tgt := 278) hx hb dX5_meetGlass_274 (by decide +kernel) (fun c_100 => ?_) (fun c_100 => ?_)
                              ·
                                have i_100 : ((e_br * (10 - z95)) / 10).toInt ≥ e_le.toInt := g5_ge (a := ((e_br * (10 - z95)) / 10).toInt) (b := e_le.toInt) rfl rfl c_100
                                refine lv_aload_n hx hb dX5_meetGlass_278 rfl (lv_at hl 8 rfl) ?_
                                refine lv_dup hx hb dX5_meetGlass_279 rfl ?_
                                refine va_get (D := G.1) (ci := 5) (v := .int e_ho) (C := RX5) (T := TX5) (N := 13) hx hb hts inG_X5 hown hK hP 4 rfl rfl 11 (by decide +kernel) (hts _ fl_X5_33) (fun _ h9 => h9) rfl dX5_meetGlass_280 ?_
                                refine lv_iload hx hb dX5_meetGlass_283 (lv_at hl 1 rfl) ?_
                                refine W.eq (g2 := F0 m 285 ls [.int z82, .int e_ho, .ref a_k]) rfl ?_
                                refine lv_isub hx hb dX5_meetGlass_285 ?_
                                have t_101 : (e_ho - z82).toInt = e_ho.toInt - z82.toInt := g5_isub (a := e_ho.toInt) (b := z82.toInt) (by rfl) (by rfl) (by omega) (by omega)
                                refine va_put (D := G.1) (ci := 5) (v := .int (e_ho - z82)) (ty := .int) (C := RX5) (T := TX5) (N := 13) hx hb hts inG_X5 tyX5 tyX5_ok nmX5 hown hK hP hD hS 4 rfl rfl 11 (by decide +kernel) (hts _ fl_X5_33) (fun _ h9 => h9) rfl (by decide +kernel) rfl rfl (Nat.le_of_ble_eq_true rfl) dX5_meetGlass_286 ?_
                                clear hP hD hS
                                intro H locs hP hD hS
                                refine g5_rs [(a_g, (oc6 6 5 a_gn e_g)), (a_gn, (arI G 30 f_g)), (a_h, (oc1 e_wa e_le e_st e_fo e_lc a_l a_g a_b a_s a_p a_w e_gb a_bb)), (a_l, (arW G 6 f_l)), (a_k, (oc5 a_h a_j a_pt e_ln e_se e_lh ((e_br * (10 - z95)) / 10) e_we (e_me ||| (1 <<< ((6 + z13) &&& 31))) e_ce e_wy (e_ho - z82) 1)), (a_p, (oc6 8 5 a_pn e_p)), (a_pn, (arI G 40 f_p)), (a_as, (arI G 8 z22)), (a_lo, (oc3 e_cl a_hd a_sr a_cd)), (a_sr, (arI G n_sr f_sr)), (a_cd, (arI G n_cd f_cd)), (a_hd, (arI G n_hd f_hd)), (a_j, (oc2 a_as a_sk)), (a_sk, (arJ G 50 z88))] hP hD ?_
                                clear hP hD
                                intro hP hD
                                refine lv_aload_n hx hb dX5_meetGlass_289 rfl (lv_at hl 8 rfl) ?_
                                refine lv_iload hx hb dX5_meetGlass_290 (lv_at hl 3 rfl) ?_
                                refine lv_if_ne (tgt := 304) hx hb dX5_meetGlass_292 (by decide +kernel) (fun c_102 => ?_) (fun c_102 => ?_)
                                ·
                                  have n_102 : gNe (z18.toInt) (0) := g5_ne (a := z18.toInt) (b := 0) rfl (by decide +kernel) c_102
                                  have i_102 : z18.toInt ≥ 1 := by have z := g5_ne (a := z18.toInt) (b := 0) (by rfl) (by decide +kernel) c_102; omega
                                  refine lv_iload hx hb dX5_meetGlass_304 (lv_at hl 3 rfl) ?_
                                  refine lv_iconst (v := 1) hx hb dX5_meetGlass_306 (by decide +kernel) ?_
                                  refine lv_icmp_ne (tgt := 319) hx hb dX5_meetGlass_307 (by decide +kernel) (fun c_103 => ?_) (fun c_103 => ?_)
                                  ·
                                    have i_103 : z18.toInt ≠ 1 := g5_ne (a := z18.toInt) (b := 1) rfl (by decide +kernel) c_103
                                    omega
                                  ·
                                    have i_103 : z18.toInt = 1 := g5_neN (a := z18.toInt) (b := 1) rfl (by decide +kernel) c_103
                                    refine lv_iconst (v := 3) hx hb dX5_meetGlass_310 (by decide +kernel) ?_
                                    refine lv_aload_n hx hb dX5_meetGlass_311 rfl (lv_at hl 8 rfl) ?_
                                    refine va_get (D := G.1) (ci := 5) (v := .int e_wy) (C := RX5) (T := TX5) (N := 13) hx hb hts inG_X5 hown hK hP 4 rfl rfl 10 (by decide +kernel) (hts _ fl_X5_30) (fun _ h9 => h9) rfl dX5_meetGlass_312 ?_
                                    refine lv_isub hx hb dX5_meetGlass_315 ?_
                                    have t_104 : (3 - e_wy).toInt = 3 - e_wy.toInt := g5_isub (a := 3) (b := e_wy.toInt) (by decide +kernel) (by rfl) (by omega) (by omega)
                                    refine W.eq (g2 := F0 m 316 ls [.int (3 - e_wy), .ref a_k]) rfl ?_
                                    refine lv_goto (tgt := 325) hx hb dX5_meetGlass_316 (by decide +kernel) ?_
                                    refine va_put (D := G.1) (ci := 5) (v := .int (3 - e_wy)) (ty := .int) (C := RX5) (T := TX5) (N := 13) hx hb hts inG_X5 tyX5 tyX5_ok nmX5 hown hK hP hD hS 4 rfl rfl 10 (by decide +kernel) (hts _ fl_X5_30) (fun _ h9 => h9) rfl (by decide +kernel) rfl rfl (Nat.le_of_ble_eq_true rfl) dX5_meetGlass_325 ?_
                                    clear hP hD hS
                                    intro H locs hP hD hS
                                    refine g5_rs [(a_g, (oc6 6 5 a_gn e_g)), (a_gn, (arI G 30 f_g)), (a_h, (oc1 e_wa e_le e_st e_fo e_lc a_l a_g a_b a_s a_p a_w e_gb a_bb)), (a_l, (arW G 6 f_l)), (a_k, (oc5 a_h a_j a_pt e_ln e_se e_lh ((e_br * (10 - z95)) / 10) e_we (e_me ||| (1 <<< ((6 + z13) &&& 31))) e_ce (3 - e_wy) (e_ho - z82) 1)), (a_p, (oc6 8 5 a_pn e_p)), (a_pn, (arI G 40 f_p)), (a_as, (arI G 8 z22)), (a_lo, (oc3 e_cl a_hd a_sr a_cd)), (a_sr, (arI G n_sr f_sr)), (a_cd, (arI G n_cd f_cd)), (a_hd, (arI G n_hd f_hd)), (a_j, (oc2 a_as a_sk)), (a_sk, (arJ G 50 z88))] hP hD ?_
                                    clear hP hD
                                    intro hP hD
                                    refine lv_aload_n hx hb dX5_meetGlass_328 rfl (lv_at hl 8 rfl) ?_
                                    refine lv_dup hx hb dX5_meetGlass_329 rfl ?_
                                    refine va_get (D := G.1) (ci := 5) (v := .int e_we) (C := RX5) (T := TX5) (N := 13) hx hb hts inG_X5 hown hK hP 4 rfl rfl 7 (by decide +kernel) (hts _ fl_X5_49) (fun _ h9 => h9) rfl dX5_meetGlass_330 ?_
                                    refine W.eq (g2 := F0 m 333 ls [.int e_we, .ref a_k]) rfl ?_
                                    refine lv_iconst (v := 1) hx hb dX5_meetGlass_333 (by decide +kernel) ?_
                                    refine lv_iload hx hb dX5_meetGlass_334 (lv_at hl 4 rfl) ?_
                                    refine lv_ishl hx hb dX5_meetGlass_336 ?_
                                    refine lv_ior hx hb dX5_meetGlass_337 ?_
                                    refine va_put (D := G.1) (ci := 5) (v := .int (e_we ||| (1 <<< ((6 + z13) &&& 31)))) (ty := .int) (C := RX5) (T := TX5) (N := 13) hx hb hts inG_X5 tyX5 tyX5_ok nmX5 hown hK hP hD hS 4 rfl rfl 7 (by decide +kernel) (hts _ fl_X5_49) (fun _ h9 => h9) rfl (by decide +kernel) rfl rfl (Nat.le_of_ble_eq_true rfl) dX5_meetGlass_338 ?_
                                    clear hP hD hS
                                    intro H locs hP hD hS
                                    refine g5_rs [(a_g, (oc6 6 5 a_gn e_g)), (a_gn, (arI G 30 f_g)), (a_h, (oc1 e_wa e_le e_st e_fo e_lc a_l a_g a_b a_s a_p a_w e_gb a_bb)), (a_l, (arW G 6 f_l)), (a_k, (oc5 a_h a_j a_pt e_ln e_se e_lh ((e_br * (10 - z95)) / 10) (e_we ||| (1 <<< ((6 + z13) &&& 31))) (e_me ||| (1 <<< ((6 + z13) &&& 31))) e_ce (3 - e_wy) (e_ho - z82) 1)), (a_p, (oc6 8 5 a_pn e_p)), (a_pn, (arI G 40 f_p)), (a_as, (arI G 8 z22)), (a_lo, (oc3 e_cl a_hd a_sr a_cd)), (a_sr, (arI G n_sr f_sr)), (a_cd, (arI G n_cd f_cd)), (a_hd, (arI G n_hd f_hd)), (a_j, (oc2 a_as a_sk)), (a_sk, (arJ G 50 z88))] hP hD ?_
                                    clear hP hD
                                    intro hP hD
                                    refine W.eq (g2 := F0 m 341 ls []) rfl ?_
                                    refine lv_aload_n hx hb dX5_meetGlass_341 rfl (lv_at hl 8 rfl) ?_
                                    refine lv_iconst (v := 0) hx hb dX5_meetGlass_342 (by decide +kernel) ?_
                                    refine va_put (D := G.1) (ci := 5) (v := .int 0) (ty := .boolean) (C := RX5) (T := TX5) (N := 13) hx hb hts inG_X5 tyX5 tyX5_ok nmX5 hown hK hP hD hS 4 rfl rfl 12 (by decide +kernel) (hts _ fl_X5_56) (fun _ h9 => h9) rfl (by decide +kernel) rfl rfl (Nat.le_of_ble_eq_true rfl) dX5_meetGlass_343 ?_
                                    clear hP hD hS
                                    intro H locs hP hD hS
                                    refine g5_rs [(a_g, (oc6 6 5 a_gn e_g)), (a_gn, (arI G 30 f_g)), (a_h, (oc1 e_wa e_le e_st e_fo e_lc a_l a_g a_b a_s a_p a_w e_gb a_bb)), (a_l, (arW G 6 f_l)), (a_k, (oc5 a_h a_j a_pt e_ln e_se e_lh ((e_br * (10 - z95)) / 10) (e_we ||| (1 <<< ((6 + z13) &&& 31))) (e_me ||| (1 <<< ((6 + z13) &&& 31))) e_ce (3 - e_wy) (e_ho - z82) 0)), (a_p, (oc6 8 5 a_pn e_p)), (a_pn, (arI G 40 f_p)), (a_as, (arI G 8 z22)), (a_lo, (oc3 e_cl a_hd a_sr a_cd)), (a_sr, (arI G n_sr f_sr)), (a_cd, (arI G n_cd f_cd)), (a_hd, (arI G n_hd f_hd)), (a_j, (oc2 a_as a_sk)), (a_sk, (arJ G 50 z88))] hP hD ?_
                                    clear hP hD
                                    intro hP hD
                                    exact W.vret hx hb hr (fun t ht hW => ⟨⟨[(a_k, (oc5 a_h a_j a_pt e_ln e_se e_lh ((e_br * (10 - z95)) / 10) (e_we ||| (1 <<< ((6 + z13) &&& 31))) (e_me ||| (1 <<< ((6 + z13) &&& 31))) e_ce (3 - e_wy) (e_ho - z82) 0)), (a_h, (oc1 e_wa e_le e_st e_fo e_lc a_l a_g a_b a_s a_p a_w e_gb a_bb)), (a_g, (oc6 6 5 a_gn e_g)), (a_gn, (arI G 30 f_g)), (a_p, (oc6 8 5 a_pn e_p)), (a_pn, (arI G 40 f_p)), (a_j, (oc2 a_as a_sk)), (a_as, (arI G 8 z22)), (a_sk, (arJ G 50 z88)), (a_l, (arW G 6 f_l)), (a_lo, (oc3 e_cl a_hd a_sr a_cd)), (a_sr, (arI G n_sr f_sr)), (a_cd, (arI G n_cd f_cd)), (a_hd, (arI G n_hd f_hd))], rfl, Or.inr (⟨((e_br * (10 - z95)) / 10), (e_we ||| (1 <<< ((6 + z13) &&& 31))), (e_me ||| (1 <<< ((6 + z13) &&& 31))), (3 - e_wy), (e_ho - z82), z22, z88, ⟨by omega, by omega⟩, ⟨by omega, by omega⟩, ⟨by omega, by omega⟩, by rw [met_sc (du := 0) hGF hSF (by omega) hc1_20 rfl (by decide +kernel) e_f4, tn_3 hNS hV_84 (by omega) hV_97 rfl (by omega), nw_1 (so := z18) (by omega)], rfl⟩), by rw [ht]; exact hP.sub [4, 2, 0, 1, 5, 6, 12, 7, 13, 3, 8, 9, 10, 11] rfl, hD.sub [4, 2, 0, 1, 5, 6, 12, 7, 13, 3, 8, 9, 10, 11] (by decide +kernel) rfl⟩, hS.F ht⟩) hS.2.2 dX5_meetGlass_346
                                ·
                                  have i_102 : z18.toInt = 0 := g5_neN (a := z18.toInt) (b := 0) rfl (by decide +kernel) c_102
                                  refine lv_aload_n hx hb dX5_meetGlass_295 rfl (lv_at hl 8 rfl) ?_
                                  refine va_get (D := G.1) (ci := 5) (v := .int e_wy) (C := RX5) (T := TX5) (N := 13) hx hb hts inG_X5 hown hK hP 4 rfl rfl 10 (by decide +kernel) (hts _ fl_X5_30) (fun _ h9 => h9) rfl dX5_meetGlass_296 ?_
                                  refine lv_iconst (v := 1) hx hb dX5_meetGlass_299 (by decide +kernel) ?_
                                  refine lv_ixor hx hb dX5_meetGlass_300 ?_
                                  have hx_105 := (g_xor (w := e_wy) (by omega) (by omega)).1
                                  refine W.eq (g2 := F0 m 301 ls [.int (e_wy ^^^ 1), .ref a_k]) rfl ?_
                                  refine lv_goto (tgt := 325) hx hb dX5_meetGlass_301 (by decide +kernel) ?_
                                  refine va_put (D := G.1) (ci := 5) (v := .int (e_wy ^^^ 1)) (ty := .int) (C := RX5) (T := TX5) (N := 13) hx hb hts inG_X5 tyX5 tyX5_ok nmX5 hown hK hP hD hS 4 rfl rfl 10 (by decide +kernel) (hts _ fl_X5_30) (fun _ h9 => h9) rfl (by decide +kernel) rfl rfl (Nat.le_of_ble_eq_true rfl) dX5_meetGlass_325 ?_
                                  clear hP hD hS
                                  intro H locs hP hD hS
                                  refine g5_rs [(a_g, (oc6 6 5 a_gn e_g)), (a_gn, (arI G 30 f_g)), (a_h, (oc1 e_wa e_le e_st e_fo e_lc a_l a_g a_b a_s a_p a_w e_gb a_bb)), (a_l, (arW G 6 f_l)), (a_k, (oc5 a_h a_j a_pt e_ln e_se e_lh ((e_br * (10 - z95)) / 10) e_we (e_me ||| (1 <<< ((6 + z13) &&& 31))) e_ce (e_wy ^^^ 1) (e_ho - z82) 1)), (a_p, (oc6 8 5 a_pn e_p)), (a_pn, (arI G 40 f_p)), (a_as, (arI G 8 z22)), (a_lo, (oc3 e_cl a_hd a_sr a_cd)), (a_sr, (arI G n_sr f_sr)), (a_cd, (arI G n_cd f_cd)), (a_hd, (arI G n_hd f_hd)), (a_j, (oc2 a_as a_sk)), (a_sk, (arJ G 50 z88))] hP hD ?_
                                  clear hP hD
                                  intro hP hD
                                  refine lv_aload_n hx hb dX5_meetGlass_328 rfl (lv_at hl 8 rfl) ?_
                                  refine lv_dup hx hb dX5_meetGlass_329 rfl ?_
                                  refine va_get (D := G.1) (ci := 5) (v := .int e_we) (C := RX5) (T := TX5) (N := 13) hx hb hts inG_X5 hown hK hP 4 rfl rfl 7 (by decide +kernel) (hts _ fl_X5_49) (fun _ h9 => h9) rfl dX5_meetGlass_330 ?_
                                  refine W.eq (g2 := F0 m 333 ls [.int e_we, .ref a_k]) rfl ?_
                                  refine lv_iconst (v := 1) hx hb dX5_meetGlass_333 (by decide +kernel) ?_
                                  refine lv_iload hx hb dX5_meetGlass_334 (lv_at hl 4 rfl) ?_
                                  refine lv_ishl hx hb dX5_meetGlass_336 ?_
                                  refine lv_ior hx hb dX5_meetGlass_337 ?_
                                  refine va_put (D := G.1) (ci := 5) (v := .int (e_we ||| (1 <<< ((6 + z13) &&& 31)))) (ty := .int) (C := RX5) (T := TX5) (N := 13) hx hb hts inG_X5 tyX5 tyX5_ok nmX5 hown hK hP hD hS 4 rfl rfl 7 (by decide +kernel) (hts _ fl_X5_49) (fun _ h9 => h9) rfl (by decide +kernel) rfl rfl (Nat.le_of_ble_eq_true rfl) dX5_meetGlass_338 ?_
                                  clear hP hD hS
                                  intro H locs hP hD hS
                                  refine g5_rs [(a_g, (oc6 6 5 a_gn e_g)), (a_gn, (arI G 30 f_g)), (a_h, (oc1 e_wa e_le e_st e_fo e_lc a_l a_g a_b a_s a_p a_w e_gb a_bb)), (a_l, (arW G 6 f_l)), (a_k, (oc5 a_h a_j a_pt e_ln e_se e_lh ((e_br * (10 - z95)) / 10) (e_we ||| (1 <<< ((6 + z13) &&& 31))) (e_me ||| (1 <<< ((6 + z13) &&& 31))) e_ce (e_wy ^^^ 1) (e_ho - z82) 1)), (a_p, (oc6 8 5 a_pn e_p)), (a_pn, (arI G 40 f_p)), (a_as, (arI G 8 z22)), (a_lo, (oc3 e_cl a_hd a_sr a_cd)), (a_sr, (arI G n_sr f_sr)), (a_cd, (arI G n_cd f_cd)), (a_hd, (arI G n_hd f_hd)), (a_j, (oc2 a_as a_sk)), (a_sk, (arJ G 50 z88))] hP hD ?_
                                  clear hP hD
                                  intro hP hD
                                  refine W.eq (g2 := F0 m 341 ls []) rfl ?_
                                  refine lv_aload_n hx hb dX5_meetGlass_341 rfl (lv_at hl 8 rfl) ?_
                                  refine lv_iconst (v := 0) hx hb dX5_meetGlass_342 (by decide +kernel) ?_
                                  refine va_put (D := G.1) (ci := 5) (v := .int 0) (ty := .boolean) (C := RX5) (T := TX5) (N := 13) hx hb hts inG_X5 tyX5 tyX5_ok nmX5 hown hK hP hD hS 4 rfl rfl 12 (by decide +kernel) (hts _ fl_X5_56) (fun _ h9 => h9) rfl (by decide +kernel) rfl rfl (Nat.le_of_ble_eq_true rfl) dX5_meetGlass_343 ?_
                                  clear hP hD hS
                                  intro H locs hP hD hS
                                  refine g5_rs [(a_g, (oc6 6 5 a_gn e_g)), (a_gn, (arI G 30 f_g)), (a_h, (oc1 e_wa e_le e_st e_fo e_lc a_l a_g a_b a_s a_p a_w e_gb a_bb)), (a_l, (arW G 6 f_l)), (a_k, (oc5 a_h a_j a_pt e_ln e_se e_lh ((e_br * (10 - z95)) / 10) (e_we ||| (1 <<< ((6 + z13) &&& 31))) (e_me ||| (1 <<< ((6 + z13) &&& 31))) e_ce (e_wy ^^^ 1) (e_ho - z82) 0)), (a_p, (oc6 8 5 a_pn e_p)), (a_pn, (arI G 40 f_p)), (a_as, (arI G 8 z22)), (a_lo, (oc3 e_cl a_hd a_sr a_cd)), (a_sr, (arI G n_sr f_sr)), (a_cd, (arI G n_cd f_cd)), (a_hd, (arI G n_hd f_hd)), (a_j, (oc2 a_as a_sk)), (a_sk, (arJ G 50 z88))] hP hD ?_
                                  clear hP hD
                                  intro hP hD
                                  exact W.vret hx hb hr (fun t ht hW => ⟨⟨[(a_k, (oc5 a_h a_j a_pt e_ln e_se e_lh ((e_br * (10 - z95)) / 10) (e_we ||| (1 <<< ((6 + z13) &&& 31))) (e_me ||| (1 <<< ((6 + z13) &&& 31))) e_ce (e_wy ^^^ 1) (e_ho - z82) 0)), (a_h, (oc1 e_wa e_le e_st e_fo e_lc a_l a_g a_b a_s a_p a_w e_gb a_bb)), (a_g, (oc6 6 5 a_gn e_g)), (a_gn, (arI G 30 f_g)), (a_p, (oc6 8 5 a_pn e_p)), (a_pn, (arI G 40 f_p)), (a_j, (oc2 a_as a_sk)), (a_as, (arI G 8 z22)), (a_sk, (arJ G 50 z88)), (a_l, (arW G 6 f_l)), (a_lo, (oc3 e_cl a_hd a_sr a_cd)), (a_sr, (arI G n_sr f_sr)), (a_cd, (arI G n_cd f_cd)), (a_hd, (arI G n_hd f_hd))], rfl, Or.inr (⟨((e_br * (10 - z95)) / 10), (e_we ||| (1 <<< ((6 + z13) &&& 31))), (e_me ||| (1 <<< ((6 + z13) &&& 31))), (e_wy ^^^ 1), (e_ho - z82), z22, z88, ⟨by omega, by omega⟩, ⟨by omega, by omega⟩, ⟨by omega, by omega⟩, by rw [met_sc (du := 0) hGF hSF (by omega) hc1_20 rfl (by decide +kernel) e_f4, tn_3 hNS hV_84 (by omega) hV_97 rfl (by omega), nw_0 (so := z18) (by omega)], rfl⟩), by rw [ht]; exact hP.sub [4, 2, 0, 1, 5, 6, 12, 7, 13, 3, 8, 9, 10, 11] rfl, hD.sub [4, 2, 0, 1, 5, 6, 12, 7, 13, 3, 8, 9, 10, 11] (by decide +kernel) rfl⟩, hS.F ht⟩) hS.2.2 dX5_meetGlass_346
                              ·
                                have i_100 : ((e_br * (10 - z95)) / 10).toInt < e_le.toInt := g5_geN (a := ((e_br * (10 - z95)) / 10).toInt) (b := e_le.toInt) rfl rfl c_100
                                exact W.vret hx hb hr (fun t ht hW => ⟨⟨[(a_k, (oc5 a_h a_j a_pt e_ln e_se e_lh ((e_br * (10 - z95)) / 10) e_we (e_me ||| (1 <<< ((6 + z13) &&& 31))) e_ce e_wy e_ho 1)), (a_h, (oc1 e_wa e_le e_st e_fo e_lc a_l a_g a_b a_s a_p a_w e_gb a_bb)), (a_g, (oc6 6 5 a_gn e_g)), (a_gn, (arI G 30 f_g)), (a_p, (oc6 8 5 a_pn e_p)), (a_pn, (arI G 40 f_p)), (a_j, (oc2 a_as a_sk)), (a_as, (arI G 8 z22)), (a_sk, (arJ G 50 z88)), (a_l, (arW G 6 f_l)), (a_lo, (oc3 e_cl a_hd a_sr a_cd)), (a_sr, (arI G n_sr f_sr)), (a_cd, (arI G n_cd f_cd)), (a_hd, (arI G n_hd f_hd))], rfl, Or.inl (⟨((e_br * (10 - z95)) / 10), (e_me ||| (1 <<< ((6 + z13) &&& 31))), z22, z88, ⟨by omega, by omega⟩, by rw [met_sc (du := 0) hGF hSF (by omega) hc1_20 rfl (by decide +kernel) e_f4, tn_2 hNS hV_84 (by omega) hV_97 rfl (by omega)]; exact ⟨rfl, rfl, rfl⟩, rfl⟩), by rw [ht]; exact hP.sub [4, 2, 0, 1, 5, 6, 12, 7, 13, 3, 8, 9, 10, 11] rfl, hD.sub [4, 2, 0, 1, 5, 6, 12, 7, 13, 3, 8, 9, 10, 11] (by decide +kernel) rfl⟩, hS.F ht⟩) hS.2.2 dX5_meetGlass_277
                          ·
                            have hJ9 := va_join (wr := [(a_g, (oc6 6 5 a_gn e_g)), (a_gn, (arI G 30 f_g)), (a_h, (oc1 e_wa e_le e_st e_fo e_lc a_l a_g a_b a_s a_p a_w e_gb a_bb)), (a_l, (arW G 6 f_l)), (a_k, (oc5 a_h a_j a_pt e_ln e_se e_lh e_br e_we (e_me ||| (1 <<< ((6 + z13) &&& 31))) e_ce e_wy e_ho 1)), (a_p, (oc6 8 5 a_pn e_p)), (a_pn, (arI G 40 f_p))]) hP hD [5, 6, 7, 8, 9, 10, 11] [0, 1, 2, 3, 4, 12, 13] rfl rfl (by decide +kernel) (by decide +kernel) hk1 hFc hP1 hD1
                            clear hP hD hPc hDc hFc ht hvm hz1 hk1 hP1 hD1
                            obtain ⟨hP, hD⟩ := hJ9
                            refine g5_rs [(a_g, (oc6 6 5 a_gn e_g)), (a_gn, (arI G 30 f_g)), (a_h, (oc1 e_wa e_le e_st e_fo e_lc a_l a_g a_b a_s a_p a_w e_gb a_bb)), (a_l, (arW G 6 f_l)), (a_k, (oc5 a_h a_j a_pt e_ln e_se e_lh e_br e_we (e_me ||| (1 <<< ((6 + z13) &&& 31))) e_ce e_wy e_ho 1)), (a_p, (oc6 8 5 a_pn e_p)), (a_pn, (arI G 40 f_p)), (a_j, (oc2 a_as a_sk)), (a_as, (arI G 8 z22)), (a_sk, (arJ G 50 z90)), (a_lo, (oc3 e_cl a_hd a_sr a_cd)), (a_sr, (arI G n_sr f_sr)), (a_cd, (arI G n_cd f_cd)), (a_hd, (arI G n_hd f_hd))] hP hD ?_
                            clear hP hD
                            intro hP hD
                            refine lv_if_eq (tgt := 238) hx hb dX5_meetGlass_223 (by decide +kernel) (fun c_106 => ?_) (fun c_106 => ?_)
                            ·
                              refine lv_aload_n hx hb dX5_meetGlass_238 rfl (lv_at hl 5 rfl) ?_
                              refine lv_iload_n hx hb dX5_meetGlass_239 rfl (lv_at hl 4 rfl) ?_
                              refine lv_iconst (v := 3) hx hb dX5_meetGlass_240 (by decide +kernel) ?_
                              obtain ⟨hPc, hDc, hFc⟩ := g5_sub3 (wc := [(a_p, (oc6 8 5 a_pn e_p)), (a_pn, (arI G 40 f_p))]) hP hD hS hA [5, 6] (by decide +kernel) rfl
                              refine va_calli (va_runV (As := [.int z13, .int 3]) (rest := []) ⟨hx, hb, hml, hown, hts⟩ (t_get_P l G a_p a_pn H.size e_p z13 3 f_p h_e_p) (cwV 2 hts gV_X5_107 rfl rfl rfl hv_X6_get ⟨Nat.le_of_ble_eq_true rfl, Nat.le_of_ble_eq_true rfl⟩) (g5_preV hPc hK hDc hN hT hS hFc (ci := 6) (q0 := 0) rfl rfl) rfl rfl hl.1 rfl (lv_room (Nat.le_of_ble_eq_true rfl)) dX5_meetGlass_241 ⟨Nat.le_of_ble_eq_true rfl, Nat.le_of_ble_eq_true rfl⟩) hS (fun q _ h => hFc q h) hFc (fun r u t H locs ht hvm hw hB hz1 hk1 hS => ?_)
                              obtain ⟨hP1, hD1⟩ := hB
                              have hP1 := g5_ht ht hP1
                              obtain ⟨z108, (i_107 : z108 = tget f_p e_p.toInt 5 z13.toInt (3 : Int32).toInt), y109, rfl⟩ := hw
                              have hJ9 := va_join (wr := [(a_g, (oc6 6 5 a_gn e_g)), (a_gn, (arI G 30 f_g)), (a_h, (oc1 e_wa e_le e_st e_fo e_lc a_l a_g a_b a_s a_p a_w e_gb a_bb)), (a_l, (arW G 6 f_l)), (a_k, (oc5 a_h a_j a_pt e_ln e_se e_lh e_br e_we (e_me ||| (1 <<< ((6 + z13) &&& 31))) e_ce e_wy e_ho 1)), (a_j, (oc2 a_as a_sk)), (a_as, (arI G 8 z22)), (a_sk, (arJ G 50 z90)), (a_lo, (oc3 e_cl a_hd a_sr a_cd)), (a_sr, (arI G n_sr f_sr)), (a_cd, (arI G n_cd f_cd)), (a_hd, (arI G n_hd f_hd))]) hP hD [5, 6] [0, 1, 2, 3, 4, 7, 8, 9, 10, 11, 12, 13] rfl rfl (by decide +kernel) (by decide +kernel) hk1 hFc hP1 hD1
                              clear hP hD hPc hDc hFc ht hvm hz1 hk1 hP1 hD1
                              obtain ⟨hP, hD⟩ := hJ9
                              refine g5_rs [(a_g, (oc6 6 5 a_gn e_g)), (a_gn, (arI G 30 f_g)), (a_h, (oc1 e_wa e_le e_st e_fo e_lc a_l a_g a_b a_s a_p a_w e_gb a_bb)), (a_l, (arW G 6 f_l)), (a_k, (oc5 a_h a_j a_pt e_ln e_se e_lh e_br e_we (e_me ||| (1 <<< ((6 + z13) &&& 31))) e_ce e_wy e_ho 1)), (a_j, (oc2 a_as a_sk)), (a_as, (arI G 8 z22)), (a_sk, (arJ G 50 z90)), (a_lo, (oc3 e_cl a_hd a_sr a_cd)), (a_sr, (arI G n_sr f_sr)), (a_cd, (arI G n_cd f_cd)), (a_hd, (arI G n_hd f_hd)), (a_p, (oc6 8 5 a_pn e_p)), (a_pn, (arI G 40 f_p))] hP hD ?_
                              clear hP hD
                              intro hP hD
                              refine g5_ti (v := z108) y109 ?_
                              have hz3_110 := sp_z3 e_qp i_10 i_107
                              have hd_110 : z108 = 0 := Int32.toInt_inj.mp (hz3_110.trans (by decide +kernel))
                              have hV_110 : z108 = tellQ (toldW g_w 1 (askQ (6 + z13) e_ce e_ho e_wy (-1) e_ln e_br)) (0) 10 := hd_110.trans (tell_n (tW_of e_w (by decide +kernel) i_89))
                              refine W.eq (g2 := F0 m 244 ls [.int z108]) rfl ?_
                              refine lv_istore (lv' := [(8, .int z108), (7, .int z82), (6, .ref a_lo), (5, .int z18), (4, .int (6 + z13)), (3, .int z13), (2, .ref a_p), (1, .int (-1)), (0, .ref a_k)]) hx hb dX5_meetGlass_244 hl (by decide +kernel) rfl ?_
                              clear hl
                              intro ls hl
                              refine lv_aload_n hx hb dX5_meetGlass_246 rfl (lv_at hl 8 rfl) ?_
                              refine lv_aload_n hx hb dX5_meetGlass_247 rfl (lv_at hl 8 rfl) ?_
                              refine va_get (D := G.1) (ci := 5) (v := .int e_br) (C := RX5) (T := TX5) (N := 13) hx hb hts inG_X5 hown hK hP 4 rfl rfl 6 (by decide +kernel) (hts _ fl_X5_46) (fun _ h9 => h9) rfl dX5_meetGlass_248 ?_
                              refine lv_bipush (v := 10) hx hb dX5_meetGlass_251 (by decide +kernel) ?_
                              refine W.eq (g2 := F0 m 253 ls [.int 10, .int e_br, .ref a_k]) rfl ?_
                              refine lv_iload hx hb dX5_meetGlass_253 (lv_at hl 0 rfl) ?_
                              refine lv_isub hx hb dX5_meetGlass_255 ?_
                              have t_111 : (10 - z108).toInt = 10 - z108.toInt := g5_isub (a := 10) (b := z108.toInt) (by decide +kernel) (by rfl) (by omega) (by omega)
                              refine lv_imul hx hb dX5_meetGlass_256 ?_
                              refine lv_bipush (v := 10) hx hb dX5_meetGlass_257 (by decide +kernel) ?_
                              refine lv_idiv hx hb dX5_meetGlass_259 (by decide +kernel) ?_
                              have hb_112 : 0 ≤ ((e_br * (10 - z108)) / 10).toInt ∧ ((e_br * (10 - z108)) / 10).toInt ≤ 1000000 := g_dust (by omega) (by omega)
                              refine W.eq (g2 := F0 m 260 ls [.int ((e_br * (10 - z108)) / 10), .ref a_k]) rfl ?_
                              refine va_put (D := G.1) (ci := 5) (v := .int ((e_br * (10 - z108)) / 10)) (ty := .int) (C := RX5) (T := TX5) (N := 13) hx hb hts inG_X5 tyX5 tyX5_ok nmX5 hown hK hP hD hS 4 rfl rfl 6 (by decide +kernel) (hts _ fl_X5_46) (fun _ h9 => h9) rfl (by decide +kernel) rfl rfl (Nat.le_of_ble_eq_true rfl) dX5_meetGlass_260 ?_
                              clear hP hD hS
                              intro H locs hP hD hS
                              refine g5_rs [(a_g, (oc6 6 5 a_gn e_g)), (a_gn, (arI G 30 f_g)), (a_h, (oc1 e_wa e_le e_st e_fo e_lc a_l a_g a_b a_s a_p a_w e_gb a_bb)), (a_l, (arW G 6 f_l)), (a_k, (oc5 a_h a_j a_pt e_ln e_se e_lh ((e_br * (10 - z108)) / 10) e_we (e_me ||| (1 <<< ((6 + z13) &&& 31))) e_ce e_wy e_ho 1)), (a_j, (oc2 a_as a_sk)), (a_as, (arI G 8 z22)), (a_sk, (arJ G 50 z90)), (a_lo, (oc3 e_cl a_hd a_sr a_cd)), (a_sr, (arI G n_sr f_sr)), (a_cd, (arI G n_cd f_cd)), (a_hd, (arI G n_hd f_hd)), (a_p, (oc6 8 5 a_pn e_p)), (a_pn, (arI G 40 f_p))] hP hD ?_
                              clear hP hD
                              intro hP hD
                              refine lv_aload_n hx hb dX5_meetGlass_263 rfl (lv_at hl 8 rfl) ?_
                              refine va_get (D := G.1) (ci := 5) (v := .int ((e_br * (10 - z108)) / 10)) (C := RX5) (T := TX5) (N := 13) hx hb hts inG_X5 hown hK hP 4 rfl rfl 6 (by decide +kernel) (hts _ fl_X5_46) (fun _ h9 => h9) rfl dX5_meetGlass_264 ?_
                              refine lv_aload_n hx hb dX5_meetGlass_267 rfl (lv_at hl 8 rfl) ?_
                              refine va_get (D := G.1) (ci := 5) (v := .ref a_h) (C := RX5) (T := TX5) (N := 13) hx hb hts inG_X5 hown hK hP 4 rfl rfl 0 (by decide +kernel) (hts _ fl_X5_22) (fun _ h9 => h9) rfl dX5_meetGlass_268 ?_
                              refine W.eq (g2 := F0 m 271 ls [.ref a_h, .int ((e_br * (10 - z108)) / 10)]) rfl ?_
                              refine va_get (D := G.1) (ci := 1) (v := .int e_le) (C := RX1) (T := TX1) (N := 13) hx hb hts inG_X1 hown hK hP 2 rfl rfl 1 (by decide +kernel) (hts _ fl_X5_138) (fun _ h9 => h9) rfl dX5_meetGlass_271 ?_
                              refine lv_icmp_ge (tgt := 278) hx hb dX5_meetGlass_274 (by decide +kernel) (fun c_113 => ?_) (fun c_113 => ?_)
                              ·
                                have i_113 : ((e_br * (10 - z108)) / 10).toInt ≥ e_le.toInt := g5_ge (a := ((e_br * (10 - z108)) / 10).toInt) (b := e_le.toInt) rfl rfl c_113
                                refine lv_aload_n hx hb dX5_meetGlass_278 rfl (lv_at hl 8 rfl) ?_
                                refine lv_dup hx hb dX5_meetGlass_279 rfl ?_
                                refine va_get (D := G.1) (ci := 5) (v := .int e_ho) (C := RX5) (T := TX5) (N := 13) hx hb hts inG_X5 hown hK hP 4 rfl rfl 11 (by decide +kernel) (hts _ fl_X5_33) (fun _ h9 => h9) rfl dX5_meetGlass_280 ?_
                                refine lv_iload hx hb dX5_meetGlass_283 (lv_at hl 1 rfl) ?_
                                refine W.eq (g2 := F0 m 285 ls [.int z82, .int e_ho, .ref a_k]) rfl ?_
                                refine lv_isub hx hb dX5_meetGlass_285 ?_
                                have t_114 : (e_ho - z82).toInt = e_ho.toInt - z82.toInt := g5_isub (a := e_ho.toInt) (b := z82.toInt) (by rfl) (by rfl) (by omega) (by omega)
                                refine va_put (D := G.1) (ci := 5) (v := .int (e_ho - z82)) (ty := .int) (C := RX5) (T := TX5) (N := 13) hx hb hts inG_X5 tyX5 tyX5_ok nmX5 hown hK hP hD hS 4 rfl rfl 11 (by decide +kernel) (hts _ fl_X5_33) (fun _ h9 => h9) rfl (by decide +kernel) rfl rfl (Nat.le_of_ble_eq_true rfl) dX5_meetGlass_286 ?_
                                clear hP hD hS
                                intro H locs hP hD hS
                                refine g5_rs [(a_g, (oc6 6 5 a_gn e_g)), (a_gn, (arI G 30 f_g)), (a_h, (oc1 e_wa e_le e_st e_fo e_lc a_l a_g a_b a_s a_p a_w e_gb a_bb)), (a_l, (arW G 6 f_l)), (a_k, (oc5 a_h a_j a_pt e_ln e_se e_lh ((e_br * (10 - z108)) / 10) e_we (e_me ||| (1 <<< ((6 + z13) &&& 31))) e_ce e_wy (e_ho - z82) 1)), (a_j, (oc2 a_as a_sk)), (a_as, (arI G 8 z22)), (a_sk, (arJ G 50 z90)), (a_lo, (oc3 e_cl a_hd a_sr a_cd)), (a_sr, (arI G n_sr f_sr)), (a_cd, (arI G n_cd f_cd)), (a_hd, (arI G n_hd f_hd)), (a_p, (oc6 8 5 a_pn e_p)), (a_pn, (arI G 40 f_p))] hP hD ?_
                                clear hP hD
                                intro hP hD
                                refine lv_aload_n hx hb dX5_meetGlass_289 rfl (lv_at hl 8 rfl) ?_
                                refine lv_iload hx hb dX5_meetGlass_290 (lv_at hl 3 rfl) ?_
                                refine lv_if_ne (tgt := 304) hx hb dX5_meetGlass_292 (by decide +kernel) (fun c_115 => ?_) (fun c_115 => ?_)
                                ·
                                  have n_115 : gNe (z18.toInt) (0) := g5_ne (a := z18.toInt) (b := 0) rfl (by decide +kernel) c_115
                                  have i_115 : z18.toInt ≥ 1 := by have z := g5_ne (a := z18.toInt) (b := 0) (by rfl) (by decide +kernel) c_115; omega
                                  refine lv_iload hx hb dX5_meetGlass_304 (lv_at hl 3 rfl) ?_
                                  refine lv_iconst (v := 1) hx hb dX5_meetGlass_306 (by decide +kernel) ?_
                                  refine lv_icmp_ne (tgt := 319) hx hb dX5_meetGlass_307 (by decide +kernel) (fun c_116 => ?_) (fun c_116 => ?_)
                                  ·
                                    have i_116 : z18.toInt ≠ 1 := g5_ne (a := z18.toInt) (b := 1) rfl (by decide +kernel) c_116
                                    omega
                                  ·
                                    have i_116 : z18.toInt = 1 := g5_neN (a := z18.toInt) (b := 1) rfl (by decide +kernel) c_116
                                    refine lv_iconst (v := 3) hx hb dX5_meetGlass_310 (by decide +kernel) ?_
                                    refine lv_aload_n hx hb dX5_meetGlass_311 rfl (lv_at hl 8 rfl) ?_
                                    refine va_get (D := G.1) (ci := 5) (v := .int e_wy) (C := RX5) (T := TX5) (N := 13) hx hb hts inG_X5 hown hK hP 4 rfl rfl 10 (by decide +kernel) (hts _ fl_X5_30) (fun _ h9 => h9) rfl dX5_meetGlass_312 ?_
                                    refine lv_isub hx hb dX5_meetGlass_315 ?_
                                    have t_117 : (3 - e_wy).toInt = 3 - e_wy.toInt := g5_isub (a := 3) (b := e_wy.toInt) (by decide +kernel) (by rfl) (by omega) (by omega)
                                    refine W.eq (g2 := F0 m 316 ls [.int (3 - e_wy), .ref a_k]) rfl ?_
                                    refine lv_goto (tgt := 325) hx hb dX5_meetGlass_316 (by decide +kernel) ?_
                                    refine va_put (D := G.1) (ci := 5) (v := .int (3 - e_wy)) (ty := .int) (C := RX5) (T := TX5) (N := 13) hx hb hts inG_X5 tyX5 tyX5_ok nmX5 hown hK hP hD hS 4 rfl rfl 10 (by decide +kernel) (hts _ fl_X5_30) (fun _ h9 => h9) rfl (by decide +kernel) rfl rfl (Nat.le_of_ble_eq_true rfl) dX5_meetGlass_325 ?_
                                    clear hP hD hS
                                    intro H locs hP hD hS
                                    refine g5_rs [(a_g, (oc6 6 5 a_gn e_g)), (a_gn, (arI G 30 f_g)), (a_h, (oc1 e_wa e_le e_st e_fo e_lc a_l a_g a_b a_s a_p a_w e_gb a_bb)), (a_l, (arW G 6 f_l)), (a_k, (oc5 a_h a_j a_pt e_ln e_se e_lh ((e_br * (10 - z108)) / 10) e_we (e_me ||| (1 <<< ((6 + z13) &&& 31))) e_ce (3 - e_wy) (e_ho - z82) 1)), (a_j, (oc2 a_as a_sk)), (a_as, (arI G 8 z22)), (a_sk, (arJ G 50 z90)), (a_lo, (oc3 e_cl a_hd a_sr a_cd)), (a_sr, (arI G n_sr f_sr)), (a_cd, (arI G n_cd f_cd)), (a_hd, (arI G n_hd f_hd)), (a_p, (oc6 8 5 a_pn e_p)), (a_pn, (arI G 40 f_p))] hP hD ?_
                                    clear hP hD
                                    intro hP hD
                                    refine lv_aload_n hx hb dX5_meetGlass_328 rfl (lv_at hl 8 rfl) ?_
                                    refine lv_dup hx hb dX5_meetGlass_329 rfl ?_
                                    refine va_get (D := G.1) (ci := 5) (v := .int e_we) (C := RX5) (T := TX5) (N := 13) hx hb hts inG_X5 hown hK hP 4 rfl rfl 7 (by decide +kernel) (hts _ fl_X5_49) (fun _ h9 => h9) rfl dX5_meetGlass_330 ?_
                                    refine W.eq (g2 := F0 m 333 ls [.int e_we, .ref a_k]) rfl ?_
                                    refine lv_iconst (v := 1) hx hb dX5_meetGlass_333 (by decide +kernel) ?_
                                    refine lv_iload hx hb dX5_meetGlass_334 (lv_at hl 4 rfl) ?_
                                    refine lv_ishl hx hb dX5_meetGlass_336 ?_
                                    refine lv_ior hx hb dX5_meetGlass_337 ?_
                                    refine va_put (D := G.1) (ci := 5) (v := .int (e_we ||| (1 <<< ((6 + z13) &&& 31)))) (ty := .int) (C := RX5) (T := TX5) (N := 13) hx hb hts inG_X5 tyX5 tyX5_ok nmX5 hown hK hP hD hS 4 rfl rfl 7 (by decide +kernel) (hts _ fl_X5_49) (fun _ h9 => h9) rfl (by decide +kernel) rfl rfl (Nat.le_of_ble_eq_true rfl) dX5_meetGlass_338 ?_
                                    clear hP hD hS
                                    intro H locs hP hD hS
                                    refine g5_rs [(a_g, (oc6 6 5 a_gn e_g)), (a_gn, (arI G 30 f_g)), (a_h, (oc1 e_wa e_le e_st e_fo e_lc a_l a_g a_b a_s a_p a_w e_gb a_bb)), (a_l, (arW G 6 f_l)), (a_k, (oc5 a_h a_j a_pt e_ln e_se e_lh ((e_br * (10 - z108)) / 10) (e_we ||| (1 <<< ((6 + z13) &&& 31))) (e_me ||| (1 <<< ((6 + z13) &&& 31))) e_ce (3 - e_wy) (e_ho - z82) 1)), (a_j, (oc2 a_as a_sk)), (a_as, (arI G 8 z22)), (a_sk, (arJ G 50 z90)), (a_lo, (oc3 e_cl a_hd a_sr a_cd)), (a_sr, (arI G n_sr f_sr)), (a_cd, (arI G n_cd f_cd)), (a_hd, (arI G n_hd f_hd)), (a_p, (oc6 8 5 a_pn e_p)), (a_pn, (arI G 40 f_p))] hP hD ?_
                                    clear hP hD
                                    intro hP hD
                                    refine W.eq (g2 := F0 m 341 ls []) rfl ?_
                                    refine lv_aload_n hx hb dX5_meetGlass_341 rfl (lv_at hl 8 rfl) ?_
                                    refine lv_iconst (v := 0) hx hb dX5_meetGlass_342 (by decide +kernel) ?_
                                    refine va_put (D := G.1) (ci := 5) (v := .int 0) (ty := .boolean) (C := RX5) (T := TX5) (N := 13) hx hb hts inG_X5 tyX5 tyX5_ok nmX5 hown hK hP hD hS 4 rfl rfl 12 (by decide +kernel) (hts _ fl_X5_56) (fun _ h9 => h9) rfl (by decide +kernel) rfl rfl (Nat.le_of_ble_eq_true rfl) dX5_meetGlass_343 ?_
                                    clear hP hD hS
                                    intro H locs hP hD hS
                                    refine g5_rs [(a_g, (oc6 6 5 a_gn e_g)), (a_gn, (arI G 30 f_g)), (a_h, (oc1 e_wa e_le e_st e_fo e_lc a_l a_g a_b a_s a_p a_w e_gb a_bb)), (a_l, (arW G 6 f_l)), (a_k, (oc5 a_h a_j a_pt e_ln e_se e_lh ((e_br * (10 - z108)) / 10) (e_we ||| (1 <<< ((6 + z13) &&& 31))) (e_me ||| (1 <<< ((6 + z13) &&& 31))) e_ce (3 - e_wy) (e_ho - z82) 0)), (a_j, (oc2 a_as a_sk)), (a_as, (arI G 8 z22)), (a_sk, (arJ G 50 z90)), (a_lo, (oc3 e_cl a_hd a_sr a_cd)), (a_sr, (arI G n_sr f_sr)), (a_cd, (arI G n_cd f_cd)), (a_hd, (arI G n_hd f_hd)), (a_p, (oc6 8 5 a_pn e_p)), (a_pn, (arI G 40 f_p))] hP hD ?_
                                    clear hP hD
                                    intro hP hD
                                    exact W.vret hx hb hr (fun t ht hW => ⟨⟨[(a_k, (oc5 a_h a_j a_pt e_ln e_se e_lh ((e_br * (10 - z108)) / 10) (e_we ||| (1 <<< ((6 + z13) &&& 31))) (e_me ||| (1 <<< ((6 + z13) &&& 31))) e_ce (3 - e_wy) (e_ho - z82) 0)), (a_h, (oc1 e_wa e_le e_st e_fo e_lc a_l a_g a_b a_s a_p a_w e_gb a_bb)), (a_g, (oc6 6 5 a_gn e_g)), (a_gn, (arI G 30 f_g)), (a_p, (oc6 8 5 a_pn e_p)), (a_pn, (arI G 40 f_p)), (a_j, (oc2 a_as a_sk)), (a_as, (arI G 8 z22)), (a_sk, (arJ G 50 z90)), (a_l, (arW G 6 f_l)), (a_lo, (oc3 e_cl a_hd a_sr a_cd)), (a_sr, (arI G n_sr f_sr)), (a_cd, (arI G n_cd f_cd)), (a_hd, (arI G n_hd f_hd))], rfl, Or.inr (⟨((e_br * (10 - z108)) / 10), (e_we ||| (1 <<< ((6 + z13) &&& 31))), (e_me ||| (1 <<< ((6 + z13) &&& 31))), (3 - e_wy), (e_ho - z82), z22, z90, ⟨by omega, by omega⟩, ⟨by omega, by omega⟩, ⟨by omega, by omega⟩, by rw [met_sc (du := 0) hGF hSF (by omega) hc1_20 rfl (by decide +kernel) e_f4, tn_3 hNS hV_84 (by omega) hV_110 rfl (by omega), nw_1 (so := z18) (by omega)], rfl⟩), by rw [ht]; exact hP.sub [4, 2, 0, 1, 12, 13, 5, 6, 7, 3, 8, 9, 10, 11] rfl, hD.sub [4, 2, 0, 1, 12, 13, 5, 6, 7, 3, 8, 9, 10, 11] (by decide +kernel) rfl⟩, hS.F ht⟩) hS.2.2 dX5_meetGlass_346
                                ·
                                  have i_115 : z18.toInt = 0 := g5_neN (a := z18.toInt) (b := 0) rfl (by decide +kernel) c_115
                                  refine lv_aload_n hx hb dX5_meetGlass_295 rfl (lv_at hl 8 rfl) ?_
                                  refine va_get (D := G.1) (ci := 5) (v := .int e_wy) (C := RX5) (T := TX5) (N := 13) hx hb hts inG_X5 hown hK hP 4 rfl rfl 10 (by decide +kernel) (hts _ fl_X5_30) (fun _ h9 => h9) rfl dX5_meetGlass_296 ?_
                                  refine lv_iconst (v := 1) hx hb dX5_meetGlass_299 (by decide +kernel) ?_
                                  refine lv_ixor hx hb dX5_meetGlass_300 ?_
                                  have hx_118 := (g_xor (w := e_wy) (by omega) (by omega)).1
                                  refine W.eq (g2 := F0 m 301 ls [.int (e_wy ^^^ 1), .ref a_k]) rfl ?_
                                  refine lv_goto (tgt := 325) hx hb dX5_meetGlass_301 (by decide +kernel) ?_
                                  refine va_put (D := G.1) (ci := 5) (v := .int (e_wy ^^^ 1)) (ty := .int) (C := RX5) (T := TX5) (N := 13) hx hb hts inG_X5 tyX5 tyX5_ok nmX5 hown hK hP hD hS 4 rfl rfl 10 (by decide +kernel) (hts _ fl_X5_30) (fun _ h9 => h9) rfl (by decide +kernel) rfl rfl (Nat.le_of_ble_eq_true rfl) dX5_meetGlass_325 ?_
                                  clear hP hD hS
                                  intro H locs hP hD hS
                                  refine g5_rs [(a_g, (oc6 6 5 a_gn e_g)), (a_gn, (arI G 30 f_g)), (a_h, (oc1 e_wa e_le e_st e_fo e_lc a_l a_g a_b a_s a_p a_w e_gb a_bb)), (a_l, (arW G 6 f_l)), (a_k, (oc5 a_h a_j a_pt e_ln e_se e_lh ((e_br * (10 - z108)) / 10) e_we (e_me ||| (1 <<< ((6 + z13) &&& 31))) e_ce (e_wy ^^^ 1) (e_ho - z82) 1)), (a_j, (oc2 a_as a_sk)), (a_as, (arI G 8 z22)), (a_sk, (arJ G 50 z90)), (a_lo, (oc3 e_cl a_hd a_sr a_cd)), (a_sr, (arI G n_sr f_sr)), (a_cd, (arI G n_cd f_cd)), (a_hd, (arI G n_hd f_hd)), (a_p, (oc6 8 5 a_pn e_p)), (a_pn, (arI G 40 f_p))] hP hD ?_
                                  clear hP hD
                                  intro hP hD
                                  refine lv_aload_n hx hb dX5_meetGlass_328 rfl (lv_at hl 8 rfl) ?_
                                  refine lv_dup hx hb dX5_meetGlass_329 rfl ?_
                                  refine va_get (D := G.1) (ci := 5) (v := .int e_we) (C := RX5) (T := TX5) (N := 13) hx hb hts inG_X5 hown hK hP 4 rfl rfl 7 (by decide +kernel) (hts _ fl_X5_49) (fun _ h9 => h9) rfl dX5_meetGlass_330 ?_
                                  refine W.eq (g2 := F0 m 333 ls [.int e_we, .ref a_k]) rfl ?_
                                  refine lv_iconst (v := 1) hx hb dX5_meetGlass_333 (by decide +kernel) ?_
                                  refine lv_iload hx hb dX5_meetGlass_334 (lv_at hl 4 rfl) ?_
                                  refine lv_ishl hx hb dX5_meetGlass_336 ?_
                                  refine lv_ior hx hb dX5_meetGlass_337 ?_
                                  refine va_put (D := G.1) (ci := 5) (v := .int (e_we ||| (1 <<< ((6 + z13) &&& 31)))) (ty := .int) (C := RX5) (T := TX5) (N := 13) hx hb hts inG_X5 tyX5 tyX5_ok nmX5 hown hK hP hD hS 4 rfl rfl 7 (by decide +kernel) (hts _ fl_X5_49) (fun _ h9 => h9) rfl (by decide +kernel) rfl rfl (Nat.le_of_ble_eq_true rfl) dX5_meetGlass_338 ?_
                                  clear hP hD hS
                                  intro H locs hP hD hS
                                  refine g5_rs [(a_g, (oc6 6 5 a_gn e_g)), (a_gn, (arI G 30 f_g)), (a_h, (oc1 e_wa e_le e_st e_fo e_lc a_l a_g a_b a_s a_p a_w e_gb a_bb)), (a_l, (arW G 6 f_l)), (a_k, (oc5 a_h a_j a_pt e_ln e_se e_lh ((e_br * (10 - z108)) / 10) (e_we ||| (1 <<< ((6 + z13) &&& 31))) (e_me ||| (1 <<< ((6 + z13) &&& 31))) e_ce (e_wy ^^^ 1) (e_ho - z82) 1)), (a_j, (oc2 a_as a_sk)), (a_as, (arI G 8 z22)), (a_sk, (arJ G 50 z90)), (a_lo, (oc3 e_cl a_hd a_sr a_cd)), (a_sr, (arI G n_sr f_sr)), (a_cd, (arI G n_cd f_cd)), (a_hd, (arI G n_hd f_hd)), (a_p, (oc6 8 5 a_pn e_p)), (a_pn, (arI G 40 f_p))] hP hD ?_
                                  clear hP hD
                                  intro hP hD
                                  refine W.eq (g2 := F0 m 341 ls []) rfl ?_
                                  refine lv_aload_n hx hb dX5_meetGlass_341 rfl (lv_at hl 8 rfl) ?_
                                  refine lv_iconst (v := 0) hx hb dX5_meetGlass_342 (by decide +kernel) ?_
                                  refine va_put (D := G.1) (ci := 5) (v := .int 0) (ty := .boolean) (C := RX5) (T := TX5) (N := 13) hx hb hts inG_X5 tyX5 tyX5_ok nmX5 hown hK hP hD hS 4 rfl rfl 12 (by decide +kernel) (hts _ fl_X5_56) (fun _ h9 => h9) rfl (by decide +kernel) rfl rfl (Nat.le_of_ble_eq_true rfl) dX5_meetGlass_343 ?_
                                  clear hP hD hS
                                  intro H locs hP hD hS
                                  refine g5_rs [(a_g, (oc6 6 5 a_gn e_g)), (a_gn, (arI G 30 f_g)), (a_h, (oc1 e_wa e_le e_st e_fo e_lc a_l a_g a_b a_s a_p a_w e_gb a_bb)), (a_l, (arW G 6 f_l)), (a_k, (oc5 a_h a_j a_pt e_ln e_se e_lh ((e_br * (10 - z108)) / 10) (e_we ||| (1 <<< ((6 + z13) &&& 31))) (e_me ||| (1 <<< ((6 + z13) &&& 31))) e_ce (e_wy ^^^ 1) (e_ho - z82) 0)), (a_j, (oc2 a_as a_sk)), (a_as, (arI G 8 z22)), (a_sk, (arJ G 50 z90)), (a_lo, (oc3 e_cl a_hd a_sr a_cd)), (a_sr, (arI G n_sr f_sr)), (a_cd, (arI G n_cd f_cd)), (a_hd, (arI G n_hd f_hd)), (a_p, (oc6 8 5 a_pn e_p)), (a_pn, (arI G 40 f_p))] hP hD ?_
                                  clear hP hD
                                  intro hP hD
                                  exact W.vret hx hb hr (fun t ht hW => ⟨⟨[(a_k, (oc5 a_h a_j a_pt e_ln e_se e_lh ((e_br * (10 - z108)) / 10) (e_we ||| (1 <<< ((6 + z13) &&& 31))) (e_me ||| (1 <<< ((6 + z13) &&& 31))) e_ce (e_wy ^^^ 1) (e_ho - z82) 0)), (a_h, (oc1 e_wa e_le e_st e_fo e_lc a_l a_g a_b a_s a_p a_w e_gb a_bb)), (a_g, (oc6 6 5 a_gn e_g)), (a_gn, (arI G 30 f_g)), (a_p, (oc6 8 5 a_pn e_p)), (a_pn, (arI G 40 f_p)), (a_j, (oc2 a_as a_sk)), (a_as, (arI G 8 z22)), (a_sk, (arJ G 50 z90)), (a_l, (arW G 6 f_l)), (a_lo, (oc3 e_cl a_hd a_sr a_cd)), (a_sr, (arI G n_sr f_sr)), (a_cd, (arI G n_cd f_cd)), (a_hd, (arI G n_hd f_hd))], rfl, Or.inr (⟨((e_br * (10 - z108)) / 10), (e_we ||| (1 <<< ((6 + z13) &&& 31))), (e_me ||| (1 <<< ((6 + z13) &&& 31))), (e_wy ^^^ 1), (e_ho - z82), z22, z90, ⟨by omega, by omega⟩, ⟨by omega, by omega⟩, ⟨by omega, by omega⟩, by rw [met_sc (du := 0) hGF hSF (by omega) hc1_20 rfl (by decide +kernel) e_f4, tn_3 hNS hV_84 (by omega) hV_110 rfl (by omega), nw_0 (so := z18) (by omega)], rfl⟩), by rw [ht]; exact hP.sub [4, 2, 0, 1, 12, 13, 5, 6, 7, 3, 8, 9, 10, 11] rfl, hD.sub [4, 2, 0, 1, 12, 13, 5, 6, 7, 3, 8, 9, 10, 11] (by decide +kernel) rfl⟩, hS.F ht⟩) hS.2.2 dX5_meetGlass_346
                              ·
                                have i_113 : ((e_br * (10 - z108)) / 10).toInt < e_le.toInt := g5_geN (a := ((e_br * (10 - z108)) / 10).toInt) (b := e_le.toInt) rfl rfl c_113
                                exact W.vret hx hb hr (fun t ht hW => ⟨⟨[(a_k, (oc5 a_h a_j a_pt e_ln e_se e_lh ((e_br * (10 - z108)) / 10) e_we (e_me ||| (1 <<< ((6 + z13) &&& 31))) e_ce e_wy e_ho 1)), (a_h, (oc1 e_wa e_le e_st e_fo e_lc a_l a_g a_b a_s a_p a_w e_gb a_bb)), (a_g, (oc6 6 5 a_gn e_g)), (a_gn, (arI G 30 f_g)), (a_p, (oc6 8 5 a_pn e_p)), (a_pn, (arI G 40 f_p)), (a_j, (oc2 a_as a_sk)), (a_as, (arI G 8 z22)), (a_sk, (arJ G 50 z90)), (a_l, (arW G 6 f_l)), (a_lo, (oc3 e_cl a_hd a_sr a_cd)), (a_sr, (arI G n_sr f_sr)), (a_cd, (arI G n_cd f_cd)), (a_hd, (arI G n_hd f_hd))], rfl, Or.inl (⟨((e_br * (10 - z108)) / 10), (e_me ||| (1 <<< ((6 + z13) &&& 31))), z22, z90, ⟨by omega, by omega⟩, by rw [met_sc (du := 0) hGF hSF (by omega) hc1_20 rfl (by decide +kernel) e_f4, tn_2 hNS hV_84 (by omega) hV_110 rfl (by omega)]; exact ⟨rfl, rfl, rfl⟩, rfl⟩), by rw [ht]; exact hP.sub [4, 2, 0, 1, 12, 13, 5, 6, 7, 3, 8, 9, 10, 11] rfl, hD.sub [4, 2, 0, 1, 12, 13, 5, 6, 7, 3, 8, 9, 10, 11] (by decide +kernel) rfl⟩, hS.F ht⟩) hS.2.2 dX5_meetGlass_277
                            ·
                              exact absurd c_106 (by decide +kernel)
                        ·
                          have i_86 : z82.toInt > e_ho.toInt := g5_leN (a := z82.toInt) (b := e_ho.toInt) rfl rfl c_86
                          exact W.vret hx hb hr (fun t ht hW => ⟨⟨[(a_k, (oc5 a_h a_j a_pt e_ln e_se e_lh e_br e_we (e_me ||| (1 <<< ((6 + z13) &&& 31))) e_ce e_wy e_ho 1)), (a_h, (oc1 e_wa e_le e_st e_fo e_lc a_l a_g a_b a_s a_p a_w e_gb a_bb)), (a_g, (oc6 6 5 a_gn e_g)), (a_gn, (arI G 30 f_g)), (a_p, (oc6 8 5 a_pn e_p)), (a_pn, (arI G 40 f_p)), (a_j, (oc2 a_as a_sk)), (a_as, (arI G 8 z22)), (a_sk, (arJ G 50 z39)), (a_l, (arW G 6 f_l)), (a_lo, (oc3 e_cl a_hd a_sr a_cd)), (a_sr, (arI G n_sr f_sr)), (a_cd, (arI G n_cd f_cd)), (a_hd, (arI G n_hd f_hd))], rfl, Or.inl (⟨e_br, (e_me ||| (1 <<< ((6 + z13) &&& 31))), z22, z39, h_e_br, by rw [met_sc (du := 0) hGF hSF (by omega) hc1_20 rfl (by decide +kernel) e_f4, tn_1 hNS hV_84 (by omega)]; exact ⟨rfl, rfl, rfl⟩, rfl⟩), by rw [ht]; exact hP.sub [4, 2, 0, 1, 12, 13, 5, 6, 7, 3, 8, 9, 10, 11] rfl, hD.sub [4, 2, 0, 1, 12, 13, 5, 6, 7, 3, 8, 9, 10, 11] (by decide +kernel) rfl⟩, hS.F ht⟩) hS.2.2 dX5_meetGlass_212
                      ·
                        exact absurd c_80 (by decide +kernel)
                  ·
                    have i_35 : z18.toInt ≥ 2 := g5_ltN (a := z18.toInt) (b := 2) rfl (by decide +kernel) c_35
                    refine lv_iload hx hb dX5_meetGlass_156 (lv_at hl 1 rfl) ?_
                    refine lv_iconst (v := 2) hx hb dX5_meetGlass_158 (by decide +kernel) ?_
                    refine lv_isub hx hb dX5_meetGlass_159 ?_
                    have t_119 : (z18 - 2).toInt = z18.toInt - 2 := g5_isub (a := z18.toInt) (b := 2) (by rfl) (by decide +kernel) (by omega) (by omega)
                    refine lv_aload_n hx hb dX5_meetGlass_160 rfl (lv_at hl 6 rfl) ?_
                    refine W.eq (g2 := F0 m 161 ls [.ref a_k, .int (z18 - 2)]) rfl ?_
                    refine va_get (D := G.1) (ci := 5) (v := .int e_wy) (C := RX5) (T := TX5) (N := 13) hx hb hts inG_X5 hown hK hP 4 rfl rfl 10 (by decide +kernel) (hts _ fl_X5_30) (fun _ h9 => h9) rfl dX5_meetGlass_161 ?_
                    refine lv_iconst (v := 2) hx hb dX5_meetGlass_164 (by decide +kernel) ?_
                    refine lv_ixor hx hb dX5_meetGlass_165 ?_
                    have hx_120 := (g_xor (w := e_wy) (by omega) (by omega)).2
                    refine lv_icmp_eq (tgt := 170) hx hb dX5_meetGlass_166 (by decide +kernel) (fun c_121 => ?_) (fun c_121 => ?_)
                    ·
                      have i_121 : (z18.toInt - 2) = (e_wy ^^^ 2).toInt := by have z := g5_eq (a := (z18 - 2).toInt) (b := (e_wy ^^^ 2).toInt) (by rfl) (by rfl) c_121; omega
                      have hNS : ¬ (False ∨ toldW g_w 2 (askQ (6 + z13) e_ce e_ho e_wy (-1) e_ln e_br) ≠ none ∨ (2 ≤ z18.toInt ∧ e_wy.toInt ≠ z18.toInt % 4)) := ns_of id (tW_of e_w (by decide +kernel) i_30) (fun q9 => by have q8 := wr_of (so := z18) (wy := e_wy) ⟨by omega, by omega⟩ ⟨by omega, by omega⟩; first | omega | (unfold gNe at *; omega))
                      refine lv_aload_n hx hb dX5_meetGlass_170 rfl (lv_at hl 6 rfl) ?_
                      refine va_get (D := G.1) (ci := 5) (v := .ref a_j) (C := RX5) (T := TX5) (N := 13) hx hb hts inG_X5 hown hK hP 4 rfl rfl 1 (by decide +kernel) (hts _ fl_X5_12) (fun _ h9 => h9) rfl dX5_meetGlass_171 ?_
                      refine lv_aload hx hb dX5_meetGlass_174 (lv_at hl 0 rfl) ?_
                      refine lv_iconst (v := 0) hx hb dX5_meetGlass_176 (by decide +kernel) ?_
                      refine W.eq (g2 := F0 m 177 ls [.int 0, .ref a_lo, .ref a_j]) rfl ?_
                      obtain ⟨hPc, hDc, hFc⟩ := g5_sub3 (wc := [(a_j, (oc2 a_as a_sk)), (a_as, (arI G 8 z22)), (a_sk, (arJ G 50 z31)), (a_lo, (oc3 e_cl a_hd a_sr a_cd)), (a_sr, (arI G n_sr f_sr)), (a_cd, (arI G n_cd f_cd)), (a_hd, (arI G n_hd f_hd))]) hP hD hS hA [7, 8, 9, 10, 11, 12, 13] (by decide +kernel) rfl
                      refine va_calli (va_runV (As := [.ref a_lo, .int 0]) (rest := []) ⟨hx, hb, hml, hown, hts⟩ (j_isHeldX l G a_j a_as a_sk a_lo a_sr a_cd a_hd H.size 0 e_cl z22 z31 f_sr f_cd f_hd (askQ (6 + z13) e_ce e_ho e_wy (-1) e_ln e_br) g_L n_sr n_cd n_hd h_e_cl (e_hn) (e_hs) (e_hk) (e_c) (i_21) (e_lw) (e_lv)) (cwV 2 hts gV_X5_124 rfl rfl rfl hv_X2_isHeld ⟨Nat.le_of_ble_eq_true rfl, Nat.le_of_ble_eq_true rfl⟩) (g5_preV hPc hK hDc hN hT hS hFc (ci := 2) (q0 := 0) rfl rfl) rfl rfl hl.1 rfl (lv_room (Nat.le_of_ble_eq_true rfl)) dX5_meetGlass_177 ⟨Nat.le_of_ble_eq_true rfl, Nat.le_of_ble_eq_true rfl⟩) hS (fun q _ h => hFc q h) hFc (fun r u t H locs ht hvm hw hB hz1 hk1 hS => ?_)
                      obtain ⟨hP1, hD1⟩ := hB
                      have hP1 := g5_ht ht hP1
                      rcases hw with ⟨z123, (i_122 : ∃ v : Int64, toldX g_L (0 : Int32).toInt (askQ (6 + z13) e_ce e_ho e_wy (-1) e_ln e_br) = some v ∧ ((0 : Int32).toInt < 2 → z123 0 = v)), rfl, rfl⟩ | ⟨z125, (i_124 : toldX g_L (0 : Int32).toInt (askQ (6 + z13) e_ce e_ho e_wy (-1) e_ln e_br) = none), rfl, rfl⟩
                      ·
                        have hJ9 := va_join (wr := [(a_g, (oc6 6 5 a_gn e_g)), (a_gn, (arI G 30 f_g)), (a_h, (oc1 e_wa e_le e_st e_fo e_lc a_l a_g a_b a_s a_p a_w e_gb a_bb)), (a_l, (arW G 6 f_l)), (a_k, (oc5 a_h a_j a_pt e_ln e_se e_lh e_br e_we (e_me ||| (1 <<< ((6 + z13) &&& 31))) e_ce e_wy e_ho 1)), (a_p, (oc6 8 5 a_pn e_p)), (a_pn, (arI G 40 f_p))]) hP hD [7, 8, 9, 10, 11, 12, 13] [0, 1, 2, 3, 4, 5, 6] rfl rfl (by decide +kernel) (by decide +kernel) hk1 hFc hP1 hD1
                        clear hP hD hPc hDc hFc ht hvm hz1 hk1 hP1 hD1
                        obtain ⟨hP, hD⟩ := hJ9
                        refine g5_rs [(a_g, (oc6 6 5 a_gn e_g)), (a_gn, (arI G 30 f_g)), (a_h, (oc1 e_wa e_le e_st e_fo e_lc a_l a_g a_b a_s a_p a_w e_gb a_bb)), (a_l, (arW G 6 f_l)), (a_k, (oc5 a_h a_j a_pt e_ln e_se e_lh e_br e_we (e_me ||| (1 <<< ((6 + z13) &&& 31))) e_ce e_wy e_ho 1)), (a_p, (oc6 8 5 a_pn e_p)), (a_pn, (arI G 40 f_p)), (a_j, (oc2 a_as a_sk)), (a_as, (arI G 8 z22)), (a_sk, (arJ G 50 z123)), (a_lo, (oc3 e_cl a_hd a_sr a_cd)), (a_sr, (arI G n_sr f_sr)), (a_cd, (arI G n_cd f_cd)), (a_hd, (arI G n_hd f_hd))] hP hD ?_
                        clear hP hD
                        intro hP hD
                        obtain ⟨v0_126, ht_126, hv_126⟩ := i_122
                        have hw_126 := hv_126 (by decide +kernel)
                        refine lv_if_eq (tgt := 195) hx hb dX5_meetGlass_180 (by decide +kernel) (fun c_127 => ?_) (fun c_127 => ?_)
                        ·
                          exact absurd c_127 (by decide +kernel)
                        ·
                          refine lv_aload_n hx hb dX5_meetGlass_183 rfl (lv_at hl 6 rfl) ?_
                          refine va_get (D := G.1) (ci := 5) (v := .ref a_j) (C := RX5) (T := TX5) (N := 13) hx hb hts inG_X5 hown hK hP 4 rfl rfl 1 (by decide +kernel) (hts _ fl_X5_12) (fun _ h9 => h9) rfl dX5_meetGlass_184 ?_
                          refine lv_bipush (v := 23) hx hb dX5_meetGlass_187 (by decide +kernel) ?_
                          obtain ⟨hPc, hDc, hFc⟩ := g5_sub3 (wc := [(a_j, (oc2 a_as a_sk)), (a_sk, (arJ G 50 z123))]) hP hD hS hA [7, 9] (by decide +kernel) rfl
                          refine va_calli (va_runV (As := [.int 23]) (rest := []) ⟨hx, hb, hml, hown, hts⟩ (j_toldX l G a_j a_sk a_as H.size 23 z123 ⟨by decide, by decide⟩) (cwV 1 hts gV_X5_134 rfl rfl rfl hv_X2_toldUpTo ⟨Nat.le_of_ble_eq_true rfl, Nat.le_of_ble_eq_true rfl⟩) (g5_preV hPc hK hDc hN hT hS hFc (ci := 2) (q0 := 0) rfl rfl) rfl rfl hl.1 rfl (lv_room (Nat.le_of_ble_eq_true rfl)) dX5_meetGlass_189 ⟨Nat.le_of_ble_eq_true rfl, Nat.le_of_ble_eq_true rfl⟩) hS (fun q _ h => hFc q h) hFc (fun r u t H locs ht hvm hw hB hz1 hk1 hS => ?_)
                          obtain ⟨hP1, hD1⟩ := hB
                          have hP1 := g5_ht ht hP1
                          obtain ⟨z130, (i_128 : 0 ≤ z130.toInt ∧ z130.toInt ≤ (23 : Int32).toInt), (i_129 : z130 = clampQ (z123 0) (23 : Int32)), y131, rfl⟩ := hw
                          have hJ9 := va_join (wr := [(a_g, (oc6 6 5 a_gn e_g)), (a_gn, (arI G 30 f_g)), (a_h, (oc1 e_wa e_le e_st e_fo e_lc a_l a_g a_b a_s a_p a_w e_gb a_bb)), (a_l, (arW G 6 f_l)), (a_k, (oc5 a_h a_j a_pt e_ln e_se e_lh e_br e_we (e_me ||| (1 <<< ((6 + z13) &&& 31))) e_ce e_wy e_ho 1)), (a_p, (oc6 8 5 a_pn e_p)), (a_pn, (arI G 40 f_p)), (a_as, (arI G 8 z22)), (a_lo, (oc3 e_cl a_hd a_sr a_cd)), (a_sr, (arI G n_sr f_sr)), (a_cd, (arI G n_cd f_cd)), (a_hd, (arI G n_hd f_hd))]) hP hD [7, 9] [0, 1, 2, 3, 4, 5, 6, 8, 10, 11, 12, 13] rfl rfl (by decide +kernel) (by decide +kernel) hk1 hFc hP1 hD1
                          clear hP hD hPc hDc hFc ht hvm hz1 hk1 hP1 hD1
                          obtain ⟨hP, hD⟩ := hJ9
                          refine g5_rs [(a_g, (oc6 6 5 a_gn e_g)), (a_gn, (arI G 30 f_g)), (a_h, (oc1 e_wa e_le e_st e_fo e_lc a_l a_g a_b a_s a_p a_w e_gb a_bb)), (a_l, (arW G 6 f_l)), (a_k, (oc5 a_h a_j a_pt e_ln e_se e_lh e_br e_we (e_me ||| (1 <<< ((6 + z13) &&& 31))) e_ce e_wy e_ho 1)), (a_p, (oc6 8 5 a_pn e_p)), (a_pn, (arI G 40 f_p)), (a_as, (arI G 8 z22)), (a_lo, (oc3 e_cl a_hd a_sr a_cd)), (a_sr, (arI G n_sr f_sr)), (a_cd, (arI G n_cd f_cd)), (a_hd, (arI G n_hd f_hd)), (a_j, (oc2 a_as a_sk)), (a_sk, (arJ G 50 z123))] hP hD ?_
                          clear hP hD
                          intro hP hD
                          refine g5_ti (v := z130) y131 ?_
                          refine W.eq (g2 := F0 m 192 ls [.int z130]) rfl ?_
                          refine lv_goto (tgt := 201) hx hb dX5_meetGlass_192 (by decide +kernel) ?_
                          have hV_132 : z130 = tellQ (toldW g_w 0 (askQ (6 + z13) e_ce e_ho e_wy (-1) e_ln e_br)) (f_ro (270 + 3 * z13.toInt.toNat + 2)) 23 := tell_s (tW_of e_w (by decide +kernel) ht_126) (by rw [i_129, hw_126])
                          have hr_132 : 0 ≤ z130.toInt ∧ z130.toInt ≤ 23 := ⟨by omega, by have zk : (23 : Int32).toInt = 23 := (by decide +kernel); omega⟩
                          refine lv_istore (lv' := [(7, .int z130), (6, .ref a_lo), (5, .int z18), (4, .int (6 + z13)), (3, .int z13), (2, .ref a_p), (1, .int (-1)), (0, .ref a_k)]) hx hb dX5_meetGlass_201 hl (by decide +kernel) rfl ?_
                          clear hl
                          intro ls hl
                          refine lv_iload hx hb dX5_meetGlass_203 (lv_at hl 0 rfl) ?_
                          refine lv_aload_n hx hb dX5_meetGlass_205 rfl (lv_at hl 7 rfl) ?_
                          refine va_get (D := G.1) (ci := 5) (v := .int e_ho) (C := RX5) (T := TX5) (N := 13) hx hb hts inG_X5 hown hK hP 4 rfl rfl 11 (by decide +kernel) (hts _ fl_X5_33) (fun _ h9 => h9) rfl dX5_meetGlass_206 ?_
                          refine W.eq (g2 := F0 m 209 ls [.int e_ho, .int z130]) rfl ?_
                          refine lv_icmp_le (tgt := 213) hx hb dX5_meetGlass_209 (by decide +kernel) (fun c_133 => ?_) (fun c_133 => ?_)
                          ·
                            have i_133 : z130.toInt ≤ e_ho.toInt := g5_le (a := z130.toInt) (b := e_ho.toInt) rfl rfl c_133
                            refine lv_aload_n hx hb dX5_meetGlass_213 rfl (lv_at hl 7 rfl) ?_
                            refine va_get (D := G.1) (ci := 5) (v := .ref a_j) (C := RX5) (T := TX5) (N := 13) hx hb hts inG_X5 hown hK hP 4 rfl rfl 1 (by decide +kernel) (hts _ fl_X5_12) (fun _ h9 => h9) rfl dX5_meetGlass_214 ?_
                            refine lv_aload hx hb dX5_meetGlass_217 (lv_at hl 1 rfl) ?_
                            refine lv_iconst (v := 1) hx hb dX5_meetGlass_219 (by decide +kernel) ?_
                            refine W.eq (g2 := F0 m 220 ls [.int 1, .ref a_lo, .ref a_j]) rfl ?_
                            obtain ⟨hPc, hDc, hFc⟩ := g5_sub3 (wc := [(a_j, (oc2 a_as a_sk)), (a_as, (arI G 8 z22)), (a_sk, (arJ G 50 z123)), (a_lo, (oc3 e_cl a_hd a_sr a_cd)), (a_sr, (arI G n_sr f_sr)), (a_cd, (arI G n_cd f_cd)), (a_hd, (arI G n_hd f_hd))]) hP hD hS hA [12, 7, 13, 8, 9, 10, 11] (by decide +kernel) rfl
                            refine va_calli (va_runV (As := [.ref a_lo, .int 1]) (rest := []) ⟨hx, hb, hml, hown, hts⟩ (j_isHeldX l G a_j a_as a_sk a_lo a_sr a_cd a_hd H.size 1 e_cl z22 z123 f_sr f_cd f_hd (askQ (6 + z13) e_ce e_ho e_wy (-1) e_ln e_br) g_L n_sr n_cd n_hd h_e_cl (e_hn) (e_hs) (e_hk) (e_c) (i_21) (e_lw) (e_lv)) (cwV 2 hts gV_X5_124 rfl rfl rfl hv_X2_isHeld ⟨Nat.le_of_ble_eq_true rfl, Nat.le_of_ble_eq_true rfl⟩) (g5_preV hPc hK hDc hN hT hS hFc (ci := 2) (q0 := 0) rfl rfl) rfl rfl hl.1 rfl (lv_room (Nat.le_of_ble_eq_true rfl)) dX5_meetGlass_220 ⟨Nat.le_of_ble_eq_true rfl, Nat.le_of_ble_eq_true rfl⟩) hS (fun q _ h => hFc q h) hFc (fun r u t H locs ht hvm hw hB hz1 hk1 hS => ?_)
                            obtain ⟨hP1, hD1⟩ := hB
                            have hP1 := g5_ht ht hP1
                            rcases hw with ⟨z135, (i_134 : ∃ v : Int64, toldX g_L (1 : Int32).toInt (askQ (6 + z13) e_ce e_ho e_wy (-1) e_ln e_br) = some v ∧ ((1 : Int32).toInt < 2 → z135 0 = v)), rfl, rfl⟩ | ⟨z137, (i_136 : toldX g_L (1 : Int32).toInt (askQ (6 + z13) e_ce e_ho e_wy (-1) e_ln e_br) = none), rfl, rfl⟩
                            ·
                              have hJ9 := va_join (wr := [(a_g, (oc6 6 5 a_gn e_g)), (a_gn, (arI G 30 f_g)), (a_h, (oc1 e_wa e_le e_st e_fo e_lc a_l a_g a_b a_s a_p a_w e_gb a_bb)), (a_l, (arW G 6 f_l)), (a_k, (oc5 a_h a_j a_pt e_ln e_se e_lh e_br e_we (e_me ||| (1 <<< ((6 + z13) &&& 31))) e_ce e_wy e_ho 1)), (a_p, (oc6 8 5 a_pn e_p)), (a_pn, (arI G 40 f_p))]) hP hD [12, 7, 13, 8, 9, 10, 11] [0, 1, 2, 3, 4, 5, 6] rfl rfl (by decide +kernel) (by decide +kernel) hk1 hFc hP1 hD1
                              clear hP hD hPc hDc hFc ht hvm hz1 hk1 hP1 hD1
                              obtain ⟨hP, hD⟩ := hJ9
                              refine g5_rs [(a_g, (oc6 6 5 a_gn e_g)), (a_gn, (arI G 30 f_g)), (a_h, (oc1 e_wa e_le e_st e_fo e_lc a_l a_g a_b a_s a_p a_w e_gb a_bb)), (a_l, (arW G 6 f_l)), (a_k, (oc5 a_h a_j a_pt e_ln e_se e_lh e_br e_we (e_me ||| (1 <<< ((6 + z13) &&& 31))) e_ce e_wy e_ho 1)), (a_p, (oc6 8 5 a_pn e_p)), (a_pn, (arI G 40 f_p)), (a_j, (oc2 a_as a_sk)), (a_as, (arI G 8 z22)), (a_sk, (arJ G 50 z135)), (a_lo, (oc3 e_cl a_hd a_sr a_cd)), (a_sr, (arI G n_sr f_sr)), (a_cd, (arI G n_cd f_cd)), (a_hd, (arI G n_hd f_hd))] hP hD ?_
                              clear hP hD
                              intro hP hD
                              obtain ⟨v1_138, ht_138, hv_138⟩ := i_134
                              have hw_138 := hv_138 (by decide +kernel)
                              refine lv_if_eq (tgt := 238) hx hb dX5_meetGlass_223 (by decide +kernel) (fun c_139 => ?_) (fun c_139 => ?_)
                              ·
                                exact absurd c_139 (by decide +kernel)
                              ·
                                refine lv_aload_n hx hb dX5_meetGlass_226 rfl (lv_at hl 7 rfl) ?_
                                refine va_get (D := G.1) (ci := 5) (v := .ref a_j) (C := RX5) (T := TX5) (N := 13) hx hb hts inG_X5 hown hK hP 4 rfl rfl 1 (by decide +kernel) (hts _ fl_X5_12) (fun _ h9 => h9) rfl dX5_meetGlass_227 ?_
                                refine lv_bipush (v := 10) hx hb dX5_meetGlass_230 (by decide +kernel) ?_
                                obtain ⟨hPc, hDc, hFc⟩ := g5_sub3 (wc := [(a_j, (oc2 a_as a_sk)), (a_sk, (arJ G 50 z135))]) hP hD hS hA [7, 9] (by decide +kernel) rfl
                                refine va_calli (va_runV (As := [.int 10]) (rest := []) ⟨hx, hb, hml, hown, hts⟩ (j_toldX l G a_j a_sk a_as H.size 10 z135 ⟨by decide, by decide⟩) (cwV 1 hts gV_X5_134 rfl rfl rfl hv_X2_toldUpTo ⟨Nat.le_of_ble_eq_true rfl, Nat.le_of_ble_eq_true rfl⟩) (g5_preV hPc hK hDc hN hT hS hFc (ci := 2) (q0 := 0) rfl rfl) rfl rfl hl.1 rfl (lv_room (Nat.le_of_ble_eq_true rfl)) dX5_meetGlass_232 ⟨Nat.le_of_ble_eq_true rfl, Nat.le_of_ble_eq_true rfl⟩) hS (fun q _ h => hFc q h) hFc (fun r u t H locs ht hvm hw hB hz1 hk1 hS => ?_)
                                obtain ⟨hP1, hD1⟩ := hB
                                have hP1 := g5_ht ht hP1
                                obtain ⟨z142, (i_140 : 0 ≤ z142.toInt ∧ z142.toInt ≤ (10 : Int32).toInt), (i_141 : z142 = clampQ (z135 0) (10 : Int32)), y143, rfl⟩ := hw
                                have hJ9 := va_join (wr := [(a_g, (oc6 6 5 a_gn e_g)), (a_gn, (arI G 30 f_g)), (a_h, (oc1 e_wa e_le e_st e_fo e_lc a_l a_g a_b a_s a_p a_w e_gb a_bb)), (a_l, (arW G 6 f_l)), (a_k, (oc5 a_h a_j a_pt e_ln e_se e_lh e_br e_we (e_me ||| (1 <<< ((6 + z13) &&& 31))) e_ce e_wy e_ho 1)), (a_p, (oc6 8 5 a_pn e_p)), (a_pn, (arI G 40 f_p)), (a_as, (arI G 8 z22)), (a_lo, (oc3 e_cl a_hd a_sr a_cd)), (a_sr, (arI G n_sr f_sr)), (a_cd, (arI G n_cd f_cd)), (a_hd, (arI G n_hd f_hd))]) hP hD [7, 9] [0, 1, 2, 3, 4, 5, 6, 8, 10, 11, 12, 13] rfl rfl (by decide +kernel) (by decide +kernel) hk1 hFc hP1 hD1
                                clear hP hD hPc hDc hFc ht hvm hz1 hk1 hP1 hD1
                                obtain ⟨hP, hD⟩ := hJ9
                                refine g5_rs [(a_g, (oc6 6 5 a_gn e_g)), (a_gn, (arI G 30 f_g)), (a_h, (oc1 e_wa e_le e_st e_fo e_lc a_l a_g a_b a_s a_p a_w e_gb a_bb)), (a_l, (arW G 6 f_l)), (a_k, (oc5 a_h a_j a_pt e_ln e_se e_lh e_br e_we (e_me ||| (1 <<< ((6 + z13) &&& 31))) e_ce e_wy e_ho 1)), (a_p, (oc6 8 5 a_pn e_p)), (a_pn, (arI G 40 f_p)), (a_as, (arI G 8 z22)), (a_lo, (oc3 e_cl a_hd a_sr a_cd)), (a_sr, (arI G n_sr f_sr)), (a_cd, (arI G n_cd f_cd)), (a_hd, (arI G n_hd f_hd)), (a_j, (oc2 a_as a_sk)), (a_sk, (arJ G 50 z135))] hP hD ?_
                                clear hP hD
                                intro hP hD
                                refine g5_ti (v := z142) y143 ?_
                                refine W.eq (g2 := F0 m 235 ls [.int z142]) rfl ?_
                                refine lv_goto (tgt := 244) hx hb dX5_meetGlass_235 (by decide +kernel) ?_
                                have hV_144 : z142 = tellQ (toldW g_w 1 (askQ (6 + z13) e_ce e_ho e_wy (-1) e_ln e_br)) (0) 10 := tell_s (tW_of e_w (by decide +kernel) ht_138) (by rw [i_141, hw_138])
                                have hr_144 : 0 ≤ z142.toInt ∧ z142.toInt ≤ 10 := ⟨by omega, by have zk : (10 : Int32).toInt = 10 := (by decide +kernel); omega⟩
                                refine lv_istore (lv' := [(8, .int z142), (7, .int z130), (6, .ref a_lo), (5, .int z18), (4, .int (6 + z13)), (3, .int z13), (2, .ref a_p), (1, .int (-1)), (0, .ref a_k)]) hx hb dX5_meetGlass_244 hl (by decide +kernel) rfl ?_
                                clear hl
                                intro ls hl
                                refine lv_aload_n hx hb dX5_meetGlass_246 rfl (lv_at hl 8 rfl) ?_
                                refine lv_aload_n hx hb dX5_meetGlass_247 rfl (lv_at hl 8 rfl) ?_
                                refine va_get (D := G.1) (ci := 5) (v := .int e_br) (C := RX5) (T := TX5) (N := 13) hx hb hts inG_X5 hown hK hP 4 rfl rfl 6 (by decide +kernel) (hts _ fl_X5_46) (fun _ h9 => h9) rfl dX5_meetGlass_248 ?_
                                refine W.eq (g2 := F0 m 251 ls [.int e_br, .ref a_k]) rfl ?_
                                refine lv_bipush (v := 10) hx hb dX5_meetGlass_251 (by decide +kernel) ?_
                                refine lv_iload hx hb dX5_meetGlass_253 (lv_at hl 0 rfl) ?_
                                refine lv_isub hx hb dX5_meetGlass_255 ?_
                                have t_145 : (10 - z142).toInt = 10 - z142.toInt := g5_isub (a := 10) (b := z142.toInt) (by decide +kernel) (by rfl) (by omega) (by omega)
                                refine lv_imul hx hb dX5_meetGlass_256 ?_
                                refine lv_bipush (v := 10) hx hb dX5_meetGlass_257 (by decide +kernel) ?_
                                refine W.eq (g2 := F0 m 259 ls [.int 10, .int (e_br * (10 - z142)), .ref a_k]) rfl ?_
                                refine lv_idiv hx hb dX5_meetGlass_259 (by decide +kernel) ?_
                                have hb_146 : 0 ≤ ((e_br * (10 - z142)) / 10).toInt ∧ ((e_br * (10 - z142)) / 10).toInt ≤ 1000000 := g_dust (by omega) (by omega)
                                refine va_put (D := G.1) (ci := 5) (v := .int ((e_br * (10 - z142)) / 10)) (ty := .int) (C := RX5) (T := TX5) (N := 13) hx hb hts inG_X5 tyX5 tyX5_ok nmX5 hown hK hP hD hS 4 rfl rfl 6 (by decide +kernel) (hts _ fl_X5_46) (fun _ h9 => h9) rfl (by decide +kernel) rfl rfl (Nat.le_of_ble_eq_true rfl) dX5_meetGlass_260 ?_
                                clear hP hD hS
                                intro H locs hP hD hS
                                refine g5_rs [(a_g, (oc6 6 5 a_gn e_g)), (a_gn, (arI G 30 f_g)), (a_h, (oc1 e_wa e_le e_st e_fo e_lc a_l a_g a_b a_s a_p a_w e_gb a_bb)), (a_l, (arW G 6 f_l)), (a_k, (oc5 a_h a_j a_pt e_ln e_se e_lh ((e_br * (10 - z142)) / 10) e_we (e_me ||| (1 <<< ((6 + z13) &&& 31))) e_ce e_wy e_ho 1)), (a_p, (oc6 8 5 a_pn e_p)), (a_pn, (arI G 40 f_p)), (a_as, (arI G 8 z22)), (a_lo, (oc3 e_cl a_hd a_sr a_cd)), (a_sr, (arI G n_sr f_sr)), (a_cd, (arI G n_cd f_cd)), (a_hd, (arI G n_hd f_hd)), (a_j, (oc2 a_as a_sk)), (a_sk, (arJ G 50 z135))] hP hD ?_
                                clear hP hD
                                intro hP hD
                                refine lv_aload_n hx hb dX5_meetGlass_263 rfl (lv_at hl 8 rfl) ?_
                                refine va_get (D := G.1) (ci := 5) (v := .int ((e_br * (10 - z142)) / 10)) (C := RX5) (T := TX5) (N := 13) hx hb hts inG_X5 hown hK hP 4 rfl rfl 6 (by decide +kernel) (hts _ fl_X5_46) (fun _ h9 => h9) rfl dX5_meetGlass_264 ?_
                                refine lv_aload_n hx hb dX5_meetGlass_267 rfl (lv_at hl 8 rfl) ?_
                                refine W.eq (g2 := F0 m 268 ls [.ref a_k, .int ((e_br * (10 - z142)) / 10)]) rfl ?_
                                refine va_get (D := G.1) (ci := 5) (v := .ref a_h) (C := RX5) (T := TX5) (N := 13) hx hb hts inG_X5 hown hK hP 4 rfl rfl 0 (by decide +kernel) (hts _ fl_X5_22) (fun _ h9 => h9) rfl dX5_meetGlass_268 ?_
                                refine va_get (D := G.1) (ci := 1) (v := .int e_le) (C := RX1) (T := TX1) (N := 13) hx hb hts inG_X1 hown hK hP 2 rfl rfl 1 (by decide +kernel) (hts _ fl_X5_138) (fun _ h9 => h9) rfl dX5_meetGlass_271 ?_
                                refine lv_icmp_ge (tgt := 278) hx hb dX5_meetGlass_274 (by decide +kernel) (fun c_147 => ?_) (fun c_147 => ?_)
                                ·
                                  have i_147 : ((e_br * (10 - z142)) / 10).toInt ≥ e_le.toInt := g5_ge (a := ((e_br * (10 - z142)) / 10).toInt) (b := e_le.toInt) rfl rfl c_147
                                  refine lv_aload_n hx hb dX5_meetGlass_278 rfl (lv_at hl 8 rfl) ?_
                                  refine lv_dup hx hb dX5_meetGlass_279 rfl ?_
                                  refine va_get (D := G.1) (ci := 5) (v := .int e_ho) (C := RX5) (T := TX5) (N := 13) hx hb hts inG_X5 hown hK hP 4 rfl rfl 11 (by decide +kernel) (hts _ fl_X5_33) (fun _ h9 => h9) rfl dX5_meetGlass_280 ?_
                                  refine lv_iload hx hb dX5_meetGlass_283 (lv_at hl 1 rfl) ?_
                                  refine W.eq (g2 := F0 m 285 ls [.int z130, .int e_ho, .ref a_k]) rfl ?_
                                  refine lv_isub hx hb dX5_meetGlass_285 ?_
                                  have t_148 : (e_ho - z130).toInt = e_ho.toInt - z130.toInt := g5_isub (a := e_ho.toInt) (b := z130.toInt) (by rfl) (by rfl) (by omega) (by omega)
                                  refine va_put (D := G.1) (ci := 5) (v := .int (e_ho - z130)) (ty := .int) (C := RX5) (T := TX5) (N := 13) hx hb hts inG_X5 tyX5 tyX5_ok nmX5 hown hK hP hD hS 4 rfl rfl 11 (by decide +kernel) (hts _ fl_X5_33) (fun _ h9 => h9) rfl (by decide +kernel) rfl rfl (Nat.le_of_ble_eq_true rfl) dX5_meetGlass_286 ?_
                                  clear hP hD hS
                                  intro H locs hP hD hS
                                  refine g5_rs [(a_g, (oc6 6 5 a_gn e_g)), (a_gn, (arI G 30 f_g)), (a_h, (oc1 e_wa e_le e_st e_fo e_lc a_l a_g a_b a_s a_p a_w e_gb a_bb)), (a_l, (arW G 6 f_l)), (a_k, (oc5 a_h a_j a_pt e_ln e_se e_lh ((e_br * (10 - z142)) / 10) e_we (e_me ||| (1 <<< ((6 + z13) &&& 31))) e_ce e_wy (e_ho - z130) 1)), (a_p, (oc6 8 5 a_pn e_p)), (a_pn, (arI G 40 f_p)), (a_as, (arI G 8 z22)), (a_lo, (oc3 e_cl a_hd a_sr a_cd)), (a_sr, (arI G n_sr f_sr)), (a_cd, (arI G n_cd f_cd)), (a_hd, (arI G n_hd f_hd)), (a_j, (oc2 a_as a_sk)), (a_sk, (arJ G 50 z135))] hP hD ?_
                                  clear hP hD
                                  intro hP hD
                                  refine lv_aload_n hx hb dX5_meetGlass_289 rfl (lv_at hl 8 rfl) ?_
                                  refine lv_iload hx hb dX5_meetGlass_290 (lv_at hl 3 rfl) ?_
                                  refine lv_if_ne (tgt := 304) hx hb dX5_meetGlass_292 (by decide +kernel) (fun c_149 => ?_) (fun c_149 => ?_)
                                  ·
                                    have n_149 : gNe (z18.toInt) (0) := g5_ne (a := z18.toInt) (b := 0) rfl (by decide +kernel) c_149
                                    refine lv_iload hx hb dX5_meetGlass_304 (lv_at hl 3 rfl) ?_
                                    refine lv_iconst (v := 1) hx hb dX5_meetGlass_306 (by decide +kernel) ?_
                                    refine lv_icmp_ne (tgt := 319) hx hb dX5_meetGlass_307 (by decide +kernel) (fun c_150 => ?_) (fun c_150 => ?_)
                                    ·
                                      have n_150 : gNe (z18.toInt) (1) := g5_ne (a := z18.toInt) (b := 1) rfl (by decide +kernel) c_150
                                      refine lv_aload_n hx hb dX5_meetGlass_319 rfl (lv_at hl 8 rfl) ?_
                                      refine va_get (D := G.1) (ci := 5) (v := .int e_wy) (C := RX5) (T := TX5) (N := 13) hx hb hts inG_X5 hown hK hP 4 rfl rfl 10 (by decide +kernel) (hts _ fl_X5_30) (fun _ h9 => h9) rfl dX5_meetGlass_320 ?_
                                      refine lv_iconst (v := 2) hx hb dX5_meetGlass_323 (by decide +kernel) ?_
                                      refine lv_ixor hx hb dX5_meetGlass_324 ?_
                                      have hx_151 := (g_xor (w := e_wy) (by omega) (by omega)).2
                                      refine W.eq (g2 := F0 m 325 ls [.int (e_wy ^^^ 2), .ref a_k]) rfl ?_
                                      refine va_put (D := G.1) (ci := 5) (v := .int (e_wy ^^^ 2)) (ty := .int) (C := RX5) (T := TX5) (N := 13) hx hb hts inG_X5 tyX5 tyX5_ok nmX5 hown hK hP hD hS 4 rfl rfl 10 (by decide +kernel) (hts _ fl_X5_30) (fun _ h9 => h9) rfl (by decide +kernel) rfl rfl (Nat.le_of_ble_eq_true rfl) dX5_meetGlass_325 ?_
                                      clear hP hD hS
                                      intro H locs hP hD hS
                                      refine g5_rs [(a_g, (oc6 6 5 a_gn e_g)), (a_gn, (arI G 30 f_g)), (a_h, (oc1 e_wa e_le e_st e_fo e_lc a_l a_g a_b a_s a_p a_w e_gb a_bb)), (a_l, (arW G 6 f_l)), (a_k, (oc5 a_h a_j a_pt e_ln e_se e_lh ((e_br * (10 - z142)) / 10) e_we (e_me ||| (1 <<< ((6 + z13) &&& 31))) e_ce (e_wy ^^^ 2) (e_ho - z130) 1)), (a_p, (oc6 8 5 a_pn e_p)), (a_pn, (arI G 40 f_p)), (a_as, (arI G 8 z22)), (a_lo, (oc3 e_cl a_hd a_sr a_cd)), (a_sr, (arI G n_sr f_sr)), (a_cd, (arI G n_cd f_cd)), (a_hd, (arI G n_hd f_hd)), (a_j, (oc2 a_as a_sk)), (a_sk, (arJ G 50 z135))] hP hD ?_
                                      clear hP hD
                                      intro hP hD
                                      refine lv_aload_n hx hb dX5_meetGlass_328 rfl (lv_at hl 8 rfl) ?_
                                      refine lv_dup hx hb dX5_meetGlass_329 rfl ?_
                                      refine va_get (D := G.1) (ci := 5) (v := .int e_we) (C := RX5) (T := TX5) (N := 13) hx hb hts inG_X5 hown hK hP 4 rfl rfl 7 (by decide +kernel) (hts _ fl_X5_49) (fun _ h9 => h9) rfl dX5_meetGlass_330 ?_
                                      refine lv_iconst (v := 1) hx hb dX5_meetGlass_333 (by decide +kernel) ?_
                                      refine W.eq (g2 := F0 m 334 ls [.int 1, .int e_we, .ref a_k]) rfl ?_
                                      refine lv_iload hx hb dX5_meetGlass_334 (lv_at hl 4 rfl) ?_
                                      refine lv_ishl hx hb dX5_meetGlass_336 ?_
                                      refine lv_ior hx hb dX5_meetGlass_337 ?_
                                      refine va_put (D := G.1) (ci := 5) (v := .int (e_we ||| (1 <<< ((6 + z13) &&& 31)))) (ty := .int) (C := RX5) (T := TX5) (N := 13) hx hb hts inG_X5 tyX5 tyX5_ok nmX5 hown hK hP hD hS 4 rfl rfl 7 (by decide +kernel) (hts _ fl_X5_49) (fun _ h9 => h9) rfl (by decide +kernel) rfl rfl (Nat.le_of_ble_eq_true rfl) dX5_meetGlass_338 ?_
                                      clear hP hD hS
                                      intro H locs hP hD hS
                                      refine g5_rs [(a_g, (oc6 6 5 a_gn e_g)), (a_gn, (arI G 30 f_g)), (a_h, (oc1 e_wa e_le e_st e_fo e_lc a_l a_g a_b a_s a_p a_w e_gb a_bb)), (a_l, (arW G 6 f_l)), (a_k, (oc5 a_h a_j a_pt e_ln e_se e_lh ((e_br * (10 - z142)) / 10) (e_we ||| (1 <<< ((6 + z13) &&& 31))) (e_me ||| (1 <<< ((6 + z13) &&& 31))) e_ce (e_wy ^^^ 2) (e_ho - z130) 1)), (a_p, (oc6 8 5 a_pn e_p)), (a_pn, (arI G 40 f_p)), (a_as, (arI G 8 z22)), (a_lo, (oc3 e_cl a_hd a_sr a_cd)), (a_sr, (arI G n_sr f_sr)), (a_cd, (arI G n_cd f_cd)), (a_hd, (arI G n_hd f_hd)), (a_j, (oc2 a_as a_sk)), (a_sk, (arJ G 50 z135))] hP hD ?_
                                      clear hP hD
                                      intro hP hD
                                      refine lv_aload_n hx hb dX5_meetGlass_341 rfl (lv_at hl 8 rfl) ?_
                                      refine W.eq (g2 := F0 m 342 ls [.ref a_k]) rfl ?_
                                      refine lv_iconst (v := 0) hx hb dX5_meetGlass_342 (by decide +kernel) ?_
                                      refine va_put (D := G.1) (ci := 5) (v := .int 0) (ty := .boolean) (C := RX5) (T := TX5) (N := 13) hx hb hts inG_X5 tyX5 tyX5_ok nmX5 hown hK hP hD hS 4 rfl rfl 12 (by decide +kernel) (hts _ fl_X5_56) (fun _ h9 => h9) rfl (by decide +kernel) rfl rfl (Nat.le_of_ble_eq_true rfl) dX5_meetGlass_343 ?_
                                      clear hP hD hS
                                      intro H locs hP hD hS
                                      refine g5_rs [(a_g, (oc6 6 5 a_gn e_g)), (a_gn, (arI G 30 f_g)), (a_h, (oc1 e_wa e_le e_st e_fo e_lc a_l a_g a_b a_s a_p a_w e_gb a_bb)), (a_l, (arW G 6 f_l)), (a_k, (oc5 a_h a_j a_pt e_ln e_se e_lh ((e_br * (10 - z142)) / 10) (e_we ||| (1 <<< ((6 + z13) &&& 31))) (e_me ||| (1 <<< ((6 + z13) &&& 31))) e_ce (e_wy ^^^ 2) (e_ho - z130) 0)), (a_p, (oc6 8 5 a_pn e_p)), (a_pn, (arI G 40 f_p)), (a_as, (arI G 8 z22)), (a_lo, (oc3 e_cl a_hd a_sr a_cd)), (a_sr, (arI G n_sr f_sr)), (a_cd, (arI G n_cd f_cd)), (a_hd, (arI G n_hd f_hd)), (a_j, (oc2 a_as a_sk)), (a_sk, (arJ G 50 z135))] hP hD ?_
                                      clear hP hD
                                      intro hP hD
                                      exact W.vret hx hb hr (fun t ht hW => ⟨⟨[(a_k, (oc5 a_h a_j a_pt e_ln e_se e_lh ((e_br * (10 - z142)) / 10) (e_we ||| (1 <<< ((6 + z13) &&& 31))) (e_me ||| (1 <<< ((6 + z13) &&& 31))) e_ce (e_wy ^^^ 2) (e_ho - z130) 0)), (a_h, (oc1 e_wa e_le e_st e_fo e_lc a_l a_g a_b a_s a_p a_w e_gb a_bb)), (a_g, (oc6 6 5 a_gn e_g)), (a_gn, (arI G 30 f_g)), (a_p, (oc6 8 5 a_pn e_p)), (a_pn, (arI G 40 f_p)), (a_j, (oc2 a_as a_sk)), (a_as, (arI G 8 z22)), (a_sk, (arJ G 50 z135)), (a_l, (arW G 6 f_l)), (a_lo, (oc3 e_cl a_hd a_sr a_cd)), (a_sr, (arI G n_sr f_sr)), (a_cd, (arI G n_cd f_cd)), (a_hd, (arI G n_hd f_hd))], rfl, Or.inr (⟨((e_br * (10 - z142)) / 10), (e_we ||| (1 <<< ((6 + z13) &&& 31))), (e_me ||| (1 <<< ((6 + z13) &&& 31))), (e_wy ^^^ 2), (e_ho - z130), z22, z135, ⟨by omega, by omega⟩, ⟨by omega, by omega⟩, ⟨by omega, by omega⟩, by rw [met_sc (du := 0) hGF hSF (by omega) hc1_20 rfl (by decide +kernel) e_f4, tn_3 hNS hV_132 (by omega) hV_144 rfl (by omega), nw_2 (so := z18) (by first | omega | (unfold gNe at *; omega)) (by first | omega | (unfold gNe at *; omega))], rfl⟩), by rw [ht]; exact hP.sub [4, 2, 0, 1, 5, 6, 12, 7, 13, 3, 8, 9, 10, 11] rfl, hD.sub [4, 2, 0, 1, 5, 6, 12, 7, 13, 3, 8, 9, 10, 11] (by decide +kernel) rfl⟩, hS.F ht⟩) hS.2.2 dX5_meetGlass_346
                                    ·
                                      have i_150 : z18.toInt = 1 := g5_neN (a := z18.toInt) (b := 1) rfl (by decide +kernel) c_150
                                      omega
                                  ·
                                    have i_149 : z18.toInt = 0 := g5_neN (a := z18.toInt) (b := 0) rfl (by decide +kernel) c_149
                                    omega
                                ·
                                  have i_147 : ((e_br * (10 - z142)) / 10).toInt < e_le.toInt := g5_geN (a := ((e_br * (10 - z142)) / 10).toInt) (b := e_le.toInt) rfl rfl c_147
                                  exact W.vret hx hb hr (fun t ht hW => ⟨⟨[(a_k, (oc5 a_h a_j a_pt e_ln e_se e_lh ((e_br * (10 - z142)) / 10) e_we (e_me ||| (1 <<< ((6 + z13) &&& 31))) e_ce e_wy e_ho 1)), (a_h, (oc1 e_wa e_le e_st e_fo e_lc a_l a_g a_b a_s a_p a_w e_gb a_bb)), (a_g, (oc6 6 5 a_gn e_g)), (a_gn, (arI G 30 f_g)), (a_p, (oc6 8 5 a_pn e_p)), (a_pn, (arI G 40 f_p)), (a_j, (oc2 a_as a_sk)), (a_as, (arI G 8 z22)), (a_sk, (arJ G 50 z135)), (a_l, (arW G 6 f_l)), (a_lo, (oc3 e_cl a_hd a_sr a_cd)), (a_sr, (arI G n_sr f_sr)), (a_cd, (arI G n_cd f_cd)), (a_hd, (arI G n_hd f_hd))], rfl, Or.inl (⟨((e_br * (10 - z142)) / 10), (e_me ||| (1 <<< ((6 + z13) &&& 31))), z22, z135, ⟨by omega, by omega⟩, by rw [met_sc (du := 0) hGF hSF (by omega) hc1_20 rfl (by decide +kernel) e_f4, tn_2 hNS hV_132 (by omega) hV_144 rfl (by omega)]; exact ⟨rfl, rfl, rfl⟩, rfl⟩), by rw [ht]; exact hP.sub [4, 2, 0, 1, 5, 6, 12, 7, 13, 3, 8, 9, 10, 11] rfl, hD.sub [4, 2, 0, 1, 5, 6, 12, 7, 13, 3, 8, 9, 10, 11] (by decide +kernel) rfl⟩, hS.F ht⟩) hS.2.2 dX5_meetGlass_277
                            ·
                              have hJ9 := va_join (wr := [(a_g, (oc6 6 5 a_gn e_g)), (a_gn, (arI G 30 f_g)), (a_h, (oc1 e_wa e_le e_st e_fo e_lc a_l a_g a_b a_s a_p a_w e_gb a_bb)), (a_l, (arW G 6 f_l)), (a_k, (oc5 a_h a_j a_pt e_ln e_se e_lh e_br e_we (e_me ||| (1 <<< ((6 + z13) &&& 31))) e_ce e_wy e_ho 1)), (a_p, (oc6 8 5 a_pn e_p)), (a_pn, (arI G 40 f_p))]) hP hD [12, 7, 13, 8, 9, 10, 11] [0, 1, 2, 3, 4, 5, 6] rfl rfl (by decide +kernel) (by decide +kernel) hk1 hFc hP1 hD1
                              clear hP hD hPc hDc hFc ht hvm hz1 hk1 hP1 hD1
                              obtain ⟨hP, hD⟩ := hJ9
                              refine g5_rs [(a_g, (oc6 6 5 a_gn e_g)), (a_gn, (arI G 30 f_g)), (a_h, (oc1 e_wa e_le e_st e_fo e_lc a_l a_g a_b a_s a_p a_w e_gb a_bb)), (a_l, (arW G 6 f_l)), (a_k, (oc5 a_h a_j a_pt e_ln e_se e_lh e_br e_we (e_me ||| (1 <<< ((6 + z13) &&& 31))) e_ce e_wy e_ho 1)), (a_p, (oc6 8 5 a_pn e_p)), (a_pn, (arI G 40 f_p)), (a_j, (oc2 a_as a_sk)), (a_as, (arI G 8 z22)), (a_sk, (arJ G 50 z137)), (a_lo, (oc3 e_cl a_hd a_sr a_cd)), (a_sr, (arI G n_sr f_sr)), (a_cd, (arI G n_cd f_cd)), (a_hd, (arI G n_hd f_hd))] hP hD ?_
                              clear hP hD
                              intro hP hD
                              refine lv_if_eq (tgt := 238) hx hb dX5_meetGlass_223 (by decide +kernel) (fun c_152 => ?_) (fun c_152 => ?_)
                              ·
                                refine lv_aload_n hx hb dX5_meetGlass_238 rfl (lv_at hl 5 rfl) ?_
                                refine lv_iload_n hx hb dX5_meetGlass_239 rfl (lv_at hl 4 rfl) ?_
                                refine lv_iconst (v := 3) hx hb dX5_meetGlass_240 (by decide +kernel) ?_
                                obtain ⟨hPc, hDc, hFc⟩ := g5_sub3 (wc := [(a_p, (oc6 8 5 a_pn e_p)), (a_pn, (arI G 40 f_p))]) hP hD hS hA [5, 6] (by decide +kernel) rfl
                                refine va_calli (va_runV (As := [.int z13, .int 3]) (rest := []) ⟨hx, hb, hml, hown, hts⟩ (t_get_P l G a_p a_pn H.size e_p z13 3 f_p h_e_p) (cwV 2 hts gV_X5_107 rfl rfl rfl hv_X6_get ⟨Nat.le_of_ble_eq_true rfl, Nat.le_of_ble_eq_true rfl⟩) (g5_preV hPc hK hDc hN hT hS hFc (ci := 6) (q0 := 0) rfl rfl) rfl rfl hl.1 rfl (lv_room (Nat.le_of_ble_eq_true rfl)) dX5_meetGlass_241 ⟨Nat.le_of_ble_eq_true rfl, Nat.le_of_ble_eq_true rfl⟩) hS (fun q _ h => hFc q h) hFc (fun r u t H locs ht hvm hw hB hz1 hk1 hS => ?_)
                                obtain ⟨hP1, hD1⟩ := hB
                                have hP1 := g5_ht ht hP1
                                obtain ⟨z154, (i_153 : z154 = tget f_p e_p.toInt 5 z13.toInt (3 : Int32).toInt), y155, rfl⟩ := hw
                                have hJ9 := va_join (wr := [(a_g, (oc6 6 5 a_gn e_g)), (a_gn, (arI G 30 f_g)), (a_h, (oc1 e_wa e_le e_st e_fo e_lc a_l a_g a_b a_s a_p a_w e_gb a_bb)), (a_l, (arW G 6 f_l)), (a_k, (oc5 a_h a_j a_pt e_ln e_se e_lh e_br e_we (e_me ||| (1 <<< ((6 + z13) &&& 31))) e_ce e_wy e_ho 1)), (a_j, (oc2 a_as a_sk)), (a_as, (arI G 8 z22)), (a_sk, (arJ G 50 z137)), (a_lo, (oc3 e_cl a_hd a_sr a_cd)), (a_sr, (arI G n_sr f_sr)), (a_cd, (arI G n_cd f_cd)), (a_hd, (arI G n_hd f_hd))]) hP hD [5, 6] [0, 1, 2, 3, 4, 7, 8, 9, 10, 11, 12, 13] rfl rfl (by decide +kernel) (by decide +kernel) hk1 hFc hP1 hD1
                                clear hP hD hPc hDc hFc ht hvm hz1 hk1 hP1 hD1
                                obtain ⟨hP, hD⟩ := hJ9
                                refine g5_rs [(a_g, (oc6 6 5 a_gn e_g)), (a_gn, (arI G 30 f_g)), (a_h, (oc1 e_wa e_le e_st e_fo e_lc a_l a_g a_b a_s a_p a_w e_gb a_bb)), (a_l, (arW G 6 f_l)), (a_k, (oc5 a_h a_j a_pt e_ln e_se e_lh e_br e_we (e_me ||| (1 <<< ((6 + z13) &&& 31))) e_ce e_wy e_ho 1)), (a_j, (oc2 a_as a_sk)), (a_as, (arI G 8 z22)), (a_sk, (arJ G 50 z137)), (a_lo, (oc3 e_cl a_hd a_sr a_cd)), (a_sr, (arI G n_sr f_sr)), (a_cd, (arI G n_cd f_cd)), (a_hd, (arI G n_hd f_hd)), (a_p, (oc6 8 5 a_pn e_p)), (a_pn, (arI G 40 f_p))] hP hD ?_
                                clear hP hD
                                intro hP hD
                                refine g5_ti (v := z154) y155 ?_
                                have hz3_156 := sp_z3 e_qp i_10 i_153
                                have hd_156 : z154 = 0 := Int32.toInt_inj.mp (hz3_156.trans (by decide +kernel))
                                have hV_156 : z154 = tellQ (toldW g_w 1 (askQ (6 + z13) e_ce e_ho e_wy (-1) e_ln e_br)) (0) 10 := hd_156.trans (tell_n (tW_of e_w (by decide +kernel) i_136))
                                refine W.eq (g2 := F0 m 244 ls [.int z154]) rfl ?_
                                refine lv_istore (lv' := [(8, .int z154), (7, .int z130), (6, .ref a_lo), (5, .int z18), (4, .int (6 + z13)), (3, .int z13), (2, .ref a_p), (1, .int (-1)), (0, .ref a_k)]) hx hb dX5_meetGlass_244 hl (by decide +kernel) rfl ?_
                                clear hl
                                intro ls hl
                                refine lv_aload_n hx hb dX5_meetGlass_246 rfl (lv_at hl 8 rfl) ?_
                                refine lv_aload_n hx hb dX5_meetGlass_247 rfl (lv_at hl 8 rfl) ?_
                                refine va_get (D := G.1) (ci := 5) (v := .int e_br) (C := RX5) (T := TX5) (N := 13) hx hb hts inG_X5 hown hK hP 4 rfl rfl 6 (by decide +kernel) (hts _ fl_X5_46) (fun _ h9 => h9) rfl dX5_meetGlass_248 ?_
                                refine lv_bipush (v := 10) hx hb dX5_meetGlass_251 (by decide +kernel) ?_
                                refine W.eq (g2 := F0 m 253 ls [.int 10, .int e_br, .ref a_k]) rfl ?_
                                refine lv_iload hx hb dX5_meetGlass_253 (lv_at hl 0 rfl) ?_
                                refine lv_isub hx hb dX5_meetGlass_255 ?_
                                have t_157 : (10 - z154).toInt = 10 - z154.toInt := g5_isub (a := 10) (b := z154.toInt) (by decide +kernel) (by rfl) (by omega) (by omega)
                                refine lv_imul hx hb dX5_meetGlass_256 ?_
                                refine lv_bipush (v := 10) hx hb dX5_meetGlass_257 (by decide +kernel) ?_
                                refine lv_idiv hx hb dX5_meetGlass_259 (by decide +kernel) ?_
                                have hb_158 : 0 ≤ ((e_br * (10 - z154)) / 10).toInt ∧ ((e_br * (10 - z154)) / 10).toInt ≤ 1000000 := g_dust (by omega) (by omega)
                                refine W.eq (g2 := F0 m 260 ls [.int ((e_br * (10 - z154)) / 10), .ref a_k]) rfl ?_
                                refine va_put (D := G.1) (ci := 5) (v := .int ((e_br * (10 - z154)) / 10)) (ty := .int) (C := RX5) (T := TX5) (N := 13) hx hb hts inG_X5 tyX5 tyX5_ok nmX5 hown hK hP hD hS 4 rfl rfl 6 (by decide +kernel) (hts _ fl_X5_46) (fun _ h9 => h9) rfl (by decide +kernel) rfl rfl (Nat.le_of_ble_eq_true rfl) dX5_meetGlass_260 ?_
                                clear hP hD hS
                                intro H locs hP hD hS
                                refine g5_rs [(a_g, (oc6 6 5 a_gn e_g)), (a_gn, (arI G 30 f_g)), (a_h, (oc1 e_wa e_le e_st e_fo e_lc a_l a_g a_b a_s a_p a_w e_gb a_bb)), (a_l, (arW G 6 f_l)), (a_k, (oc5 a_h a_j a_pt e_ln e_se e_lh ((e_br * (10 - z154)) / 10) e_we (e_me ||| (1 <<< ((6 + z13) &&& 31))) e_ce e_wy e_ho 1)), (a_j, (oc2 a_as a_sk)), (a_as, (arI G 8 z22)), (a_sk, (arJ G 50 z137)), (a_lo, (oc3 e_cl a_hd a_sr a_cd)), (a_sr, (arI G n_sr f_sr)), (a_cd, (arI G n_cd f_cd)), (a_hd, (arI G n_hd f_hd)), (a_p, (oc6 8 5 a_pn e_p)), (a_pn, (arI G 40 f_p))] hP hD ?_
                                clear hP hD
                                intro hP hD
                                refine lv_aload_n hx hb dX5_meetGlass_263 rfl (lv_at hl 8 rfl) ?_
                                refine va_get (D := G.1) (ci := 5) (v := .int ((e_br * (10 - z154)) / 10)) (C := RX5) (T := TX5) (N := 13) hx hb hts inG_X5 hown hK hP 4 rfl rfl 6 (by decide +kernel) (hts _ fl_X5_46) (fun _ h9 => h9) rfl dX5_meetGlass_264 ?_
                                refine lv_aload_n hx hb dX5_meetGlass_267 rfl (lv_at hl 8 rfl) ?_
                                refine va_get (D := G.1) (ci := 5) (v := .ref a_h) (C := RX5) (T := TX5) (N := 13) hx hb hts inG_X5 hown hK hP 4 rfl rfl 0 (by decide +kernel) (hts _ fl_X5_22) (fun _ h9 => h9) rfl dX5_meetGlass_268 ?_
                                refine W.eq (g2 := F0 m 271 ls [.ref a_h, .int ((e_br * (10 - z154)) / 10)]) rfl ?_
                                refine va_get (D := G.1) (ci := 1) (v := .int e_le) (C := RX1) (T := TX1) (N := 13) hx hb hts inG_X1 hown hK hP 2 rfl rfl 1 (by decide +kernel) (hts _ fl_X5_138) (fun _ h9 => h9) rfl dX5_meetGlass_271 ?_
                                refine lv_icmp_ge (tgt := 278) hx hb dX5_meetGlass_274 (by decide +kernel) (fun c_159 => ?_) (fun c_159 => ?_)
                                ·
                                  have i_159 : ((e_br * (10 - z154)) / 10).toInt ≥ e_le.toInt := g5_ge (a := ((e_br * (10 - z154)) / 10).toInt) (b := e_le.toInt) rfl rfl c_159
                                  refine lv_aload_n hx hb dX5_meetGlass_278 rfl (lv_at hl 8 rfl) ?_
                                  refine lv_dup hx hb dX5_meetGlass_279 rfl ?_
                                  refine va_get (D := G.1) (ci := 5) (v := .int e_ho) (C := RX5) (T := TX5) (N := 13) hx hb hts inG_X5 hown hK hP 4 rfl rfl 11 (by decide +kernel) (hts _ fl_X5_33) (fun _ h9 => h9) rfl dX5_meetGlass_280 ?_
                                  refine lv_iload hx hb dX5_meetGlass_283 (lv_at hl 1 rfl) ?_
                                  refine W.eq (g2 := F0 m 285 ls [.int z130, .int e_ho, .ref a_k]) rfl ?_
                                  refine lv_isub hx hb dX5_meetGlass_285 ?_
                                  have t_160 : (e_ho - z130).toInt = e_ho.toInt - z130.toInt := g5_isub (a := e_ho.toInt) (b := z130.toInt) (by rfl) (by rfl) (by omega) (by omega)
                                  refine va_put (D := G.1) (ci := 5) (v := .int (e_ho - z130)) (ty := .int) (C := RX5) (T := TX5) (N := 13) hx hb hts inG_X5 tyX5 tyX5_ok nmX5 hown hK hP hD hS 4 rfl rfl 11 (by decide +kernel) (hts _ fl_X5_33) (fun _ h9 => h9) rfl (by decide +kernel) rfl rfl (Nat.le_of_ble_eq_true rfl) dX5_meetGlass_286 ?_
                                  clear hP hD hS
                                  intro H locs hP hD hS
                                  refine g5_rs [(a_g, (oc6 6 5 a_gn e_g)), (a_gn, (arI G 30 f_g)), (a_h, (oc1 e_wa e_le e_st e_fo e_lc a_l a_g a_b a_s a_p a_w e_gb a_bb)), (a_l, (arW G 6 f_l)), (a_k, (oc5 a_h a_j a_pt e_ln e_se e_lh ((e_br * (10 - z154)) / 10) e_we (e_me ||| (1 <<< ((6 + z13) &&& 31))) e_ce e_wy (e_ho - z130) 1)), (a_j, (oc2 a_as a_sk)), (a_as, (arI G 8 z22)), (a_sk, (arJ G 50 z137)), (a_lo, (oc3 e_cl a_hd a_sr a_cd)), (a_sr, (arI G n_sr f_sr)), (a_cd, (arI G n_cd f_cd)), (a_hd, (arI G n_hd f_hd)), (a_p, (oc6 8 5 a_pn e_p)), (a_pn, (arI G 40 f_p))] hP hD ?_
                                  clear hP hD
                                  intro hP hD
                                  refine lv_aload_n hx hb dX5_meetGlass_289 rfl (lv_at hl 8 rfl) ?_
                                  refine lv_iload hx hb dX5_meetGlass_290 (lv_at hl 3 rfl) ?_
                                  refine lv_if_ne (tgt := 304) hx hb dX5_meetGlass_292 (by decide +kernel) (fun c_161 => ?_) (fun c_161 => ?_)
                                  ·
                                    have n_161 : gNe (z18.toInt) (0) := g5_ne (a := z18.toInt) (b := 0) rfl (by decide +kernel) c_161
                                    refine lv_iload hx hb dX5_meetGlass_304 (lv_at hl 3 rfl) ?_
                                    refine lv_iconst (v := 1) hx hb dX5_meetGlass_306 (by decide +kernel) ?_
                                    refine lv_icmp_ne (tgt := 319) hx hb dX5_meetGlass_307 (by decide +kernel) (fun c_162 => ?_) (fun c_162 => ?_)
                                    ·
                                      have n_162 : gNe (z18.toInt) (1) := g5_ne (a := z18.toInt) (b := 1) rfl (by decide +kernel) c_162
                                      refine lv_aload_n hx hb dX5_meetGlass_319 rfl (lv_at hl 8 rfl) ?_
                                      refine va_get (D := G.1) (ci := 5) (v := .int e_wy) (C := RX5) (T := TX5) (N := 13) hx hb hts inG_X5 hown hK hP 4 rfl rfl 10 (by decide +kernel) (hts _ fl_X5_30) (fun _ h9 => h9) rfl dX5_meetGlass_320 ?_
                                      refine lv_iconst (v := 2) hx hb dX5_meetGlass_323 (by decide +kernel) ?_
                                      refine lv_ixor hx hb dX5_meetGlass_324 ?_
                                      have hx_163 := (g_xor (w := e_wy) (by omega) (by omega)).2
                                      refine W.eq (g2 := F0 m 325 ls [.int (e_wy ^^^ 2), .ref a_k]) rfl ?_
                                      refine va_put (D := G.1) (ci := 5) (v := .int (e_wy ^^^ 2)) (ty := .int) (C := RX5) (T := TX5) (N := 13) hx hb hts inG_X5 tyX5 tyX5_ok nmX5 hown hK hP hD hS 4 rfl rfl 10 (by decide +kernel) (hts _ fl_X5_30) (fun _ h9 => h9) rfl (by decide +kernel) rfl rfl (Nat.le_of_ble_eq_true rfl) dX5_meetGlass_325 ?_
                                      clear hP hD hS
                                      intro H locs hP hD hS
                                      refine g5_rs [(a_g, (oc6 6 5 a_gn e_g)), (a_gn, (arI G 30 f_g)), (a_h, (oc1 e_wa e_le e_st e_fo e_lc a_l a_g a_b a_s a_p a_w e_gb a_bb)), (a_l, (arW G 6 f_l)), (a_k, (oc5 a_h a_j a_pt e_ln e_se e_lh ((e_br * (10 - z154)) / 10) e_we (e_me ||| (1 <<< ((6 + z13) &&& 31))) e_ce (e_wy ^^^ 2) (e_ho - z130) 1)), (a_j, (oc2 a_as a_sk)), (a_as, (arI G 8 z22)), (a_sk, (arJ G 50 z137)), (a_lo, (oc3 e_cl a_hd a_sr a_cd)), (a_sr, (arI G n_sr f_sr)), (a_cd, (arI G n_cd f_cd)), (a_hd, (arI G n_hd f_hd)), (a_p, (oc6 8 5 a_pn e_p)), (a_pn, (arI G 40 f_p))] hP hD ?_
                                      clear hP hD
                                      intro hP hD
                                      refine lv_aload_n hx hb dX5_meetGlass_328 rfl (lv_at hl 8 rfl) ?_
                                      refine lv_dup hx hb dX5_meetGlass_329 rfl ?_
                                      refine va_get (D := G.1) (ci := 5) (v := .int e_we) (C := RX5) (T := TX5) (N := 13) hx hb hts inG_X5 hown hK hP 4 rfl rfl 7 (by decide +kernel) (hts _ fl_X5_49) (fun _ h9 => h9) rfl dX5_meetGlass_330 ?_
                                      refine lv_iconst (v := 1) hx hb dX5_meetGlass_333 (by decide +kernel) ?_
                                      refine W.eq (g2 := F0 m 334 ls [.int 1, .int e_we, .ref a_k]) rfl ?_
                                      refine lv_iload hx hb dX5_meetGlass_334 (lv_at hl 4 rfl) ?_
                                      refine lv_ishl hx hb dX5_meetGlass_336 ?_
                                      refine lv_ior hx hb dX5_meetGlass_337 ?_
                                      refine va_put (D := G.1) (ci := 5) (v := .int (e_we ||| (1 <<< ((6 + z13) &&& 31)))) (ty := .int) (C := RX5) (T := TX5) (N := 13) hx hb hts inG_X5 tyX5 tyX5_ok nmX5 hown hK hP hD hS 4 rfl rfl 7 (by decide +kernel) (hts _ fl_X5_49) (fun _ h9 => h9) rfl (by decide +kernel) rfl rfl (Nat.le_of_ble_eq_true rfl) dX5_meetGlass_338 ?_
                                      clear hP hD hS
                                      intro H locs hP hD hS
                                      refine g5_rs [(a_g, (oc6 6 5 a_gn e_g)), (a_gn, (arI G 30 f_g)), (a_h, (oc1 e_wa e_le e_st e_fo e_lc a_l a_g a_b a_s a_p a_w e_gb a_bb)), (a_l, (arW G 6 f_l)), (a_k, (oc5 a_h a_j a_pt e_ln e_se e_lh ((e_br * (10 - z154)) / 10) (e_we ||| (1 <<< ((6 + z13) &&& 31))) (e_me ||| (1 <<< ((6 + z13) &&& 31))) e_ce (e_wy ^^^ 2) (e_ho - z130) 1)), (a_j, (oc2 a_as a_sk)), (a_as, (arI G 8 z22)), (a_sk, (arJ G 50 z137)), (a_lo, (oc3 e_cl a_hd a_sr a_cd)), (a_sr, (arI G n_sr f_sr)), (a_cd, (arI G n_cd f_cd)), (a_hd, (arI G n_hd f_hd)), (a_p, (oc6 8 5 a_pn e_p)), (a_pn, (arI G 40 f_p))] hP hD ?_
                                      clear hP hD
                                      intro hP hD
                                      refine lv_aload_n hx hb dX5_meetGlass_341 rfl (lv_at hl 8 rfl) ?_
                                      refine W.eq (g2 := F0 m 342 ls [.ref a_k]) rfl ?_
                                      refine lv_iconst (v := 0) hx hb dX5_meetGlass_342 (by decide +kernel) ?_
                                      refine va_put (D := G.1) (ci := 5) (v := .int 0) (ty := .boolean) (C := RX5) (T := TX5) (N := 13) hx hb hts inG_X5 tyX5 tyX5_ok nmX5 hown hK hP hD hS 4 rfl rfl 12 (by decide +kernel) (hts _ fl_X5_56) (fun _ h9 => h9) rfl (by decide +kernel) rfl rfl (Nat.le_of_ble_eq_true rfl) dX5_meetGlass_343 ?_
                                      clear hP hD hS
                                      intro H locs hP hD hS
                                      refine g5_rs [(a_g, (oc6 6 5 a_gn e_g)), (a_gn, (arI G 30 f_g)), (a_h, (oc1 e_wa e_le e_st e_fo e_lc a_l a_g a_b a_s a_p a_w e_gb a_bb)), (a_l, (arW G 6 f_l)), (a_k, (oc5 a_h a_j a_pt e_ln e_se e_lh ((e_br * (10 - z154)) / 10) (e_we ||| (1 <<< ((6 + z13) &&& 31))) (e_me ||| (1 <<< ((6 + z13) &&& 31))) e_ce (e_wy ^^^ 2) (e_ho - z130) 0)), (a_j, (oc2 a_as a_sk)), (a_as, (arI G 8 z22)), (a_sk, (arJ G 50 z137)), (a_lo, (oc3 e_cl a_hd a_sr a_cd)), (a_sr, (arI G n_sr f_sr)), (a_cd, (arI G n_cd f_cd)), (a_hd, (arI G n_hd f_hd)), (a_p, (oc6 8 5 a_pn e_p)), (a_pn, (arI G 40 f_p))] hP hD ?_
                                      clear hP hD
                                      intro hP hD
                                      exact W.vret hx hb hr (fun t ht hW => ⟨⟨[(a_k, (oc5 a_h a_j a_pt e_ln e_se e_lh ((e_br * (10 - z154)) / 10) (e_we ||| (1 <<< ((6 + z13) &&& 31))) (e_me ||| (1 <<< ((6 + z13) &&& 31))) e_ce (e_wy ^^^ 2) (e_ho - z130) 0)), (a_h, (oc1 e_wa e_le e_st e_fo e_lc a_l a_g a_b a_s a_p a_w e_gb a_bb)), (a_g, (oc6 6 5 a_gn e_g)), (a_gn, (arI G 30 f_g)), (a_p, (oc6 8 5 a_pn e_p)), (a_pn, (arI G 40 f_p)), (a_j, (oc2 a_as a_sk)), (a_as, (arI G 8 z22)), (a_sk, (arJ G 50 z137)), (a_l, (arW G 6 f_l)), (a_lo, (oc3 e_cl a_hd a_sr a_cd)), (a_sr, (arI G n_sr f_sr)), (a_cd, (arI G n_cd f_cd)), (a_hd, (arI G n_hd f_hd))], rfl, Or.inr (⟨((e_br * (10 - z154)) / 10), (e_we ||| (1 <<< ((6 + z13) &&& 31))), (e_me ||| (1 <<< ((6 + z13) &&& 31))), (e_wy ^^^ 2), (e_ho - z130), z22, z137, ⟨by omega, by omega⟩, ⟨by omega, by omega⟩, ⟨by omega, by omega⟩, by rw [met_sc (du := 0) hGF hSF (by omega) hc1_20 rfl (by decide +kernel) e_f4, tn_3 hNS hV_132 (by omega) hV_156 rfl (by omega), nw_2 (so := z18) (by first | omega | (unfold gNe at *; omega)) (by first | omega | (unfold gNe at *; omega))], rfl⟩), by rw [ht]; exact hP.sub [4, 2, 0, 1, 12, 13, 5, 6, 7, 3, 8, 9, 10, 11] rfl, hD.sub [4, 2, 0, 1, 12, 13, 5, 6, 7, 3, 8, 9, 10, 11] (by decide +kernel) rfl⟩, hS.F ht⟩) hS.2.2 dX5_meetGlass_346
                                    ·
                                      have i_162 : z18.toInt = 1 := g5_neN (a := z18.toInt) (b := 1) rfl (by decide +kernel) c_162
                                      omega
                                  ·
                                    have i_161 : z18.toInt = 0 := g5_neN (a := z18.toInt) (b := 0) rfl (by decide +kernel) c_161
                                    omega
                                ·
                                  have i_159 : ((e_br * (10 - z154)) / 10).toInt < e_le.toInt := g5_geN (a := ((e_br * (10 - z154)) / 10).toInt) (b := e_le.toInt) rfl rfl c_159
                                  exact W.vret hx hb hr (fun t ht hW => ⟨⟨[(a_k, (oc5 a_h a_j a_pt e_ln e_se e_lh ((e_br * (10 - z154)) / 10) e_we (e_me ||| (1 <<< ((6 + z13) &&& 31))) e_ce e_wy e_ho 1)), (a_h, (oc1 e_wa e_le e_st e_fo e_lc a_l a_g a_b a_s a_p a_w e_gb a_bb)), (a_g, (oc6 6 5 a_gn e_g)), (a_gn, (arI G 30 f_g)), (a_p, (oc6 8 5 a_pn e_p)), (a_pn, (arI G 40 f_p)), (a_j, (oc2 a_as a_sk)), (a_as, (arI G 8 z22)), (a_sk, (arJ G 50 z137)), (a_l, (arW G 6 f_l)), (a_lo, (oc3 e_cl a_hd a_sr a_cd)), (a_sr, (arI G n_sr f_sr)), (a_cd, (arI G n_cd f_cd)), (a_hd, (arI G n_hd f_hd))], rfl, Or.inl (⟨((e_br * (10 - z154)) / 10), (e_me ||| (1 <<< ((6 + z13) &&& 31))), z22, z137, ⟨by omega, by omega⟩, by rw [met_sc (du := 0) hGF hSF (by omega) hc1_20 rfl (by decide +kernel) e_f4, tn_2 hNS hV_132 (by omega) hV_156 rfl (by omega)]; exact ⟨rfl, rfl, rfl⟩, rfl⟩), by rw [ht]; exact hP.sub [4, 2, 0, 1, 12, 13, 5, 6, 7, 3, 8, 9, 10, 11] rfl, hD.sub [4, 2, 0, 1, 12, 13, 5, 6, 7, 3, 8, 9, 10, 11] (by decide +kernel) rfl⟩, hS.F ht⟩) hS.2.2 dX5_meetGlass_277
                              ·
                                exact absurd c_152 (by decide +kernel)
                          ·
                            have i_133 : z130.toInt > e_ho.toInt := g5_leN (a := z130.toInt) (b := e_ho.toInt) rfl rfl c_133
                            exact W.vret hx hb hr (fun t ht hW => ⟨⟨[(a_k, (oc5 a_h a_j a_pt e_ln e_se e_lh e_br e_we (e_me ||| (1 <<< ((6 + z13) &&& 31))) e_ce e_wy e_ho 1)), (a_h, (oc1 e_wa e_le e_st e_fo e_lc a_l a_g a_b a_s a_p a_w e_gb a_bb)), (a_g, (oc6 6 5 a_gn e_g)), (a_gn, (arI G 30 f_g)), (a_p, (oc6 8 5 a_pn e_p)), (a_pn, (arI G 40 f_p)), (a_j, (oc2 a_as a_sk)), (a_as, (arI G 8 z22)), (a_sk, (arJ G 50 z123)), (a_l, (arW G 6 f_l)), (a_lo, (oc3 e_cl a_hd a_sr a_cd)), (a_sr, (arI G n_sr f_sr)), (a_cd, (arI G n_cd f_cd)), (a_hd, (arI G n_hd f_hd))], rfl, Or.inl (⟨e_br, (e_me ||| (1 <<< ((6 + z13) &&& 31))), z22, z123, h_e_br, by rw [met_sc (du := 0) hGF hSF (by omega) hc1_20 rfl (by decide +kernel) e_f4, tn_1 hNS hV_132 (by omega)]; exact ⟨rfl, rfl, rfl⟩, rfl⟩), by rw [ht]; exact hP.sub [4, 2, 0, 1, 5, 6, 12, 7, 13, 3, 8, 9, 10, 11] rfl, hD.sub [4, 2, 0, 1, 5, 6, 12, 7, 13, 3, 8, 9, 10, 11] (by decide +kernel) rfl⟩, hS.F ht⟩) hS.2.2 dX5_meetGlass_212
                      ·
                        have hJ9 := va_join (wr := [(a_g, (oc6 6 5 a_gn e_g)), (a_gn, (arI G 30 f_g)), (a_h, (oc1 e_wa e_le e_st e_fo e_lc a_l a_g a_b a_s a_p a_w e_gb a_bb)), (a_l, (arW G 6 f_l)), (a_k, (oc5 a_h a_j a_pt e_ln e_se e_lh e_br e_we (e_me ||| (1 <<< ((6 + z13) &&& 31))) e_ce e_wy e_ho 1)), (a_p, (oc6 8 5 a_pn e_p)), (a_pn, (arI G 40 f_p))]) hP hD [7, 8, 9, 10, 11, 12, 13] [0, 1, 2, 3, 4, 5, 6] rfl rfl (by decide +kernel) (by decide +kernel) hk1 hFc hP1 hD1
                        clear hP hD hPc hDc hFc ht hvm hz1 hk1 hP1 hD1
                        obtain ⟨hP, hD⟩ := hJ9
                        refine g5_rs [(a_g, (oc6 6 5 a_gn e_g)), (a_gn, (arI G 30 f_g)), (a_h, (oc1 e_wa e_le e_st e_fo e_lc a_l a_g a_b a_s a_p a_w e_gb a_bb)), (a_l, (arW G 6 f_l)), (a_k, (oc5 a_h a_j a_pt e_ln e_se e_lh e_br e_we (e_me ||| (1 <<< ((6 + z13) &&& 31))) e_ce e_wy e_ho 1)), (a_p, (oc6 8 5 a_pn e_p)), (a_pn, (arI G 40 f_p)), (a_j, (oc2 a_as a_sk)), (a_as, (arI G 8 z22)), (a_sk, (arJ G 50 z125)), (a_lo, (oc3 e_cl a_hd a_sr a_cd)), (a_sr, (arI G n_sr f_sr)), (a_cd, (arI G n_cd f_cd)), (a_hd, (arI G n_hd f_hd))] hP hD ?_
                        clear hP hD
                        intro hP hD
                        refine lv_if_eq (tgt := 195) hx hb dX5_meetGlass_180 (by decide +kernel) (fun c_164 => ?_) (fun c_164 => ?_)
                        ·
                          refine lv_aload_n hx hb dX5_meetGlass_195 rfl (lv_at hl 4 rfl) ?_
                          refine lv_iload_n hx hb dX5_meetGlass_196 rfl (lv_at hl 3 rfl) ?_
                          refine lv_iconst (v := 2) hx hb dX5_meetGlass_197 (by decide +kernel) ?_
                          obtain ⟨hPc, hDc, hFc⟩ := g5_sub3 (wc := [(a_p, (oc6 8 5 a_pn e_p)), (a_pn, (arI G 40 f_p))]) hP hD hS hA [5, 6] (by decide +kernel) rfl
                          refine va_calli (va_runV (As := [.int z13, .int 2]) (rest := []) ⟨hx, hb, hml, hown, hts⟩ (t_get_P l G a_p a_pn H.size e_p z13 2 f_p h_e_p) (cwV 2 hts gV_X5_107 rfl rfl rfl hv_X6_get ⟨Nat.le_of_ble_eq_true rfl, Nat.le_of_ble_eq_true rfl⟩) (g5_preV hPc hK hDc hN hT hS hFc (ci := 6) (q0 := 0) rfl rfl) rfl rfl hl.1 rfl (lv_room (Nat.le_of_ble_eq_true rfl)) dX5_meetGlass_198 ⟨Nat.le_of_ble_eq_true rfl, Nat.le_of_ble_eq_true rfl⟩) hS (fun q _ h => hFc q h) hFc (fun r u t H locs ht hvm hw hB hz1 hk1 hS => ?_)
                          obtain ⟨hP1, hD1⟩ := hB
                          have hP1 := g5_ht ht hP1
                          obtain ⟨z166, (i_165 : z166 = tget f_p e_p.toInt 5 z13.toInt (2 : Int32).toInt), y167, rfl⟩ := hw
                          have hJ9 := va_join (wr := [(a_g, (oc6 6 5 a_gn e_g)), (a_gn, (arI G 30 f_g)), (a_h, (oc1 e_wa e_le e_st e_fo e_lc a_l a_g a_b a_s a_p a_w e_gb a_bb)), (a_l, (arW G 6 f_l)), (a_k, (oc5 a_h a_j a_pt e_ln e_se e_lh e_br e_we (e_me ||| (1 <<< ((6 + z13) &&& 31))) e_ce e_wy e_ho 1)), (a_j, (oc2 a_as a_sk)), (a_as, (arI G 8 z22)), (a_sk, (arJ G 50 z125)), (a_lo, (oc3 e_cl a_hd a_sr a_cd)), (a_sr, (arI G n_sr f_sr)), (a_cd, (arI G n_cd f_cd)), (a_hd, (arI G n_hd f_hd))]) hP hD [5, 6] [0, 1, 2, 3, 4, 7, 8, 9, 10, 11, 12, 13] rfl rfl (by decide +kernel) (by decide +kernel) hk1 hFc hP1 hD1
                          clear hP hD hPc hDc hFc ht hvm hz1 hk1 hP1 hD1
                          obtain ⟨hP, hD⟩ := hJ9
                          refine g5_rs [(a_g, (oc6 6 5 a_gn e_g)), (a_gn, (arI G 30 f_g)), (a_h, (oc1 e_wa e_le e_st e_fo e_lc a_l a_g a_b a_s a_p a_w e_gb a_bb)), (a_l, (arW G 6 f_l)), (a_k, (oc5 a_h a_j a_pt e_ln e_se e_lh e_br e_we (e_me ||| (1 <<< ((6 + z13) &&& 31))) e_ce e_wy e_ho 1)), (a_j, (oc2 a_as a_sk)), (a_as, (arI G 8 z22)), (a_sk, (arJ G 50 z125)), (a_lo, (oc3 e_cl a_hd a_sr a_cd)), (a_sr, (arI G n_sr f_sr)), (a_cd, (arI G n_cd f_cd)), (a_hd, (arI G n_hd f_hd)), (a_p, (oc6 8 5 a_pn e_p)), (a_pn, (arI G 40 f_p))] hP hD ?_
                          clear hP hD
                          intro hP hD
                          refine g5_ti (v := z166) y167 ?_
                          have hc2_169 := sp_col (k := 2) e_qp i_10 i_165 (by decide +kernel) (by omega)
                          have hg_169 : 0 ≤ z166.toInt ∧ z166.toInt ≤ 23 := by rw [i_165]; exact (e_pk z13.toInt (by omega) (by omega)).2.2.1
                          have hV_168 : z166 = tellQ (toldW g_w 0 (askQ (6 + z13) e_ce e_ho e_wy (-1) e_ln e_br)) (f_ro (270 + 3 * z13.toInt.toNat + 2)) 23 := hc2_169.symm.trans (tell_n (tW_of e_w (by decide +kernel) i_124))
                          refine W.eq (g2 := F0 m 201 ls [.int z166]) rfl ?_
                          refine lv_istore (lv' := [(7, .int z166), (6, .ref a_lo), (5, .int z18), (4, .int (6 + z13)), (3, .int z13), (2, .ref a_p), (1, .int (-1)), (0, .ref a_k)]) hx hb dX5_meetGlass_201 hl (by decide +kernel) rfl ?_
                          clear hl
                          intro ls hl
                          refine lv_iload hx hb dX5_meetGlass_203 (lv_at hl 0 rfl) ?_
                          refine lv_aload_n hx hb dX5_meetGlass_205 rfl (lv_at hl 7 rfl) ?_
                          refine va_get (D := G.1) (ci := 5) (v := .int e_ho) (C := RX5) (T := TX5) (N := 13) hx hb hts inG_X5 hown hK hP 4 rfl rfl 11 (by decide +kernel) (hts _ fl_X5_33) (fun _ h9 => h9) rfl dX5_meetGlass_206 ?_
                          refine lv_icmp_le (tgt := 213) hx hb dX5_meetGlass_209 (by decide +kernel) (fun c_170 => ?_) (fun c_170 => ?_)
                          ·
                            have i_170 : z166.toInt ≤ e_ho.toInt := g5_le (a := z166.toInt) (b := e_ho.toInt) rfl rfl c_170
                            refine lv_aload_n hx hb dX5_meetGlass_213 rfl (lv_at hl 7 rfl) ?_
                            refine va_get (D := G.1) (ci := 5) (v := .ref a_j) (C := RX5) (T := TX5) (N := 13) hx hb hts inG_X5 hown hK hP 4 rfl rfl 1 (by decide +kernel) (hts _ fl_X5_12) (fun _ h9 => h9) rfl dX5_meetGlass_214 ?_
                            refine lv_aload hx hb dX5_meetGlass_217 (lv_at hl 1 rfl) ?_
                            refine lv_iconst (v := 1) hx hb dX5_meetGlass_219 (by decide +kernel) ?_
                            refine W.eq (g2 := F0 m 220 ls [.int 1, .ref a_lo, .ref a_j]) rfl ?_
                            obtain ⟨hPc, hDc, hFc⟩ := g5_sub3 (wc := [(a_j, (oc2 a_as a_sk)), (a_as, (arI G 8 z22)), (a_sk, (arJ G 50 z125)), (a_lo, (oc3 e_cl a_hd a_sr a_cd)), (a_sr, (arI G n_sr f_sr)), (a_cd, (arI G n_cd f_cd)), (a_hd, (arI G n_hd f_hd))]) hP hD hS hA [5, 6, 7, 8, 9, 10, 11] (by decide +kernel) rfl
                            refine va_calli (va_runV (As := [.ref a_lo, .int 1]) (rest := []) ⟨hx, hb, hml, hown, hts⟩ (j_isHeldX l G a_j a_as a_sk a_lo a_sr a_cd a_hd H.size 1 e_cl z22 z125 f_sr f_cd f_hd (askQ (6 + z13) e_ce e_ho e_wy (-1) e_ln e_br) g_L n_sr n_cd n_hd h_e_cl (e_hn) (e_hs) (e_hk) (e_c) (i_21) (e_lw) (e_lv)) (cwV 2 hts gV_X5_124 rfl rfl rfl hv_X2_isHeld ⟨Nat.le_of_ble_eq_true rfl, Nat.le_of_ble_eq_true rfl⟩) (g5_preV hPc hK hDc hN hT hS hFc (ci := 2) (q0 := 0) rfl rfl) rfl rfl hl.1 rfl (lv_room (Nat.le_of_ble_eq_true rfl)) dX5_meetGlass_220 ⟨Nat.le_of_ble_eq_true rfl, Nat.le_of_ble_eq_true rfl⟩) hS (fun q _ h => hFc q h) hFc (fun r u t H locs ht hvm hw hB hz1 hk1 hS => ?_)
                            obtain ⟨hP1, hD1⟩ := hB
                            have hP1 := g5_ht ht hP1
                            rcases hw with ⟨z172, (i_171 : ∃ v : Int64, toldX g_L (1 : Int32).toInt (askQ (6 + z13) e_ce e_ho e_wy (-1) e_ln e_br) = some v ∧ ((1 : Int32).toInt < 2 → z172 0 = v)), rfl, rfl⟩ | ⟨z174, (i_173 : toldX g_L (1 : Int32).toInt (askQ (6 + z13) e_ce e_ho e_wy (-1) e_ln e_br) = none), rfl, rfl⟩
                            ·
                              have hJ9 := va_join (wr := [(a_g, (oc6 6 5 a_gn e_g)), (a_gn, (arI G 30 f_g)), (a_h, (oc1 e_wa e_le e_st e_fo e_lc a_l a_g a_b a_s a_p a_w e_gb a_bb)), (a_l, (arW G 6 f_l)), (a_k, (oc5 a_h a_j a_pt e_ln e_se e_lh e_br e_we (e_me ||| (1 <<< ((6 + z13) &&& 31))) e_ce e_wy e_ho 1)), (a_p, (oc6 8 5 a_pn e_p)), (a_pn, (arI G 40 f_p))]) hP hD [5, 6, 7, 8, 9, 10, 11] [0, 1, 2, 3, 4, 12, 13] rfl rfl (by decide +kernel) (by decide +kernel) hk1 hFc hP1 hD1
                              clear hP hD hPc hDc hFc ht hvm hz1 hk1 hP1 hD1
                              obtain ⟨hP, hD⟩ := hJ9
                              refine g5_rs [(a_g, (oc6 6 5 a_gn e_g)), (a_gn, (arI G 30 f_g)), (a_h, (oc1 e_wa e_le e_st e_fo e_lc a_l a_g a_b a_s a_p a_w e_gb a_bb)), (a_l, (arW G 6 f_l)), (a_k, (oc5 a_h a_j a_pt e_ln e_se e_lh e_br e_we (e_me ||| (1 <<< ((6 + z13) &&& 31))) e_ce e_wy e_ho 1)), (a_p, (oc6 8 5 a_pn e_p)), (a_pn, (arI G 40 f_p)), (a_j, (oc2 a_as a_sk)), (a_as, (arI G 8 z22)), (a_sk, (arJ G 50 z172)), (a_lo, (oc3 e_cl a_hd a_sr a_cd)), (a_sr, (arI G n_sr f_sr)), (a_cd, (arI G n_cd f_cd)), (a_hd, (arI G n_hd f_hd))] hP hD ?_
                              clear hP hD
                              intro hP hD
                              obtain ⟨v1_175, ht_175, hv_175⟩ := i_171
                              have hw_175 := hv_175 (by decide +kernel)
                              refine lv_if_eq (tgt := 238) hx hb dX5_meetGlass_223 (by decide +kernel) (fun c_176 => ?_) (fun c_176 => ?_)
                              ·
                                exact absurd c_176 (by decide +kernel)
                              ·
                                refine lv_aload_n hx hb dX5_meetGlass_226 rfl (lv_at hl 7 rfl) ?_
                                refine va_get (D := G.1) (ci := 5) (v := .ref a_j) (C := RX5) (T := TX5) (N := 13) hx hb hts inG_X5 hown hK hP 4 rfl rfl 1 (by decide +kernel) (hts _ fl_X5_12) (fun _ h9 => h9) rfl dX5_meetGlass_227 ?_
                                refine lv_bipush (v := 10) hx hb dX5_meetGlass_230 (by decide +kernel) ?_
                                obtain ⟨hPc, hDc, hFc⟩ := g5_sub3 (wc := [(a_j, (oc2 a_as a_sk)), (a_sk, (arJ G 50 z172))]) hP hD hS hA [7, 9] (by decide +kernel) rfl
                                refine va_calli (va_runV (As := [.int 10]) (rest := []) ⟨hx, hb, hml, hown, hts⟩ (j_toldX l G a_j a_sk a_as H.size 10 z172 ⟨by decide, by decide⟩) (cwV 1 hts gV_X5_134 rfl rfl rfl hv_X2_toldUpTo ⟨Nat.le_of_ble_eq_true rfl, Nat.le_of_ble_eq_true rfl⟩) (g5_preV hPc hK hDc hN hT hS hFc (ci := 2) (q0 := 0) rfl rfl) rfl rfl hl.1 rfl (lv_room (Nat.le_of_ble_eq_true rfl)) dX5_meetGlass_232 ⟨Nat.le_of_ble_eq_true rfl, Nat.le_of_ble_eq_true rfl⟩) hS (fun q _ h => hFc q h) hFc (fun r u t H locs ht hvm hw hB hz1 hk1 hS => ?_)
                                obtain ⟨hP1, hD1⟩ := hB
                                have hP1 := g5_ht ht hP1
                                obtain ⟨z179, (i_177 : 0 ≤ z179.toInt ∧ z179.toInt ≤ (10 : Int32).toInt), (i_178 : z179 = clampQ (z172 0) (10 : Int32)), y180, rfl⟩ := hw
                                have hJ9 := va_join (wr := [(a_g, (oc6 6 5 a_gn e_g)), (a_gn, (arI G 30 f_g)), (a_h, (oc1 e_wa e_le e_st e_fo e_lc a_l a_g a_b a_s a_p a_w e_gb a_bb)), (a_l, (arW G 6 f_l)), (a_k, (oc5 a_h a_j a_pt e_ln e_se e_lh e_br e_we (e_me ||| (1 <<< ((6 + z13) &&& 31))) e_ce e_wy e_ho 1)), (a_p, (oc6 8 5 a_pn e_p)), (a_pn, (arI G 40 f_p)), (a_as, (arI G 8 z22)), (a_lo, (oc3 e_cl a_hd a_sr a_cd)), (a_sr, (arI G n_sr f_sr)), (a_cd, (arI G n_cd f_cd)), (a_hd, (arI G n_hd f_hd))]) hP hD [7, 9] [0, 1, 2, 3, 4, 5, 6, 8, 10, 11, 12, 13] rfl rfl (by decide +kernel) (by decide +kernel) hk1 hFc hP1 hD1
                                clear hP hD hPc hDc hFc ht hvm hz1 hk1 hP1 hD1
                                obtain ⟨hP, hD⟩ := hJ9
                                refine g5_rs [(a_g, (oc6 6 5 a_gn e_g)), (a_gn, (arI G 30 f_g)), (a_h, (oc1 e_wa e_le e_st e_fo e_lc a_l a_g a_b a_s a_p a_w e_gb a_bb)), (a_l, (arW G 6 f_l)), (a_k, (oc5 a_h a_j a_pt e_ln e_se e_lh e_br e_we (e_me ||| (1 <<< ((6 + z13) &&& 31))) e_ce e_wy e_ho 1)), (a_p, (oc6 8 5 a_pn e_p)), (a_pn, (arI G 40 f_p)), (a_as, (arI G 8 z22)), (a_lo, (oc3 e_cl a_hd a_sr a_cd)), (a_sr, (arI G n_sr f_sr)), (a_cd, (arI G n_cd f_cd)), (a_hd, (arI G n_hd f_hd)), (a_j, (oc2 a_as a_sk)), (a_sk, (arJ G 50 z172))] hP hD ?_
                                clear hP hD
                                intro hP hD
                                refine g5_ti (v := z179) y180 ?_
                                refine W.eq (g2 := F0 m 235 ls [.int z179]) rfl ?_
                                refine lv_goto (tgt := 244) hx hb dX5_meetGlass_235 (by decide +kernel) ?_
                                have hV_181 : z179 = tellQ (toldW g_w 1 (askQ (6 + z13) e_ce e_ho e_wy (-1) e_ln e_br)) (0) 10 := tell_s (tW_of e_w (by decide +kernel) ht_175) (by rw [i_178, hw_175])
                                have hr_181 : 0 ≤ z179.toInt ∧ z179.toInt ≤ 10 := ⟨by omega, by have zk : (10 : Int32).toInt = 10 := (by decide +kernel); omega⟩
                                refine lv_istore (lv' := [(8, .int z179), (7, .int z166), (6, .ref a_lo), (5, .int z18), (4, .int (6 + z13)), (3, .int z13), (2, .ref a_p), (1, .int (-1)), (0, .ref a_k)]) hx hb dX5_meetGlass_244 hl (by decide +kernel) rfl ?_
                                clear hl
                                intro ls hl
                                refine lv_aload_n hx hb dX5_meetGlass_246 rfl (lv_at hl 8 rfl) ?_
                                refine lv_aload_n hx hb dX5_meetGlass_247 rfl (lv_at hl 8 rfl) ?_
                                refine va_get (D := G.1) (ci := 5) (v := .int e_br) (C := RX5) (T := TX5) (N := 13) hx hb hts inG_X5 hown hK hP 4 rfl rfl 6 (by decide +kernel) (hts _ fl_X5_46) (fun _ h9 => h9) rfl dX5_meetGlass_248 ?_
                                refine W.eq (g2 := F0 m 251 ls [.int e_br, .ref a_k]) rfl ?_
                                refine lv_bipush (v := 10) hx hb dX5_meetGlass_251 (by decide +kernel) ?_
                                refine lv_iload hx hb dX5_meetGlass_253 (lv_at hl 0 rfl) ?_
                                refine lv_isub hx hb dX5_meetGlass_255 ?_
                                have t_182 : (10 - z179).toInt = 10 - z179.toInt := g5_isub (a := 10) (b := z179.toInt) (by decide +kernel) (by rfl) (by omega) (by omega)
                                refine lv_imul hx hb dX5_meetGlass_256 ?_
                                refine lv_bipush (v := 10) hx hb dX5_meetGlass_257 (by decide +kernel) ?_
                                refine W.eq (g2 := F0 m 259 ls [.int 10, .int (e_br * (10 - z179)), .ref a_k]) rfl ?_
                                refine lv_idiv hx hb dX5_meetGlass_259 (by decide +kernel) ?_
                                have hb_183 : 0 ≤ ((e_br * (10 - z179)) / 10).toInt ∧ ((e_br * (10 - z179)) / 10).toInt ≤ 1000000 := g_dust (by omega) (by omega)
                                refine va_put (D := G.1) (ci := 5) (v := .int ((e_br * (10 - z179)) / 10)) (ty := .int) (C := RX5) (T := TX5) (N := 13) hx hb hts inG_X5 tyX5 tyX5_ok nmX5 hown hK hP hD hS 4 rfl rfl 6 (by decide +kernel) (hts _ fl_X5_46) (fun _ h9 => h9) rfl (by decide +kernel) rfl rfl (Nat.le_of_ble_eq_true rfl) dX5_meetGlass_260 ?_
                                clear hP hD hS
                                intro H locs hP hD hS
                                refine g5_rs [(a_g, (oc6 6 5 a_gn e_g)), (a_gn, (arI G 30 f_g)), (a_h, (oc1 e_wa e_le e_st e_fo e_lc a_l a_g a_b a_s a_p a_w e_gb a_bb)), (a_l, (arW G 6 f_l)), (a_k, (oc5 a_h a_j a_pt e_ln e_se e_lh ((e_br * (10 - z179)) / 10) e_we (e_me ||| (1 <<< ((6 + z13) &&& 31))) e_ce e_wy e_ho 1)), (a_p, (oc6 8 5 a_pn e_p)), (a_pn, (arI G 40 f_p)), (a_as, (arI G 8 z22)), (a_lo, (oc3 e_cl a_hd a_sr a_cd)), (a_sr, (arI G n_sr f_sr)), (a_cd, (arI G n_cd f_cd)), (a_hd, (arI G n_hd f_hd)), (a_j, (oc2 a_as a_sk)), (a_sk, (arJ G 50 z172))] hP hD ?_
                                clear hP hD
                                intro hP hD
                                refine lv_aload_n hx hb dX5_meetGlass_263 rfl (lv_at hl 8 rfl) ?_
                                refine va_get (D := G.1) (ci := 5) (v := .int ((e_br * (10 - z179)) / 10)) (C := RX5) (T := TX5) (N := 13) hx hb hts inG_X5 hown hK hP 4 rfl rfl 6 (by decide +kernel) (hts _ fl_X5_46) (fun _ h9 => h9) rfl dX5_meetGlass_264 ?_
                                refine lv_aload_n hx hb dX5_meetGlass_267 rfl (lv_at hl 8 rfl) ?_
                                refine W.eq (g2 := F0 m 268 ls [.ref a_k, .int ((e_br * (10 - z179)) / 10)]) rfl ?_
                                refine va_get (D := G.1) (ci := 5) (v := .ref a_h) (C := RX5) (T := TX5) (N := 13) hx hb hts inG_X5 hown hK hP 4 rfl rfl 0 (by decide +kernel) (hts _ fl_X5_22) (fun _ h9 => h9) rfl dX5_meetGlass_268 ?_
                                refine va_get (D := G.1) (ci := 1) (v := .int e_le) (C := RX1) (T := TX1) (N := 13) hx hb hts inG_X1 hown hK hP 2 rfl rfl 1 (by decide +kernel) (hts _ fl_X5_138) (fun _ h9 => h9) rfl dX5_meetGlass_271 ?_
                                refine lv_icmp_ge (tgt := 278) hx hb dX5_meetGlass_274 (by decide +kernel) (fun c_184 => ?_) (fun c_184 => ?_)
                                ·
                                  have i_184 : ((e_br * (10 - z179)) / 10).toInt ≥ e_le.toInt := g5_ge (a := ((e_br * (10 - z179)) / 10).toInt) (b := e_le.toInt) rfl rfl c_184
                                  refine lv_aload_n hx hb dX5_meetGlass_278 rfl (lv_at hl 8 rfl) ?_
                                  refine lv_dup hx hb dX5_meetGlass_279 rfl ?_
                                  refine va_get (D := G.1) (ci := 5) (v := .int e_ho) (C := RX5) (T := TX5) (N := 13) hx hb hts inG_X5 hown hK hP 4 rfl rfl 11 (by decide +kernel) (hts _ fl_X5_33) (fun _ h9 => h9) rfl dX5_meetGlass_280 ?_
                                  refine lv_iload hx hb dX5_meetGlass_283 (lv_at hl 1 rfl) ?_
                                  refine W.eq (g2 := F0 m 285 ls [.int z166, .int e_ho, .ref a_k]) rfl ?_
                                  refine lv_isub hx hb dX5_meetGlass_285 ?_
                                  have t_185 : (e_ho - z166).toInt = e_ho.toInt - z166.toInt := g5_isub (a := e_ho.toInt) (b := z166.toInt) (by rfl) (by rfl) (by omega) (by omega)
                                  refine va_put (D := G.1) (ci := 5) (v := .int (e_ho - z166)) (ty := .int) (C := RX5) (T := TX5) (N := 13) hx hb hts inG_X5 tyX5 tyX5_ok nmX5 hown hK hP hD hS 4 rfl rfl 11 (by decide +kernel) (hts _ fl_X5_33) (fun _ h9 => h9) rfl (by decide +kernel) rfl rfl (Nat.le_of_ble_eq_true rfl) dX5_meetGlass_286 ?_
                                  clear hP hD hS
                                  intro H locs hP hD hS
                                  refine g5_rs [(a_g, (oc6 6 5 a_gn e_g)), (a_gn, (arI G 30 f_g)), (a_h, (oc1 e_wa e_le e_st e_fo e_lc a_l a_g a_b a_s a_p a_w e_gb a_bb)), (a_l, (arW G 6 f_l)), (a_k, (oc5 a_h a_j a_pt e_ln e_se e_lh ((e_br * (10 - z179)) / 10) e_we (e_me ||| (1 <<< ((6 + z13) &&& 31))) e_ce e_wy (e_ho - z166) 1)), (a_p, (oc6 8 5 a_pn e_p)), (a_pn, (arI G 40 f_p)), (a_as, (arI G 8 z22)), (a_lo, (oc3 e_cl a_hd a_sr a_cd)), (a_sr, (arI G n_sr f_sr)), (a_cd, (arI G n_cd f_cd)), (a_hd, (arI G n_hd f_hd)), (a_j, (oc2 a_as a_sk)), (a_sk, (arJ G 50 z172))] hP hD ?_
                                  clear hP hD
                                  intro hP hD
                                  refine lv_aload_n hx hb dX5_meetGlass_289 rfl (lv_at hl 8 rfl) ?_
                                  refine lv_iload hx hb dX5_meetGlass_290 (lv_at hl 3 rfl) ?_
                                  refine lv_if_ne (tgt := 304) hx hb dX5_meetGlass_292 (by decide +kernel) (fun c_186 => ?_) (fun c_186 => ?_)
                                  ·
                                    have n_186 : gNe (z18.toInt) (0) := g5_ne (a := z18.toInt) (b := 0) rfl (by decide +kernel) c_186
                                    refine lv_iload hx hb dX5_meetGlass_304 (lv_at hl 3 rfl) ?_
                                    refine lv_iconst (v := 1) hx hb dX5_meetGlass_306 (by decide +kernel) ?_
                                    refine lv_icmp_ne (tgt := 319) hx hb dX5_meetGlass_307 (by decide +kernel) (fun c_187 => ?_) (fun c_187 => ?_)
                                    ·
                                      have n_187 : gNe (z18.toInt) (1) := g5_ne (a := z18.toInt) (b := 1) rfl (by decide +kernel) c_187
                                      refine lv_aload_n hx hb dX5_meetGlass_319 rfl (lv_at hl 8 rfl) ?_
                                      refine va_get (D := G.1) (ci := 5) (v := .int e_wy) (C := RX5) (T := TX5) (N := 13) hx hb hts inG_X5 hown hK hP 4 rfl rfl 10 (by decide +kernel) (hts _ fl_X5_30) (fun _ h9 => h9) rfl dX5_meetGlass_320 ?_
                                      refine lv_iconst (v := 2) hx hb dX5_meetGlass_323 (by decide +kernel) ?_
                                      refine lv_ixor hx hb dX5_meetGlass_324 ?_
                                      have hx_188 := (g_xor (w := e_wy) (by omega) (by omega)).2
                                      refine W.eq (g2 := F0 m 325 ls [.int (e_wy ^^^ 2), .ref a_k]) rfl ?_
                                      refine va_put (D := G.1) (ci := 5) (v := .int (e_wy ^^^ 2)) (ty := .int) (C := RX5) (T := TX5) (N := 13) hx hb hts inG_X5 tyX5 tyX5_ok nmX5 hown hK hP hD hS 4 rfl rfl 10 (by decide +kernel) (hts _ fl_X5_30) (fun _ h9 => h9) rfl (by decide +kernel) rfl rfl (Nat.le_of_ble_eq_true rfl) dX5_meetGlass_325 ?_
                                      clear hP hD hS
                                      intro H locs hP hD hS
                                      refine g5_rs [(a_g, (oc6 6 5 a_gn e_g)), (a_gn, (arI G 30 f_g)), (a_h, (oc1 e_wa e_le e_st e_fo e_lc a_l a_g a_b a_s a_p a_w e_gb a_bb)), (a_l, (arW G 6 f_l)), (a_k, (oc5 a_h a_j a_pt e_ln e_se e_lh ((e_br * (10 - z179)) / 10) e_we (e_me ||| (1 <<< ((6 + z13) &&& 31))) e_ce (e_wy ^^^ 2) (e_ho - z166) 1)), (a_p, (oc6 8 5 a_pn e_p)), (a_pn, (arI G 40 f_p)), (a_as, (arI G 8 z22)), (a_lo, (oc3 e_cl a_hd a_sr a_cd)), (a_sr, (arI G n_sr f_sr)), (a_cd, (arI G n_cd f_cd)), (a_hd, (arI G n_hd f_hd)), (a_j, (oc2 a_as a_sk)), (a_sk, (arJ G 50 z172))] hP hD ?_
                                      clear hP hD
                                      intro hP hD
                                      refine lv_aload_n hx hb dX5_meetGlass_328 rfl (lv_at hl 8 rfl) ?_
                                      refine lv_dup hx hb dX5_meetGlass_329 rfl ?_
                                      refine va_get (D := G.1) (ci := 5) (v := .int e_we) (C := RX5) (T := TX5) (N := 13) hx hb hts inG_X5 hown hK hP 4 rfl rfl 7 (by decide +kernel) (hts _ fl_X5_49) (fun _ h9 => h9) rfl dX5_meetGlass_330 ?_
                                      refine lv_iconst (v := 1) hx hb dX5_meetGlass_333 (by decide +kernel) ?_
                                      refine W.eq (g2 := F0 m 334 ls [.int 1, .int e_we, .ref a_k]) rfl ?_
                                      refine lv_iload hx hb dX5_meetGlass_334 (lv_at hl 4 rfl) ?_
                                      refine lv_ishl hx hb dX5_meetGlass_336 ?_
                                      refine lv_ior hx hb dX5_meetGlass_337 ?_
                                      refine va_put (D := G.1) (ci := 5) (v := .int (e_we ||| (1 <<< ((6 + z13) &&& 31)))) (ty := .int) (C := RX5) (T := TX5) (N := 13) hx hb hts inG_X5 tyX5 tyX5_ok nmX5 hown hK hP hD hS 4 rfl rfl 7 (by decide +kernel) (hts _ fl_X5_49) (fun _ h9 => h9) rfl (by decide +kernel) rfl rfl (Nat.le_of_ble_eq_true rfl) dX5_meetGlass_338 ?_
                                      clear hP hD hS
                                      intro H locs hP hD hS
                                      refine g5_rs [(a_g, (oc6 6 5 a_gn e_g)), (a_gn, (arI G 30 f_g)), (a_h, (oc1 e_wa e_le e_st e_fo e_lc a_l a_g a_b a_s a_p a_w e_gb a_bb)), (a_l, (arW G 6 f_l)), (a_k, (oc5 a_h a_j a_pt e_ln e_se e_lh ((e_br * (10 - z179)) / 10) (e_we ||| (1 <<< ((6 + z13) &&& 31))) (e_me ||| (1 <<< ((6 + z13) &&& 31))) e_ce (e_wy ^^^ 2) (e_ho - z166) 1)), (a_p, (oc6 8 5 a_pn e_p)), (a_pn, (arI G 40 f_p)), (a_as, (arI G 8 z22)), (a_lo, (oc3 e_cl a_hd a_sr a_cd)), (a_sr, (arI G n_sr f_sr)), (a_cd, (arI G n_cd f_cd)), (a_hd, (arI G n_hd f_hd)), (a_j, (oc2 a_as a_sk)), (a_sk, (arJ G 50 z172))] hP hD ?_
                                      clear hP hD
                                      intro hP hD
                                      refine lv_aload_n hx hb dX5_meetGlass_341 rfl (lv_at hl 8 rfl) ?_
                                      refine W.eq (g2 := F0 m 342 ls [.ref a_k]) rfl ?_
                                      refine lv_iconst (v := 0) hx hb dX5_meetGlass_342 (by decide +kernel) ?_
                                      refine va_put (D := G.1) (ci := 5) (v := .int 0) (ty := .boolean) (C := RX5) (T := TX5) (N := 13) hx hb hts inG_X5 tyX5 tyX5_ok nmX5 hown hK hP hD hS 4 rfl rfl 12 (by decide +kernel) (hts _ fl_X5_56) (fun _ h9 => h9) rfl (by decide +kernel) rfl rfl (Nat.le_of_ble_eq_true rfl) dX5_meetGlass_343 ?_
                                      clear hP hD hS
                                      intro H locs hP hD hS
                                      refine g5_rs [(a_g, (oc6 6 5 a_gn e_g)), (a_gn, (arI G 30 f_g)), (a_h, (oc1 e_wa e_le e_st e_fo e_lc a_l a_g a_b a_s a_p a_w e_gb a_bb)), (a_l, (arW G 6 f_l)), (a_k, (oc5 a_h a_j a_pt e_ln e_se e_lh ((e_br * (10 - z179)) / 10) (e_we ||| (1 <<< ((6 + z13) &&& 31))) (e_me ||| (1 <<< ((6 + z13) &&& 31))) e_ce (e_wy ^^^ 2) (e_ho - z166) 0)), (a_p, (oc6 8 5 a_pn e_p)), (a_pn, (arI G 40 f_p)), (a_as, (arI G 8 z22)), (a_lo, (oc3 e_cl a_hd a_sr a_cd)), (a_sr, (arI G n_sr f_sr)), (a_cd, (arI G n_cd f_cd)), (a_hd, (arI G n_hd f_hd)), (a_j, (oc2 a_as a_sk)), (a_sk, (arJ G 50 z172))] hP hD ?_
                                      clear hP hD
                                      intro hP hD
                                      exact W.vret hx hb hr (fun t ht hW => ⟨⟨[(a_k, (oc5 a_h a_j a_pt e_ln e_se e_lh ((e_br * (10 - z179)) / 10) (e_we ||| (1 <<< ((6 + z13) &&& 31))) (e_me ||| (1 <<< ((6 + z13) &&& 31))) e_ce (e_wy ^^^ 2) (e_ho - z166) 0)), (a_h, (oc1 e_wa e_le e_st e_fo e_lc a_l a_g a_b a_s a_p a_w e_gb a_bb)), (a_g, (oc6 6 5 a_gn e_g)), (a_gn, (arI G 30 f_g)), (a_p, (oc6 8 5 a_pn e_p)), (a_pn, (arI G 40 f_p)), (a_j, (oc2 a_as a_sk)), (a_as, (arI G 8 z22)), (a_sk, (arJ G 50 z172)), (a_l, (arW G 6 f_l)), (a_lo, (oc3 e_cl a_hd a_sr a_cd)), (a_sr, (arI G n_sr f_sr)), (a_cd, (arI G n_cd f_cd)), (a_hd, (arI G n_hd f_hd))], rfl, Or.inr (⟨((e_br * (10 - z179)) / 10), (e_we ||| (1 <<< ((6 + z13) &&& 31))), (e_me ||| (1 <<< ((6 + z13) &&& 31))), (e_wy ^^^ 2), (e_ho - z166), z22, z172, ⟨by omega, by omega⟩, ⟨by omega, by omega⟩, ⟨by omega, by omega⟩, by rw [met_sc (du := 0) hGF hSF (by omega) hc1_20 rfl (by decide +kernel) e_f4, tn_3 hNS hV_168 (by omega) hV_181 rfl (by omega), nw_2 (so := z18) (by first | omega | (unfold gNe at *; omega)) (by first | omega | (unfold gNe at *; omega))], rfl⟩), by rw [ht]; exact hP.sub [4, 2, 0, 1, 5, 6, 12, 7, 13, 3, 8, 9, 10, 11] rfl, hD.sub [4, 2, 0, 1, 5, 6, 12, 7, 13, 3, 8, 9, 10, 11] (by decide +kernel) rfl⟩, hS.F ht⟩) hS.2.2 dX5_meetGlass_346
                                    ·
                                      have i_187 : z18.toInt = 1 := g5_neN (a := z18.toInt) (b := 1) rfl (by decide +kernel) c_187
                                      omega
                                  ·
                                    have i_186 : z18.toInt = 0 := g5_neN (a := z18.toInt) (b := 0) rfl (by decide +kernel) c_186
                                    omega
                                ·
                                  have i_184 : ((e_br * (10 - z179)) / 10).toInt < e_le.toInt := g5_geN (a := ((e_br * (10 - z179)) / 10).toInt) (b := e_le.toInt) rfl rfl c_184
                                  exact W.vret hx hb hr (fun t ht hW => ⟨⟨[(a_k, (oc5 a_h a_j a_pt e_ln e_se e_lh ((e_br * (10 - z179)) / 10) e_we (e_me ||| (1 <<< ((6 + z13) &&& 31))) e_ce e_wy e_ho 1)), (a_h, (oc1 e_wa e_le e_st e_fo e_lc a_l a_g a_b a_s a_p a_w e_gb a_bb)), (a_g, (oc6 6 5 a_gn e_g)), (a_gn, (arI G 30 f_g)), (a_p, (oc6 8 5 a_pn e_p)), (a_pn, (arI G 40 f_p)), (a_j, (oc2 a_as a_sk)), (a_as, (arI G 8 z22)), (a_sk, (arJ G 50 z172)), (a_l, (arW G 6 f_l)), (a_lo, (oc3 e_cl a_hd a_sr a_cd)), (a_sr, (arI G n_sr f_sr)), (a_cd, (arI G n_cd f_cd)), (a_hd, (arI G n_hd f_hd))], rfl, Or.inl (⟨((e_br * (10 - z179)) / 10), (e_me ||| (1 <<< ((6 + z13) &&& 31))), z22, z172, ⟨by omega, by omega⟩, by rw [met_sc (du := 0) hGF hSF (by omega) hc1_20 rfl (by decide +kernel) e_f4, tn_2 hNS hV_168 (by omega) hV_181 rfl (by omega)]; exact ⟨rfl, rfl, rfl⟩, rfl⟩), by rw [ht]; exact hP.sub [4, 2, 0, 1, 5, 6, 12, 7, 13, 3, 8, 9, 10, 11] rfl, hD.sub [4, 2, 0, 1, 5, 6, 12, 7, 13, 3, 8, 9, 10, 11] (by decide +kernel) rfl⟩, hS.F ht⟩) hS.2.2 dX5_meetGlass_277
                            ·
                              have hJ9 := va_join (wr := [(a_g, (oc6 6 5 a_gn e_g)), (a_gn, (arI G 30 f_g)), (a_h, (oc1 e_wa e_le e_st e_fo e_lc a_l a_g a_b a_s a_p a_w e_gb a_bb)), (a_l, (arW G 6 f_l)), (a_k, (oc5 a_h a_j a_pt e_ln e_se e_lh e_br e_we (e_me ||| (1 <<< ((6 + z13) &&& 31))) e_ce e_wy e_ho 1)), (a_p, (oc6 8 5 a_pn e_p)), (a_pn, (arI G 40 f_p))]) hP hD [5, 6, 7, 8, 9, 10, 11] [0, 1, 2, 3, 4, 12, 13] rfl rfl (by decide +kernel) (by decide +kernel) hk1 hFc hP1 hD1
                              clear hP hD hPc hDc hFc ht hvm hz1 hk1 hP1 hD1
                              obtain ⟨hP, hD⟩ := hJ9
                              refine g5_rs [(a_g, (oc6 6 5 a_gn e_g)), (a_gn, (arI G 30 f_g)), (a_h, (oc1 e_wa e_le e_st e_fo e_lc a_l a_g a_b a_s a_p a_w e_gb a_bb)), (a_l, (arW G 6 f_l)), (a_k, (oc5 a_h a_j a_pt e_ln e_se e_lh e_br e_we (e_me ||| (1 <<< ((6 + z13) &&& 31))) e_ce e_wy e_ho 1)), (a_p, (oc6 8 5 a_pn e_p)), (a_pn, (arI G 40 f_p)), (a_j, (oc2 a_as a_sk)), (a_as, (arI G 8 z22)), (a_sk, (arJ G 50 z174)), (a_lo, (oc3 e_cl a_hd a_sr a_cd)), (a_sr, (arI G n_sr f_sr)), (a_cd, (arI G n_cd f_cd)), (a_hd, (arI G n_hd f_hd))] hP hD ?_
                              clear hP hD
                              intro hP hD
                              refine lv_if_eq (tgt := 238) hx hb dX5_meetGlass_223 (by decide +kernel) (fun c_189 => ?_) (fun c_189 => ?_)
                              ·
                                refine lv_aload_n hx hb dX5_meetGlass_238 rfl (lv_at hl 5 rfl) ?_
                                refine lv_iload_n hx hb dX5_meetGlass_239 rfl (lv_at hl 4 rfl) ?_
                                refine lv_iconst (v := 3) hx hb dX5_meetGlass_240 (by decide +kernel) ?_
                                obtain ⟨hPc, hDc, hFc⟩ := g5_sub3 (wc := [(a_p, (oc6 8 5 a_pn e_p)), (a_pn, (arI G 40 f_p))]) hP hD hS hA [5, 6] (by decide +kernel) rfl
                                refine va_calli (va_runV (As := [.int z13, .int 3]) (rest := []) ⟨hx, hb, hml, hown, hts⟩ (t_get_P l G a_p a_pn H.size e_p z13 3 f_p h_e_p) (cwV 2 hts gV_X5_107 rfl rfl rfl hv_X6_get ⟨Nat.le_of_ble_eq_true rfl, Nat.le_of_ble_eq_true rfl⟩) (g5_preV hPc hK hDc hN hT hS hFc (ci := 6) (q0 := 0) rfl rfl) rfl rfl hl.1 rfl (lv_room (Nat.le_of_ble_eq_true rfl)) dX5_meetGlass_241 ⟨Nat.le_of_ble_eq_true rfl, Nat.le_of_ble_eq_true rfl⟩) hS (fun q _ h => hFc q h) hFc (fun r u t H locs ht hvm hw hB hz1 hk1 hS => ?_)
                                obtain ⟨hP1, hD1⟩ := hB
                                have hP1 := g5_ht ht hP1
                                obtain ⟨z191, (i_190 : z191 = tget f_p e_p.toInt 5 z13.toInt (3 : Int32).toInt), y192, rfl⟩ := hw
                                have hJ9 := va_join (wr := [(a_g, (oc6 6 5 a_gn e_g)), (a_gn, (arI G 30 f_g)), (a_h, (oc1 e_wa e_le e_st e_fo e_lc a_l a_g a_b a_s a_p a_w e_gb a_bb)), (a_l, (arW G 6 f_l)), (a_k, (oc5 a_h a_j a_pt e_ln e_se e_lh e_br e_we (e_me ||| (1 <<< ((6 + z13) &&& 31))) e_ce e_wy e_ho 1)), (a_j, (oc2 a_as a_sk)), (a_as, (arI G 8 z22)), (a_sk, (arJ G 50 z174)), (a_lo, (oc3 e_cl a_hd a_sr a_cd)), (a_sr, (arI G n_sr f_sr)), (a_cd, (arI G n_cd f_cd)), (a_hd, (arI G n_hd f_hd))]) hP hD [5, 6] [0, 1, 2, 3, 4, 7, 8, 9, 10, 11, 12, 13] rfl rfl (by decide +kernel) (by decide +kernel) hk1 hFc hP1 hD1
                                clear hP hD hPc hDc hFc ht hvm hz1 hk1 hP1 hD1
                                obtain ⟨hP, hD⟩ := hJ9
                                refine g5_rs [(a_g, (oc6 6 5 a_gn e_g)), (a_gn, (arI G 30 f_g)), (a_h, (oc1 e_wa e_le e_st e_fo e_lc a_l a_g a_b a_s a_p a_w e_gb a_bb)), (a_l, (arW G 6 f_l)), (a_k, (oc5 a_h a_j a_pt e_ln e_se e_lh e_br e_we (e_me ||| (1 <<< ((6 + z13) &&& 31))) e_ce e_wy e_ho 1)), (a_j, (oc2 a_as a_sk)), (a_as, (arI G 8 z22)), (a_sk, (arJ G 50 z174)), (a_lo, (oc3 e_cl a_hd a_sr a_cd)), (a_sr, (arI G n_sr f_sr)), (a_cd, (arI G n_cd f_cd)), (a_hd, (arI G n_hd f_hd)), (a_p, (oc6 8 5 a_pn e_p)), (a_pn, (arI G 40 f_p))] hP hD ?_
                                clear hP hD
                                intro hP hD
                                refine g5_ti (v := z191) y192 ?_
                                have hz3_193 := sp_z3 e_qp i_10 i_190
                                have hd_193 : z191 = 0 := Int32.toInt_inj.mp (hz3_193.trans (by decide +kernel))
                                have hV_193 : z191 = tellQ (toldW g_w 1 (askQ (6 + z13) e_ce e_ho e_wy (-1) e_ln e_br)) (0) 10 := hd_193.trans (tell_n (tW_of e_w (by decide +kernel) i_173))
                                refine W.eq (g2 := F0 m 244 ls [.int z191]) rfl ?_
                                refine lv_istore (lv' := [(8, .int z191), (7, .int z166), (6, .ref a_lo), (5, .int z18), (4, .int (6 + z13)), (3, .int z13), (2, .ref a_p), (1, .int (-1)), (0, .ref a_k)]) hx hb dX5_meetGlass_244 hl (by decide +kernel) rfl ?_
                                clear hl
                                intro ls hl
                                refine lv_aload_n hx hb dX5_meetGlass_246 rfl (lv_at hl 8 rfl) ?_
                                refine lv_aload_n hx hb dX5_meetGlass_247 rfl (lv_at hl 8 rfl) ?_
                                refine va_get (D := G.1) (ci := 5) (v := .int e_br) (C := RX5) (T := TX5) (N := 13) hx hb hts inG_X5 hown hK hP 4 rfl rfl 6 (by decide +kernel) (hts _ fl_X5_46) (fun _ h9 => h9) rfl dX5_meetGlass_248 ?_
                                refine lv_bipush (v := 10) hx hb dX5_meetGlass_251 (by decide +kernel) ?_
                                refine W.eq (g2 := F0 m 253 ls [.int 10, .int e_br, .ref a_k]) rfl ?_
                                refine lv_iload hx hb dX5_meetGlass_253 (lv_at hl 0 rfl) ?_
                                refine lv_isub hx hb dX5_meetGlass_255 ?_
                                have t_194 : (10 - z191).toInt = 10 - z191.toInt := g5_isub (a := 10) (b := z191.toInt) (by decide +kernel) (by rfl) (by omega) (by omega)
                                refine lv_imul hx hb dX5_meetGlass_256 ?_
                                refine lv_bipush (v := 10) hx hb dX5_meetGlass_257 (by decide +kernel) ?_
                                refine lv_idiv hx hb dX5_meetGlass_259 (by decide +kernel) ?_
                                have hb_195 : 0 ≤ ((e_br * (10 - z191)) / 10).toInt ∧ ((e_br * (10 - z191)) / 10).toInt ≤ 1000000 := g_dust (by omega) (by omega)
                                refine W.eq (g2 := F0 m 260 ls [.int ((e_br * (10 - z191)) / 10), .ref a_k]) rfl ?_
                                refine va_put (D := G.1) (ci := 5) (v := .int ((e_br * (10 - z191)) / 10)) (ty := .int) (C := RX5) (T := TX5) (N := 13) hx hb hts inG_X5 tyX5 tyX5_ok nmX5 hown hK hP hD hS 4 rfl rfl 6 (by decide +kernel) (hts _ fl_X5_46) (fun _ h9 => h9) rfl (by decide +kernel) rfl rfl (Nat.le_of_ble_eq_true rfl) dX5_meetGlass_260 ?_
                                clear hP hD hS
                                intro H locs hP hD hS
                                refine g5_rs [(a_g, (oc6 6 5 a_gn e_g)), (a_gn, (arI G 30 f_g)), (a_h, (oc1 e_wa e_le e_st e_fo e_lc a_l a_g a_b a_s a_p a_w e_gb a_bb)), (a_l, (arW G 6 f_l)), (a_k, (oc5 a_h a_j a_pt e_ln e_se e_lh ((e_br * (10 - z191)) / 10) e_we (e_me ||| (1 <<< ((6 + z13) &&& 31))) e_ce e_wy e_ho 1)), (a_j, (oc2 a_as a_sk)), (a_as, (arI G 8 z22)), (a_sk, (arJ G 50 z174)), (a_lo, (oc3 e_cl a_hd a_sr a_cd)), (a_sr, (arI G n_sr f_sr)), (a_cd, (arI G n_cd f_cd)), (a_hd, (arI G n_hd f_hd)), (a_p, (oc6 8 5 a_pn e_p)), (a_pn, (arI G 40 f_p))] hP hD ?_
                                clear hP hD
                                intro hP hD
                                refine lv_aload_n hx hb dX5_meetGlass_263 rfl (lv_at hl 8 rfl) ?_
                                refine va_get (D := G.1) (ci := 5) (v := .int ((e_br * (10 - z191)) / 10)) (C := RX5) (T := TX5) (N := 13) hx hb hts inG_X5 hown hK hP 4 rfl rfl 6 (by decide +kernel) (hts _ fl_X5_46) (fun _ h9 => h9) rfl dX5_meetGlass_264 ?_
                                refine lv_aload_n hx hb dX5_meetGlass_267 rfl (lv_at hl 8 rfl) ?_
                                refine va_get (D := G.1) (ci := 5) (v := .ref a_h) (C := RX5) (T := TX5) (N := 13) hx hb hts inG_X5 hown hK hP 4 rfl rfl 0 (by decide +kernel) (hts _ fl_X5_22) (fun _ h9 => h9) rfl dX5_meetGlass_268 ?_
                                refine W.eq (g2 := F0 m 271 ls [.ref a_h, .int ((e_br * (10 - z191)) / 10)]) rfl ?_
                                refine va_get (D := G.1) (ci := 1) (v := .int e_le) (C := RX1) (T := TX1) (N := 13) hx hb hts inG_X1 hown hK hP 2 rfl rfl 1 (by decide +kernel) (hts _ fl_X5_138) (fun _ h9 => h9) rfl dX5_meetGlass_271 ?_
                                refine lv_icmp_ge (tgt := 278) hx hb dX5_meetGlass_274 (by decide +kernel) (fun c_196 => ?_) (fun c_196 => ?_)
                                ·
                                  have i_196 : ((e_br * (10 - z191)) / 10).toInt ≥ e_le.toInt := g5_ge (a := ((e_br * (10 - z191)) / 10).toInt) (b := e_le.toInt) rfl rfl c_196
                                  refine lv_aload_n hx hb dX5_meetGlass_278 rfl (lv_at hl 8 rfl) ?_
                                  refine lv_dup hx hb dX5_meetGlass_279 rfl ?_
                                  refine va_get (D := G.1) (ci := 5) (v := .int e_ho) (C := RX5) (T := TX5) (N := 13) hx hb hts inG_X5 hown hK hP 4 rfl rfl 11 (by decide +kernel) (hts _ fl_X5_33) (fun _ h9 => h9) rfl dX5_meetGlass_280 ?_
                                  refine lv_iload hx hb dX5_meetGlass_283 (lv_at hl 1 rfl) ?_
                                  refine W.eq (g2 := F0 m 285 ls [.int z166, .int e_ho, .ref a_k]) rfl ?_
                                  refine lv_isub hx hb dX5_meetGlass_285 ?_
                                  have t_197 : (e_ho - z166).toInt = e_ho.toInt - z166.toInt := g5_isub (a := e_ho.toInt) (b := z166.toInt) (by rfl) (by rfl) (by omega) (by omega)
                                  refine va_put (D := G.1) (ci := 5) (v := .int (e_ho - z166)) (ty := .int) (C := RX5) (T := TX5) (N := 13) hx hb hts inG_X5 tyX5 tyX5_ok nmX5 hown hK hP hD hS 4 rfl rfl 11 (by decide +kernel) (hts _ fl_X5_33) (fun _ h9 => h9) rfl (by decide +kernel) rfl rfl (Nat.le_of_ble_eq_true rfl) dX5_meetGlass_286 ?_
                                  clear hP hD hS
                                  intro H locs hP hD hS
                                  refine g5_rs [(a_g, (oc6 6 5 a_gn e_g)), (a_gn, (arI G 30 f_g)), (a_h, (oc1 e_wa e_le e_st e_fo e_lc a_l a_g a_b a_s a_p a_w e_gb a_bb)), (a_l, (arW G 6 f_l)), (a_k, (oc5 a_h a_j a_pt e_ln e_se e_lh ((e_br * (10 - z191)) / 10) e_we (e_me ||| (1 <<< ((6 + z13) &&& 31))) e_ce e_wy (e_ho - z166) 1)), (a_j, (oc2 a_as a_sk)), (a_as, (arI G 8 z22)), (a_sk, (arJ G 50 z174)), (a_lo, (oc3 e_cl a_hd a_sr a_cd)), (a_sr, (arI G n_sr f_sr)), (a_cd, (arI G n_cd f_cd)), (a_hd, (arI G n_hd f_hd)), (a_p, (oc6 8 5 a_pn e_p)), (a_pn, (arI G 40 f_p))] hP hD ?_
                                  clear hP hD
                                  intro hP hD
                                  refine lv_aload_n hx hb dX5_meetGlass_289 rfl (lv_at hl 8 rfl) ?_
                                  refine lv_iload hx hb dX5_meetGlass_290 (lv_at hl 3 rfl) ?_
                                  refine lv_if_ne (tgt := 304) hx hb dX5_meetGlass_292 (by decide +kernel) (fun c_198 => ?_) (fun c_198 => ?_)
                                  ·
                                    have n_198 : gNe (z18.toInt) (0) := g5_ne (a := z18.toInt) (b := 0) rfl (by decide +kernel) c_198
                                    refine lv_iload hx hb dX5_meetGlass_304 (lv_at hl 3 rfl) ?_
                                    refine lv_iconst (v := 1) hx hb dX5_meetGlass_306 (by decide +kernel) ?_
                                    refine lv_icmp_ne (tgt := 319) hx hb dX5_meetGlass_307 (by decide +kernel) (fun c_199 => ?_) (fun c_199 => ?_)
                                    ·
                                      have n_199 : gNe (z18.toInt) (1) := g5_ne (a := z18.toInt) (b := 1) rfl (by decide +kernel) c_199
                                      refine lv_aload_n hx hb dX5_meetGlass_319 rfl (lv_at hl 8 rfl) ?_
                                      refine va_get (D := G.1) (ci := 5) (v := .int e_wy) (C := RX5) (T := TX5) (N := 13) hx hb hts inG_X5 hown hK hP 4 rfl rfl 10 (by decide +kernel) (hts _ fl_X5_30) (fun _ h9 => h9) rfl dX5_meetGlass_320 ?_
                                      refine lv_iconst (v := 2) hx hb dX5_meetGlass_323 (by decide +kernel) ?_
                                      refine lv_ixor hx hb dX5_meetGlass_324 ?_
                                      have hx_200 := (g_xor (w := e_wy) (by omega) (by omega)).2
                                      refine W.eq (g2 := F0 m 325 ls [.int (e_wy ^^^ 2), .ref a_k]) rfl ?_
                                      refine va_put (D := G.1) (ci := 5) (v := .int (e_wy ^^^ 2)) (ty := .int) (C := RX5) (T := TX5) (N := 13) hx hb hts inG_X5 tyX5 tyX5_ok nmX5 hown hK hP hD hS 4 rfl rfl 10 (by decide +kernel) (hts _ fl_X5_30) (fun _ h9 => h9) rfl (by decide +kernel) rfl rfl (Nat.le_of_ble_eq_true rfl) dX5_meetGlass_325 ?_
                                      clear hP hD hS
                                      intro H locs hP hD hS
                                      refine g5_rs [(a_g, (oc6 6 5 a_gn e_g)), (a_gn, (arI G 30 f_g)), (a_h, (oc1 e_wa e_le e_st e_fo e_lc a_l a_g a_b a_s a_p a_w e_gb a_bb)), (a_l, (arW G 6 f_l)), (a_k, (oc5 a_h a_j a_pt e_ln e_se e_lh ((e_br * (10 - z191)) / 10) e_we (e_me ||| (1 <<< ((6 + z13) &&& 31))) e_ce (e_wy ^^^ 2) (e_ho - z166) 1)), (a_j, (oc2 a_as a_sk)), (a_as, (arI G 8 z22)), (a_sk, (arJ G 50 z174)), (a_lo, (oc3 e_cl a_hd a_sr a_cd)), (a_sr, (arI G n_sr f_sr)), (a_cd, (arI G n_cd f_cd)), (a_hd, (arI G n_hd f_hd)), (a_p, (oc6 8 5 a_pn e_p)), (a_pn, (arI G 40 f_p))] hP hD ?_
                                      clear hP hD
                                      intro hP hD
                                      refine lv_aload_n hx hb dX5_meetGlass_328 rfl (lv_at hl 8 rfl) ?_
                                      refine lv_dup hx hb dX5_meetGlass_329 rfl ?_
                                      refine va_get (D := G.1) (ci := 5) (v := .int e_we) (C := RX5) (T := TX5) (N := 13) hx hb hts inG_X5 hown hK hP 4 rfl rfl 7 (by decide +kernel) (hts _ fl_X5_49) (fun _ h9 => h9) rfl dX5_meetGlass_330 ?_
                                      refine lv_iconst (v := 1) hx hb dX5_meetGlass_333 (by decide +kernel) ?_
                                      refine W.eq (g2 := F0 m 334 ls [.int 1, .int e_we, .ref a_k]) rfl ?_
                                      refine lv_iload hx hb dX5_meetGlass_334 (lv_at hl 4 rfl) ?_
                                      refine lv_ishl hx hb dX5_meetGlass_336 ?_
                                      refine lv_ior hx hb dX5_meetGlass_337 ?_
                                      refine va_put (D := G.1) (ci := 5) (v := .int (e_we ||| (1 <<< ((6 + z13) &&& 31)))) (ty := .int) (C := RX5) (T := TX5) (N := 13) hx hb hts inG_X5 tyX5 tyX5_ok nmX5 hown hK hP hD hS 4 rfl rfl 7 (by decide +kernel) (hts _ fl_X5_49) (fun _ h9 => h9) rfl (by decide +kernel) rfl rfl (Nat.le_of_ble_eq_true rfl) dX5_meetGlass_338 ?_
                                      clear hP hD hS
                                      intro H locs hP hD hS
                                      refine g5_rs [(a_g, (oc6 6 5 a_gn e_g)), (a_gn, (arI G 30 f_g)), (a_h, (oc1 e_wa e_le e_st e_fo e_lc a_l a_g a_b a_s a_p a_w e_gb a_bb)), (a_l, (arW G 6 f_l)), (a_k, (oc5 a_h a_j a_pt e_ln e_se e_lh ((e_br * (10 - z191)) / 10) (e_we ||| (1 <<< ((6 + z13) &&& 31))) (e_me ||| (1 <<< ((6 + z13) &&& 31))) e_ce (e_wy ^^^ 2) (e_ho - z166) 1)), (a_j, (oc2 a_as a_sk)), (a_as, (arI G 8 z22)), (a_sk, (arJ G 50 z174)), (a_lo, (oc3 e_cl a_hd a_sr a_cd)), (a_sr, (arI G n_sr f_sr)), (a_cd, (arI G n_cd f_cd)), (a_hd, (arI G n_hd f_hd)), (a_p, (oc6 8 5 a_pn e_p)), (a_pn, (arI G 40 f_p))] hP hD ?_
                                      clear hP hD
                                      intro hP hD
                                      refine lv_aload_n hx hb dX5_meetGlass_341 rfl (lv_at hl 8 rfl) ?_
                                      refine W.eq (g2 := F0 m 342 ls [.ref a_k]) rfl ?_
                                      refine lv_iconst (v := 0) hx hb dX5_meetGlass_342 (by decide +kernel) ?_
                                      refine va_put (D := G.1) (ci := 5) (v := .int 0) (ty := .boolean) (C := RX5) (T := TX5) (N := 13) hx hb hts inG_X5 tyX5 tyX5_ok nmX5 hown hK hP hD hS 4 rfl rfl 12 (by decide +kernel) (hts _ fl_X5_56) (fun _ h9 => h9) rfl (by decide +kernel) rfl rfl (Nat.le_of_ble_eq_true rfl) dX5_meetGlass_343 ?_
                                      clear hP hD hS
                                      intro H locs hP hD hS
                                      refine g5_rs [(a_g, (oc6 6 5 a_gn e_g)), (a_gn, (arI G 30 f_g)), (a_h, (oc1 e_wa e_le e_st e_fo e_lc a_l a_g a_b a_s a_p a_w e_gb a_bb)), (a_l, (arW G 6 f_l)), (a_k, (oc5 a_h a_j a_pt e_ln e_se e_lh ((e_br * (10 - z191)) / 10) (e_we ||| (1 <<< ((6 + z13) &&& 31))) (e_me ||| (1 <<< ((6 + z13) &&& 31))) e_ce (e_wy ^^^ 2) (e_ho - z166) 0)), (a_j, (oc2 a_as a_sk)), (a_as, (arI G 8 z22)), (a_sk, (arJ G 50 z174)), (a_lo, (oc3 e_cl a_hd a_sr a_cd)), (a_sr, (arI G n_sr f_sr)), (a_cd, (arI G n_cd f_cd)), (a_hd, (arI G n_hd f_hd)), (a_p, (oc6 8 5 a_pn e_p)), (a_pn, (arI G 40 f_p))] hP hD ?_
                                      clear hP hD
                                      intro hP hD
                                      exact W.vret hx hb hr (fun t ht hW => ⟨⟨[(a_k, (oc5 a_h a_j a_pt e_ln e_se e_lh ((e_br * (10 - z191)) / 10) (e_we ||| (1 <<< ((6 + z13) &&& 31))) (e_me ||| (1 <<< ((6 + z13) &&& 31))) e_ce (e_wy ^^^ 2) (e_ho - z166) 0)), (a_h, (oc1 e_wa e_le e_st e_fo e_lc a_l a_g a_b a_s a_p a_w e_gb a_bb)), (a_g, (oc6 6 5 a_gn e_g)), (a_gn, (arI G 30 f_g)), (a_p, (oc6 8 5 a_pn e_p)), (a_pn, (arI G 40 f_p)), (a_j, (oc2 a_as a_sk)), (a_as, (arI G 8 z22)), (a_sk, (arJ G 50 z174)), (a_l, (arW G 6 f_l)), (a_lo, (oc3 e_cl a_hd a_sr a_cd)), (a_sr, (arI G n_sr f_sr)), (a_cd, (arI G n_cd f_cd)), (a_hd, (arI G n_hd f_hd))], rfl, Or.inr (⟨((e_br * (10 - z191)) / 10), (e_we ||| (1 <<< ((6 + z13) &&& 31))), (e_me ||| (1 <<< ((6 + z13) &&& 31))), (e_wy ^^^ 2), (e_ho - z166), z22, z174, ⟨by omega, by omega⟩, ⟨by omega, by omega⟩, ⟨by omega, by omega⟩, by rw [met_sc (du := 0) hGF hSF (by omega) hc1_20 rfl (by decide +kernel) e_f4, tn_3 hNS hV_168 (by omega) hV_193 rfl (by omega), nw_2 (so := z18) (by first | omega | (unfold gNe at *; omega)) (by first | omega | (unfold gNe at *; omega))], rfl⟩), by rw [ht]; exact hP.sub [4, 2, 0, 1, 12, 13, 5, 6, 7, 3, 8, 9, 10, 11] rfl, hD.sub [4, 2, 0, 1, 12, 13, 5, 6, 7, 3, 8, 9, 10, 11] (by decide +kernel) rfl⟩, hS.F ht⟩) hS.2.2 dX5_meetGlass_346
                                    ·
                                      have i_199 : z18.toInt = 1 := g5_neN (a := z18.toInt) (b := 1) rfl (by decide +kernel) c_199
                                      omega
                                  ·
                                    have i_198 : z18.toInt = 0 := g5_neN (a := z18.toInt) (b := 0) rfl (by decide +kernel) c_198
                                    omega
                                ·
                                  have i_196 : ((e_br * (10 - z191)) / 10).toInt < e_le.toInt := g5_geN (a := ((e_br * (10 - z191)) / 10).toInt) (b := e_le.toInt) rfl rfl c_196
                                  exact W.vret hx hb hr (fun t ht hW => ⟨⟨[(a_k, (oc5 a_h a_j a_pt e_ln e_se e_lh ((e_br * (10 - z191)) / 10) e_we (e_me ||| (1 <<< ((6 + z13) &&& 31))) e_ce e_wy e_ho 1)), (a_h, (oc1 e_wa e_le e_st e_fo e_lc a_l a_g a_b a_s a_p a_w e_gb a_bb)), (a_g, (oc6 6 5 a_gn e_g)), (a_gn, (arI G 30 f_g)), (a_p, (oc6 8 5 a_pn e_p)), (a_pn, (arI G 40 f_p)), (a_j, (oc2 a_as a_sk)), (a_as, (arI G 8 z22)), (a_sk, (arJ G 50 z174)), (a_l, (arW G 6 f_l)), (a_lo, (oc3 e_cl a_hd a_sr a_cd)), (a_sr, (arI G n_sr f_sr)), (a_cd, (arI G n_cd f_cd)), (a_hd, (arI G n_hd f_hd))], rfl, Or.inl (⟨((e_br * (10 - z191)) / 10), (e_me ||| (1 <<< ((6 + z13) &&& 31))), z22, z174, ⟨by omega, by omega⟩, by rw [met_sc (du := 0) hGF hSF (by omega) hc1_20 rfl (by decide +kernel) e_f4, tn_2 hNS hV_168 (by omega) hV_193 rfl (by omega)]; exact ⟨rfl, rfl, rfl⟩, rfl⟩), by rw [ht]; exact hP.sub [4, 2, 0, 1, 12, 13, 5, 6, 7, 3, 8, 9, 10, 11] rfl, hD.sub [4, 2, 0, 1, 12, 13, 5, 6, 7, 3, 8, 9, 10, 11] (by decide +kernel) rfl⟩, hS.F ht⟩) hS.2.2 dX5_meetGlass_277
                              ·
                                exact absurd c_189 (by decide +kernel)
                          ·
                            have i_170 : z166.toInt > e_ho.toInt := g5_leN (a := z166.toInt) (b := e_ho.toInt) rfl rfl c_170
                            exact W.vret hx hb hr (fun t ht hW => ⟨⟨[(a_k, (oc5 a_h a_j a_pt e_ln e_se e_lh e_br e_we (e_me ||| (1 <<< ((6 + z13) &&& 31))) e_ce e_wy e_ho 1)), (a_h, (oc1 e_wa e_le e_st e_fo e_lc a_l a_g a_b a_s a_p a_w e_gb a_bb)), (a_g, (oc6 6 5 a_gn e_g)), (a_gn, (arI G 30 f_g)), (a_p, (oc6 8 5 a_pn e_p)), (a_pn, (arI G 40 f_p)), (a_j, (oc2 a_as a_sk)), (a_as, (arI G 8 z22)), (a_sk, (arJ G 50 z125)), (a_l, (arW G 6 f_l)), (a_lo, (oc3 e_cl a_hd a_sr a_cd)), (a_sr, (arI G n_sr f_sr)), (a_cd, (arI G n_cd f_cd)), (a_hd, (arI G n_hd f_hd))], rfl, Or.inl (⟨e_br, (e_me ||| (1 <<< ((6 + z13) &&& 31))), z22, z125, h_e_br, by rw [met_sc (du := 0) hGF hSF (by omega) hc1_20 rfl (by decide +kernel) e_f4, tn_1 hNS hV_168 (by omega)]; exact ⟨rfl, rfl, rfl⟩, rfl⟩), by rw [ht]; exact hP.sub [4, 2, 0, 1, 12, 13, 5, 6, 7, 3, 8, 9, 10, 11] rfl, hD.sub [4, 2, 0, 1, 12, 13, 5, 6, 7, 3, 8, 9, 10, 11] (by decide +kernel) rfl⟩, hS.F ht⟩) hS.2.2 dX5_meetGlass_212
                        ·
                          exact absurd c_164 (by decide +kernel)
                    ·
                      have n_121 : gNe ((z18.toInt - 2)) ((e_wy ^^^ 2).toInt) := by have z := g5_eqN (a := (z18 - 2).toInt) (b := (e_wy ^^^ 2).toInt) (by rfl) (by rfl) c_121; unfold gNe; omega
                      exact W.vret hx hb hr (fun t ht hW => ⟨⟨[(a_k, (oc5 a_h a_j a_pt e_ln e_se e_lh e_br e_we (e_me ||| (1 <<< ((6 + z13) &&& 31))) e_ce e_wy e_ho 1)), (a_h, (oc1 e_wa e_le e_st e_fo e_lc a_l a_g a_b a_s a_p a_w e_gb a_bb)), (a_g, (oc6 6 5 a_gn e_g)), (a_gn, (arI G 30 f_g)), (a_p, (oc6 8 5 a_pn e_p)), (a_pn, (arI G 40 f_p)), (a_j, (oc2 a_as a_sk)), (a_as, (arI G 8 z22)), (a_sk, (arJ G 50 z31)), (a_l, (arW G 6 f_l)), (a_lo, (oc3 e_cl a_hd a_sr a_cd)), (a_sr, (arI G n_sr f_sr)), (a_cd, (arI G n_cd f_cd)), (a_hd, (arI G n_hd f_hd))], rfl, Or.inl (⟨e_br, (e_me ||| (1 <<< ((6 + z13) &&& 31))), z22, z31, h_e_br, by rw [met_sc (du := 0) hGF hSF (by omega) hc1_20 rfl (by decide +kernel) e_f4, tn_0 (Or.inr (Or.inr ⟨by omega, fun q9 => by have q8 := wr_of (so := z18) (wy := e_wy) ⟨by omega, by omega⟩ ⟨by omega, by omega⟩; first | omega | (unfold gNe at *; omega)⟩))]; exact ⟨rfl, rfl, rfl⟩, rfl⟩), by rw [ht]; exact hP.sub [4, 2, 0, 1, 5, 6, 7, 8, 9, 3, 10, 11, 12, 13] rfl, hD.sub [4, 2, 0, 1, 5, 6, 7, 8, 9, 3, 10, 11, 12, 13] (by decide +kernel) rfl⟩, hS.F ht⟩) hS.2.2 dX5_meetGlass_169
  ·
    have i_2 : 0 ≤ z5.toInt ∧ z5.toInt < e_g.toInt := i_2
    have i_3 : tget f_g e_g.toInt 5 z5.toInt (0 : Int32).toInt = e_ce := i_3
    have i_4 : ∀ r : Int, 0 ≤ r → r < z5.toInt → tget f_g e_g.toInt 5 r (0 : Int32).toInt ≠ e_ce := i_4
    have hJ9 := va_join (wr := [(a_k, (oc5 a_h a_j a_pt e_ln e_se e_lh e_br e_we e_me e_ce e_wy e_ho 1)), (a_h, (oc1 e_wa e_le e_st e_fo e_lc a_l a_g a_b a_s a_p a_w e_gb a_bb)), (a_p, (oc6 8 5 a_pn e_p)), (a_pn, (arI G 40 f_p)), (a_j, (oc2 a_as a_sk)), (a_as, (arI G 8 f_as)), (a_sk, (arJ G 50 f_sk)), (a_l, (arW G 6 f_l)), (a_lo, (oc3 e_cl a_hd a_sr a_cd)), (a_sr, (arI G n_sr f_sr)), (a_cd, (arI G n_cd f_cd)), (a_hd, (arI G n_hd f_hd))]) hP hD [2, 3] [0, 1, 4, 5, 6, 7, 8, 9, 10, 11, 12, 13] rfl rfl (by decide +kernel) (by decide +kernel) hk1 hFc hP1 hD1
    clear hP hD hPc hDc hFc ht hvm hz1 hk1 hP1 hD1
    obtain ⟨hP, hD⟩ := hJ9
    refine g5_rs [(a_k, (oc5 a_h a_j a_pt e_ln e_se e_lh e_br e_we e_me e_ce e_wy e_ho 1)), (a_h, (oc1 e_wa e_le e_st e_fo e_lc a_l a_g a_b a_s a_p a_w e_gb a_bb)), (a_p, (oc6 8 5 a_pn e_p)), (a_pn, (arI G 40 f_p)), (a_j, (oc2 a_as a_sk)), (a_as, (arI G 8 f_as)), (a_sk, (arJ G 50 f_sk)), (a_l, (arW G 6 f_l)), (a_lo, (oc3 e_cl a_hd a_sr a_cd)), (a_sr, (arI G n_sr f_sr)), (a_cd, (arI G n_cd f_cd)), (a_hd, (arI G n_hd f_hd)), (a_g, (oc6 6 5 a_gn e_g)), (a_gn, (arI G 30 f_g))] hP hD ?_
    clear hP hD
    intro hP hD
    refine g5_ti (v := z5) y6 ?_
    refine lv_istore_n (lv' := [(1, .int z5), (0, .ref a_k)]) hx hb dX5_meetGlass_20 rfl hl (by decide +kernel) rfl ?_
    clear hl
    intro ls hl
    refine lv_iload_n hx hb dX5_meetGlass_21 rfl (lv_at hl 0 rfl) ?_
    refine lv_iconst (v := (-1)) hx hb dX5_meetGlass_22 (by decide +kernel) ?_
    refine lv_icmp_ne (tgt := 36) hx hb dX5_meetGlass_23 (by decide +kernel) (fun c_201 => ?_) (fun c_201 => ?_)
    ·
      have n_201 : gNe (z5.toInt) ((-1)) := g5_ne (a := z5.toInt) (b := (-1)) rfl (by decide +kernel) c_201
      exact absurd (gl_nof e_qg e_of i_2 i_3) (fun h9 => h9)
    ·
      have i_201 : z5.toInt = (-1) := g5_neN (a := z5.toInt) (b := (-1)) rfl (by decide +kernel) c_201
      omega
