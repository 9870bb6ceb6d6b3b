set_option maxHeartbeats 4000000 in
set_option maxRecDepth 100000 in
theorem k_mgpN4 {p : Program} {l : Launch} {e : Env} {s : State} {m : MethodId} {args : Array Value} {below : List Frame} {meth : Method} {c : Code} {Q : State → Prop} {A : Nat → Prop} {H : Heap} {locs : List Loc} {ls : Array Slot} (G : g5_G) (a_k a_h a_g a_gn a_p a_pn a_j a_as a_sk a_l a_pt a_b a_s a_w a_bb : Nat) (e_ln : Int32) (e_se : Int32) (e_lh : Int32) (e_br : Int32) (e_we : Int32) (e_me : Int32) (e_ce : Int32) (e_wy : Int32) (e_ho : Int32) (e_ov : Int32) (e_le : Int32) (e_st : Int32) (e_fo : Int32) (e_lc : Int32) (e_wa : Int64) (e_gb : Int64) (e_g : Int32) (f_g : Nat → Int32) (e_p : Int32) (f_p : Nat → Int32) (f_as : Nat → Int32) (f_sk : Nat → Int64) (f_l : Nat → Option Nat) (k_r : Int32) (k_n : Int32) (k_s : Int32) (k_l : Int32) (k_d : Int32) (hx : p.tables.exec = Jvm.exec) (hb : c.code = cX5_meetGlass) (hml : c.maxLocals = 9) (hown : s.vm.findClass RX5 = some m.cls) (hts : ∀ w ∈ tblG, w.before args s = true) (hK : va_K G.1 vwCl (T5 G) s) (hN : g5_N s) (hT : g5_S A s s.heap) (hA : ∀ q : Nat, s.heap.size ≤ q → A q) (hP : va_P G.1 vwCl [(a_k, (oc5 a_h a_j a_pt e_ln e_se e_lh e_br e_we e_me e_ce e_wy e_ho e_ov)), (a_h, (oc1 e_wa e_le e_st e_fo e_lc a_l a_g a_b a_s a_p a_w e_gb a_bb)), (a_g, (oc6 6 5 a_gn e_g)), (a_gn, (arI G 30 f_g)), (a_p, (oc6 8 5 a_pn e_p)), (a_pn, (arI G 40 f_p)), (a_j, (oc2 a_as a_sk)), (a_as, (arI G 8 f_as)), (a_sk, (arJ G 50 f_sk)), (a_l, (arW G 6 f_l))] H) (hD : va_D A [(a_k, (oc5 a_h a_j a_pt e_ln e_se e_lh e_br e_we e_me e_ce e_wy e_ho e_ov)), (a_h, (oc1 e_wa e_le e_st e_fo e_lc a_l a_g a_b a_s a_p a_w e_gb a_bb)), (a_g, (oc6 6 5 a_gn e_g)), (a_gn, (arI G 30 f_g)), (a_p, (oc6 8 5 a_pn e_p)), (a_pn, (arI G 40 f_p)), (a_j, (oc2 a_as a_sk)), (a_as, (arI G 8 f_as)), (a_sk, (arJ G 50 f_sk)), (a_l, (arW G 6 f_l))]) (hS : va_S A s.heap H locs) (hl : lv_has ls 9 [(0, .ref a_k), (2, .ref a_p), (3, .int k_r), (4, .int k_n), (5, .int k_s), (7, .int k_l), (8, .int k_d)]) (h_e_br : 0 ≤ e_br.toInt ∧ e_br.toInt ≤ 1000000) (h_e_ce : 0 ≤ e_ce.toInt ∧ e_ce.toInt ≤ 63) (h_e_wy : 0 ≤ e_wy.toInt ∧ e_wy.toInt ≤ 3) (h_e_ho : 0 ≤ e_ho.toInt ∧ e_ho.toInt ≤ 23) (h_e_ov : 0 ≤ e_ov.toInt ∧ e_ov.toInt ≤ 1) (h_e_g : 0 ≤ e_g.toInt ∧ e_g.toInt ≤ 6) (h_e_p : 0 ≤ e_p.toInt ∧ e_p.toInt ≤ 8) (h_k_r : 0 ≤ k_r.toInt ∧ k_r.toInt ≤ 7) (h_k_s : 0 ≤ k_s.toInt ∧ k_s.toInt ≤ 5) (h_k_l : 0 ≤ k_l.toInt ∧ k_l.toInt ≤ 23) (h_k_d : 0 ≤ k_d.toInt ∧ k_d.toInt ≤ 10) (e_lt : k_l.toInt ≤ e_ho.toInt) (kk : ∀ (pc1 : Nat), decode cX5_meetGlass pc1 = .ok (.return_, 1) → ∀ (o_b : Int32) (o_w : Int32) (o_m : Int32) (o_y : Int32) (o_h : Int32) (o_v : Int32) (o_a : Nat → Int32) (o_k : Nat → Int64) (ls : Array Slot) (H : Heap) (locs : List Loc), va_P G.1 vwCl [(a_k, (oc5 a_h a_j a_pt e_ln e_se e_lh o_b o_w o_m e_ce o_y o_h o_v)), (a_h, (oc1 e_wa e_le e_st e_fo e_lc a_l a_g a_b a_s a_p a_w e_gb a_bb)), (a_g, (oc6 6 5 a_gn e_g)), (a_gn, (arI G 30 f_g)), (a_p, (oc6 8 5 a_pn e_p)), (a_pn, (arI G 40 f_p)), (a_j, (oc2 a_as a_sk)), (a_as, (arI G 8 o_a)), (a_sk, (arJ G 50 o_k)), (a_l, (arW G 6 f_l))] H → va_D A [(a_k, (oc5 a_h a_j a_pt e_ln e_se e_lh o_b o_w o_m e_ce o_y o_h o_v)), (a_h, (oc1 e_wa e_le e_st e_fo e_lc a_l a_g a_b a_s a_p a_w e_gb a_bb)), (a_g, (oc6 6 5 a_gn e_g)), (a_gn, (arI G 30 f_g)), (a_p, (oc6 8 5 a_pn e_p)), (a_pn, (arI G 40 f_p)), (a_j, (oc2 a_as a_sk)), (a_as, (arI G 8 o_a)), (a_sk, (arJ G 50 o_k)), (a_l, (arW G 6 f_l))] → va_S A s.heap H locs → (0 ≤ o_b.toInt ∧ o_b.toInt ≤ 1000000) → (0 ≤ o_y.toInt ∧ o_y.toInt ≤ 3) → (0 ≤ o_h.toInt ∧ o_h.toInt ≤ 23) → (0 ≤ o_v.toInt ∧ o_v.toInt ≤ 1) → W p l e ({ frames := 12, cells := 0, slots := 0, locals := 500 } : Room) s m args below meth c H locs 0 0 Q (F0 m pc1 ls [])) : W p l e ({ frames := 12, cells := 0, slots := 0, locals := 500 } : Room) s m args below meth c H locs 0 0 Q (F0 m 246 ls []) := by
  refine lv_aload_n hx hb dX5_meetGlass_246 rfl (lv_at hl 0 rfl) ?_
  refine lv_aload_n hx hb dX5_meetGlass_247 rfl (lv_at hl 0 rfl) ?_
  refine va_get (D := G.1) (ci := 5) (v := .int e_br) (C := RX5) (T := TX5) (N := 13) hx hb hts inG_X5 hown hK hP 0 rfl rfl 6 (by decide) (hts _ fl_X5_46) (fun _ h9 => h9) rfl dX5_meetGlass_248 ?_
  refine lv_bipush (v := 10) hx hb dX5_meetGlass_251 (by decide) ?_
  refine lv_iload hx hb dX5_meetGlass_253 (lv_at hl 6 rfl) ?_
  refine lv_isub hx hb dX5_meetGlass_255 ?_
  have t_1 : (10 - k_d).toInt = 10 - k_d.toInt := g5_isub (a := 10) (b := k_d.toInt) (by decide) (by rfl) (by omega) (by omega)
  refine lv_imul hx hb dX5_meetGlass_256 ?_
  refine lv_bipush (v := 10) hx hb dX5_meetGlass_257 (by decide) ?_
  refine lv_idiv hx hb dX5_meetGlass_259 (by decide) ?_
  have hb_2 : 0 ≤ ((e_br * (10 - k_d)) / 10).toInt ∧ ((e_br * (10 - k_d)) / 10).toInt ≤ 1000000 := g_dust (by omega) (by omega)
  refine va_put (D := G.1) (ci := 5) (v := .int ((e_br * (10 - k_d)) / 10)) (ty := .int) (C := RX5) (T := TX5) (N := 13) hx hb hts inG_X5 tyX5 tyX5_ok nmX5 hown hK hP hD hS 0 rfl rfl 6 (by decide) (hts _ fl_X5_46) (fun _ h9 => h9) rfl (by decide +kernel) rfl rfl (Nat.le_of_ble_eq_true rfl) dX5_meetGlass_260 (fun H locs hP hD hS => ?_)
  refine g5_rs [(a_k, (oc5 a_h a_j a_pt e_ln e_se e_lh ((e_br * (10 - k_d)) / 10) e_we e_me e_ce e_wy e_ho e_ov)), (a_h, (oc1 e_wa e_le e_st e_fo e_lc a_l a_g a_b a_s a_p a_w e_gb a_bb)), (a_g, (oc6 6 5 a_gn e_g)), (a_gn, (arI G 30 f_g)), (a_p, (oc6 8 5 a_pn e_p)), (a_pn, (arI G 40 f_p)), (a_j, (oc2 a_as a_sk)), (a_as, (arI G 8 f_as)), (a_sk, (arJ G 50 f_sk)), (a_l, (arW G 6 f_l))] hP hD (fun hP hD => ?_)
  refine lv_aload_n hx hb dX5_meetGlass_263 rfl (lv_at hl 0 rfl) ?_
  refine va_get (D := G.1) (ci := 5) (v := .int ((e_br * (10 - k_d)) / 10)) (C := RX5) (T := TX5) (N := 13) hx hb hts inG_X5 hown hK hP 0 rfl rfl 6 (by decide) (hts _ fl_X5_46) (fun _ h9 => h9) rfl dX5_meetGlass_264 ?_
  refine lv_aload_n hx hb dX5_meetGlass_267 rfl (lv_at hl 0 rfl) ?_
  refine va_get (D := G.1) (ci := 5) (v := .ref a_h) (C := RX5) (T := TX5) (N := 13) hx hb hts inG_X5 hown hK hP 0 rfl rfl 0 (by decide) (hts _ fl_X5_22) (fun _ h9 => h9) rfl dX5_meetGlass_268 ?_
  refine va_get (D := G.1) (ci := 1) (v := .int e_le) (C := RX1) (T := TX1) (N := 13) hx hb hts inG_X1 hown hK hP 1 rfl rfl 1 (by decide) (hts _ fl_X5_138) (fun _ h9 => h9) rfl dX5_meetGlass_271 ?_
  refine lv_icmp_ge (tgt := 278) hx hb dX5_meetGlass_274 (by decide) (fun c_3 => ?_) (fun c_3 => ?_)
  ·
    have i_3 : ((e_br * (10 - k_d)) / 10).toInt ≥ e_le.toInt := by have z := g5_ge (a := ((e_br * (10 - k_d)) / 10).toInt) (b := e_le.toInt) (by rfl) (by rfl) c_3; omega
    refine lv_aload_n hx hb dX5_meetGlass_278 rfl (lv_at hl 0 rfl) ?_
    refine lv_dup hx hb dX5_meetGlass_279 rfl ?_
    refine va_get (D := G.1) (ci := 5) (v := .int e_ho) (C := RX5) (T := TX5) (N := 13) hx hb hts inG_X5 hown hK hP 0 rfl rfl 11 (by decide) (hts _ fl_X5_33) (fun _ h9 => h9) rfl dX5_meetGlass_280 ?_
    refine lv_iload hx hb dX5_meetGlass_283 (lv_at hl 5 rfl) ?_
    refine lv_isub hx hb dX5_meetGlass_285 ?_
    have t_4 : (e_ho - k_l).toInt = e_ho.toInt - k_l.toInt := g5_isub (a := e_ho.toInt) (b := k_l.toInt) (by rfl) (by rfl) (by omega) (by omega)
    refine va_put (D := G.1) (ci := 5) (v := .int (e_ho - k_l)) (ty := .int) (C := RX5) (T := TX5) (N := 13) hx hb hts inG_X5 tyX5 tyX5_ok nmX5 hown hK hP hD hS 0 rfl rfl 11 (by decide) (hts _ fl_X5_33) (fun _ h9 => h9) rfl (by decide +kernel) rfl rfl (Nat.le_of_ble_eq_true rfl) dX5_meetGlass_286 (fun H locs hP hD hS => ?_)
    refine g5_rs [(a_k, (oc5 a_h a_j a_pt e_ln e_se e_lh ((e_br * (10 - k_d)) / 10) e_we e_me e_ce e_wy (e_ho - k_l) e_ov)), (a_h, (oc1 e_wa e_le e_st e_fo e_lc a_l a_g a_b a_s a_p a_w e_gb a_bb)), (a_g, (oc6 6 5 a_gn e_g)), (a_gn, (arI G 30 f_g)), (a_p, (oc6 8 5 a_pn e_p)), (a_pn, (arI G 40 f_p)), (a_j, (oc2 a_as a_sk)), (a_as, (arI G 8 f_as)), (a_sk, (arJ G 50 f_sk)), (a_l, (arW G 6 f_l))] hP hD (fun hP hD => ?_)
    refine lv_aload_n hx hb dX5_meetGlass_289 rfl (lv_at hl 0 rfl) ?_
    refine lv_iload hx hb dX5_meetGlass_290 (lv_at hl 4 rfl) ?_
    refine lv_if_ne (tgt := 304) hx hb dX5_meetGlass_292 (by decide) (fun c_5 => ?_) (fun c_5 => ?_)
    ·
      have n_5 : gNe (k_s.toInt) (0) := by have z := g5_ne (a := k_s.toInt) (b := 0) (by rfl) (by decide) c_5; unfold gNe; omega
      have i_5 : k_s.toInt ≥ 1 := by have z := g5_ne (a := k_s.toInt) (b := 0) (by rfl) (by decide) c_5; omega
      refine lv_iload hx hb dX5_meetGlass_304 (lv_at hl 4 rfl) ?_
      refine lv_iconst (v := 1) hx hb dX5_meetGlass_306 (by decide) ?_
      refine lv_icmp_ne (tgt := 319) hx hb dX5_meetGlass_307 (by decide) (fun c_6 => ?_) (fun c_6 => ?_)
      ·
        have n_6 : gNe (k_s.toInt) (1) := by have z := g5_ne (a := k_s.toInt) (b := 1) (by rfl) (by decide) c_6; unfold gNe; omega
        have i_6 : k_s.toInt ≥ 2 := by have z := g5_ne (a := k_s.toInt) (b := 1) (by rfl) (by decide) c_6; omega
        refine lv_aload_n hx hb dX5_meetGlass_319 rfl (lv_at hl 0 rfl) ?_
        refine va_get (D := G.1) (ci := 5) (v := .int e_wy) (C := RX5) (T := TX5) (N := 13) hx hb hts inG_X5 hown hK hP 0 rfl rfl 10 (by decide) (hts _ fl_X5_30) (fun _ h9 => h9) rfl dX5_meetGlass_320 ?_
        refine lv_iconst (v := 2) hx hb dX5_meetGlass_323 (by decide) ?_
        refine lv_ixor hx hb dX5_meetGlass_324 ?_
        have hx_7 := (g_xor (w := e_wy) (by omega) (by omega)).2
        refine va_put (D := G.1) (ci := 5) (v := .int (e_wy ^^^ 2)) (ty := .int) (C := RX5) (T := TX5) (N := 13) hx hb hts inG_X5 tyX5 tyX5_ok nmX5 hown hK hP hD hS 0 rfl rfl 10 (by decide) (hts _ fl_X5_30) (fun _ h9 => h9) rfl (by decide +kernel) rfl rfl (Nat.le_of_ble_eq_true rfl) dX5_meetGlass_325 (fun H locs hP hD hS => ?_)
        refine g5_rs [(a_k, (oc5 a_h a_j a_pt e_ln e_se e_lh ((e_br * (10 - k_d)) / 10) e_we e_me e_ce (e_wy ^^^ 2) (e_ho - k_l) e_ov)), (a_h, (oc1 e_wa e_le e_st e_fo e_lc a_l a_g a_b a_s a_p a_w e_gb a_bb)), (a_g, (oc6 6 5 a_gn e_g)), (a_gn, (arI G 30 f_g)), (a_p, (oc6 8 5 a_pn e_p)), (a_pn, (arI G 40 f_p)), (a_j, (oc2 a_as a_sk)), (a_as, (arI G 8 f_as)), (a_sk, (arJ G 50 f_sk)), (a_l, (arW G 6 f_l))] hP hD (fun hP hD => ?_)
        refine lv_aload_n hx hb dX5_meetGlass_328 rfl (lv_at hl 0 rfl) ?_
        refine lv_dup hx hb dX5_meetGlass_329 rfl ?_
        refine va_get (D := G.1) (ci := 5) (v := .int e_we) (C := RX5) (T := TX5) (N := 13) hx hb hts inG_X5 hown hK hP 0 rfl rfl 7 (by decide) (hts _ fl_X5_49) (fun _ h9 => h9) rfl dX5_meetGlass_330 ?_
        refine lv_iconst (v := 1) hx hb dX5_meetGlass_333 (by decide) ?_
        refine lv_iload hx hb dX5_meetGlass_334 (lv_at hl 3 rfl) ?_
        refine lv_ishl hx hb dX5_meetGlass_336 ?_
        refine lv_ior hx hb dX5_meetGlass_337 ?_
        refine va_put (D := G.1) (ci := 5) (v := .int (e_we ||| (1 <<< (k_n &&& 31)))) (ty := .int) (C := RX5) (T := TX5) (N := 13) hx hb hts inG_X5 tyX5 tyX5_ok nmX5 hown hK hP hD hS 0 rfl rfl 7 (by decide) (hts _ fl_X5_49) (fun _ h9 => h9) rfl (by decide +kernel) rfl rfl (Nat.le_of_ble_eq_true rfl) dX5_meetGlass_338 (fun H locs hP hD hS => ?_)
        refine g5_rs [(a_k, (oc5 a_h a_j a_pt e_ln e_se e_lh ((e_br * (10 - k_d)) / 10) (e_we ||| (1 <<< (k_n &&& 31))) e_me e_ce (e_wy ^^^ 2) (e_ho - k_l) e_ov)), (a_h, (oc1 e_wa e_le e_st e_fo e_lc a_l a_g a_b a_s a_p a_w e_gb a_bb)), (a_g, (oc6 6 5 a_gn e_g)), (a_gn, (arI G 30 f_g)), (a_p, (oc6 8 5 a_pn e_p)), (a_pn, (arI G 40 f_p)), (a_j, (oc2 a_as a_sk)), (a_as, (arI G 8 f_as)), (a_sk, (arJ G 50 f_sk)), (a_l, (arW G 6 f_l))] hP hD (fun hP hD => ?_)
        refine lv_aload_n hx hb dX5_meetGlass_341 rfl (lv_at hl 0 rfl) ?_
        refine lv_iconst (v := 0) hx hb dX5_meetGlass_342 (by decide) ?_
        refine va_put (D := G.1) (ci := 5) (v := .int 0) (ty := .boolean) (C := RX5) (T := TX5) (N := 13) hx hb hts inG_X5 tyX5 tyX5_ok nmX5 hown hK hP hD hS 0 rfl rfl 12 (by decide) (hts _ fl_X5_56) (fun _ h9 => h9) rfl (by decide +kernel) rfl rfl (Nat.le_of_ble_eq_true rfl) dX5_meetGlass_343 (fun H locs hP hD hS => ?_)
        refine g5_rs [(a_k, (oc5 a_h a_j a_pt e_ln e_se e_lh ((e_br * (10 - k_d)) / 10) (e_we ||| (1 <<< (k_n &&& 31))) e_me e_ce (e_wy ^^^ 2) (e_ho - k_l) 0)), (a_h, (oc1 e_wa e_le e_st e_fo e_lc a_l a_g a_b a_s a_p a_w e_gb a_bb)), (a_g, (oc6 6 5 a_gn e_g)), (a_gn, (arI G 30 f_g)), (a_p, (oc6 8 5 a_pn e_p)), (a_pn, (arI G 40 f_p)), (a_j, (oc2 a_as a_sk)), (a_as, (arI G 8 f_as)), (a_sk, (arJ G 50 f_sk)), (a_l, (arW G 6 f_l))] hP hD (fun hP hD => ?_)
        exact kk 346 dX5_meetGlass_346 ((e_br * (10 - k_d)) / 10) (e_we ||| (1 <<< (k_n &&& 31))) e_me (e_wy ^^^ 2) (e_ho - k_l) 0 f_as f_sk ls H locs (hP.sub [0, 1, 2, 3, 4, 5, 6, 7, 8, 9] rfl) (hD.sub [0, 1, 2, 3, 4, 5, 6, 7, 8, 9] (by decide) rfl) hS (⟨by omega, by omega⟩) (⟨by omega, by omega⟩) (⟨by omega, by omega⟩) (⟨by have zc_o_v : (0 : Int32).toInt = 0 := (by decide); omega, by have zc_o_v : (0 : Int32).toInt = 0 := (by decide); omega⟩)
      ·
        have i_6 : k_s.toInt = 1 := by have z := g5_neN (a := k_s.toInt) (b := 1) (by rfl) (by decide) c_6; omega
        refine lv_iconst (v := 3) hx hb dX5_meetGlass_310 (by decide) ?_
        refine lv_aload_n hx hb dX5_meetGlass_311 rfl (lv_at hl 0 rfl) ?_
        refine va_get (D := G.1) (ci := 5) (v := .int e_wy) (C := RX5) (T := TX5) (N := 13) hx hb hts inG_X5 hown hK hP 0 rfl rfl 10 (by decide) (hts _ fl_X5_30) (fun _ h9 => h9) rfl dX5_meetGlass_312 ?_
        refine lv_isub hx hb dX5_meetGlass_315 ?_
        have t_8 : (3 - e_wy).toInt = 3 - e_wy.toInt := g5_isub (a := 3) (b := e_wy.toInt) (by decide) (by rfl) (by omega) (by omega)
        refine lv_goto (tgt := 325) hx hb dX5_meetGlass_316 (by decide) ?_
        refine va_put (D := G.1) (ci := 5) (v := .int (3 - e_wy)) (ty := .int) (C := RX5) (T := TX5) (N := 13) hx hb hts inG_X5 tyX5 tyX5_ok nmX5 hown hK hP hD hS 0 rfl rfl 10 (by decide) (hts _ fl_X5_30) (fun _ h9 => h9) rfl (by decide +kernel) rfl rfl (Nat.le_of_ble_eq_true rfl) dX5_meetGlass_325 (fun H locs hP hD hS => ?_)
        refine g5_rs [(a_k, (oc5 a_h a_j a_pt e_ln e_se e_lh ((e_br * (10 - k_d)) / 10) e_we e_me e_ce (3 - e_wy) (e_ho - k_l) e_ov)), (a_h, (oc1 e_wa e_le e_st e_fo e_lc a_l a_g a_b a_s a_p a_w e_gb a_bb)), (a_g, (oc6 6 5 a_gn e_g)), (a_gn, (arI G 30 f_g)), (a_p, (oc6 8 5 a_pn e_p)), (a_pn, (arI G 40 f_p)), (a_j, (oc2 a_as a_sk)), (a_as, (arI G 8 f_as)), (a_sk, (arJ G 50 f_sk)), (a_l, (arW G 6 f_l))] hP hD (fun hP hD => ?_)
        refine lv_aload_n hx hb dX5_meetGlass_328 rfl (lv_at hl 0 rfl) ?_
        refine lv_dup hx hb dX5_meetGlass_329 rfl ?_
        refine va_get (D := G.1) (ci := 5) (v := .int e_we) (C := RX5) (T := TX5) (N := 13) hx hb hts inG_X5 hown hK hP 0 rfl rfl 7 (by decide) (hts _ fl_X5_49) (fun _ h9 => h9) rfl dX5_meetGlass_330 ?_
        refine lv_iconst (v := 1) hx hb dX5_meetGlass_333 (by decide) ?_
        refine lv_iload hx hb dX5_meetGlass_334 (lv_at hl 3 rfl) ?_
        refine lv_ishl hx hb dX5_meetGlass_336 ?_
        refine lv_ior hx hb dX5_meetGlass_337 ?_
        refine va_put (D := G.1) (ci := 5) (v := .int (e_we ||| (1 <<< (k_n &&& 31)))) (ty := .int) (C := RX5) (T := TX5) (N := 13) hx hb hts inG_X5 tyX5 tyX5_ok nmX5 hown hK hP hD hS 0 rfl rfl 7 (by decide) (hts _ fl_X5_49) (fun _ h9 => h9) rfl (by decide +kernel) rfl rfl (Nat.le_of_ble_eq_true rfl) dX5_meetGlass_338 (fun H locs hP hD hS => ?_)
        refine g5_rs [(a_k, (oc5 a_h a_j a_pt e_ln e_se e_lh ((e_br * (10 - k_d)) / 10) (e_we ||| (1 <<< (k_n &&& 31))) e_me e_ce (3 - e_wy) (e_ho - k_l) e_ov)), (a_h, (oc1 e_wa e_le e_st e_fo e_lc a_l a_g a_b a_s a_p a_w e_gb a_bb)), (a_g, (oc6 6 5 a_gn e_g)), (a_gn, (arI G 30 f_g)), (a_p, (oc6 8 5 a_pn e_p)), (a_pn, (arI G 40 f_p)), (a_j, (oc2 a_as a_sk)), (a_as, (arI G 8 f_as)), (a_sk, (arJ G 50 f_sk)), (a_l, (arW G 6 f_l))] hP hD (fun hP hD => ?_)
        refine lv_aload_n hx hb dX5_meetGlass_341 rfl (lv_at hl 0 rfl) ?_
        refine lv_iconst (v := 0) hx hb dX5_meetGlass_342 (by decide) ?_
        refine va_put (D := G.1) (ci := 5) (v := .int 0) (ty := .boolean) (C := RX5) (T := TX5) (N := 13) hx hb hts inG_X5 tyX5 tyX5_ok nmX5 hown hK hP hD hS 0 rfl rfl 12 (by decide) (hts _ fl_X5_56) (fun _ h9 => h9) rfl (by decide +kernel) rfl rfl (Nat.le_of_ble_eq_true rfl) dX5_meetGlass_343 (fun H locs hP hD hS => ?_)
        refine g5_rs [(a_k, (oc5 a_h a_j a_pt e_ln e_se e_lh ((e_br * (10 - k_d)) / 10) (e_we ||| (1 <<< (k_n &&& 31))) e_me e_ce (3 - e_wy) (e_ho - k_l) 0)), (a_h, (oc1 e_wa e_le e_st e_fo e_lc a_l a_g a_b a_s a_p a_w e_gb a_bb)), (a_g, (oc6 6 5 a_gn e_g)), (a_gn, (arI G 30 f_g)), (a_p, (oc6 8 5 a_pn e_p)), (a_pn, (arI G 40 f_p)), (a_j, (oc2 a_as a_sk)), (a_as, (arI G 8 f_as)), (a_sk, (arJ G 50 f_sk)), (a_l, (arW G 6 f_l))] hP hD (fun hP hD => ?_)
        exact kk 346 dX5_meetGlass_346 ((e_br * (10 - k_d)) / 10) (e_we ||| (1 <<< (k_n &&& 31))) e_me (3 - e_wy) (e_ho - k_l) 0 f_as f_sk ls H locs (hP.sub [0, 1, 2, 3, 4, 5, 6, 7, 8, 9] rfl) (hD.sub [0, 1, 2, 3, 4, 5, 6, 7, 8, 9] (by decide) rfl) hS (⟨by omega, by omega⟩) (⟨by omega, by omega⟩) (⟨by omega, by omega⟩) (⟨by have zc_o_v : (0 : Int32).toInt = 0 := (by decide); omega, by have zc_o_v : (0 : Int32).toInt = 0 := (by decide); omega⟩)
    ·
      have i_5 : k_s.toInt = 0 := by have z := g5_neN (a := k_s.toInt) (b := 0) (by rfl) (by decide) c_5; omega
      refine lv_aload_n hx hb dX5_meetGlass_295 rfl (lv_at hl 0 rfl) ?_
      refine va_get (D := G.1) (ci := 5) (v := .int e_wy) (C := RX5) (T := TX5) (N := 13) hx hb hts inG_X5 hown hK hP 0 rfl rfl 10 (by decide) (hts _ fl_X5_30) (fun _ h9 => h9) rfl dX5_meetGlass_296 ?_
      refine lv_iconst (v := 1) hx hb dX5_meetGlass_299 (by decide) ?_
      refine lv_ixor hx hb dX5_meetGlass_300 ?_
      have hx_9 := (g_xor (w := e_wy) (by omega) (by omega)).1
      refine lv_goto (tgt := 325) hx hb dX5_meetGlass_301 (by decide) ?_
      refine va_put (D := G.1) (ci := 5) (v := .int (e_wy ^^^ 1)) (ty := .int) (C := RX5) (T := TX5) (N := 13) hx hb hts inG_X5 tyX5 tyX5_ok nmX5 hown hK hP hD hS 0 rfl rfl 10 (by decide) (hts _ fl_X5_30) (fun _ h9 => h9) rfl (by decide +kernel) rfl rfl (Nat.le_of_ble_eq_true rfl) dX5_meetGlass_325 (fun H locs hP hD hS => ?_)
      refine g5_rs [(a_k, (oc5 a_h a_j a_pt e_ln e_se e_lh ((e_br * (10 - k_d)) / 10) e_we e_me e_ce (e_wy ^^^ 1) (e_ho - k_l) e_ov)), (a_h, (oc1 e_wa e_le e_st e_fo e_lc a_l a_g a_b a_s a_p a_w e_gb a_bb)), (a_g, (oc6 6 5 a_gn e_g)), (a_gn, (arI G 30 f_g)), (a_p, (oc6 8 5 a_pn e_p)), (a_pn, (arI G 40 f_p)), (a_j, (oc2 a_as a_sk)), (a_as, (arI G 8 f_as)), (a_sk, (arJ G 50 f_sk)), (a_l, (arW G 6 f_l))] hP hD (fun hP hD => ?_)
      refine lv_aload_n hx hb dX5_meetGlass_328 rfl (lv_at hl 0 rfl) ?_
      refine lv_dup hx hb dX5_meetGlass_329 rfl ?_
      refine va_get (D := G.1) (ci := 5) (v := .int e_we) (C := RX5) (T := TX5) (N := 13) hx hb hts inG_X5 hown hK hP 0 rfl rfl 7 (by decide) (hts _ fl_X5_49) (fun _ h9 => h9) rfl dX5_meetGlass_330 ?_
      refine lv_iconst (v := 1) hx hb dX5_meetGlass_333 (by decide) ?_
      refine lv_iload hx hb dX5_meetGlass_334 (lv_at hl 3 rfl) ?_
      refine lv_ishl hx hb dX5_meetGlass_336 ?_
      refine lv_ior hx hb dX5_meetGlass_337 ?_
      refine va_put (D := G.1) (ci := 5) (v := .int (e_we ||| (1 <<< (k_n &&& 31)))) (ty := .int) (C := RX5) (T := TX5) (N := 13) hx hb hts inG_X5 tyX5 tyX5_ok nmX5 hown hK hP hD hS 0 rfl rfl 7 (by decide) (hts _ fl_X5_49) (fun _ h9 => h9) rfl (by decide +kernel) rfl rfl (Nat.le_of_ble_eq_true rfl) dX5_meetGlass_338 (fun H locs hP hD hS => ?_)
      refine g5_rs [(a_k, (oc5 a_h a_j a_pt e_ln e_se e_lh ((e_br * (10 - k_d)) / 10) (e_we ||| (1 <<< (k_n &&& 31))) e_me e_ce (e_wy ^^^ 1) (e_ho - k_l) e_ov)), (a_h, (oc1 e_wa e_le e_st e_fo e_lc a_l a_g a_b a_s a_p a_w e_gb a_bb)), (a_g, (oc6 6 5 a_gn e_g)), (a_gn, (arI G 30 f_g)), (a_p, (oc6 8 5 a_pn e_p)), (a_pn, (arI G 40 f_p)), (a_j, (oc2 a_as a_sk)), (a_as, (arI G 8 f_as)), (a_sk, (arJ G 50 f_sk)), (a_l, (arW G 6 f_l))] hP hD (fun hP hD => ?_)
      refine lv_aload_n hx hb dX5_meetGlass_341 rfl (lv_at hl 0 rfl) ?_
      refine lv_iconst (v := 0) hx hb dX5_meetGlass_342 (by decide) ?_
      refine va_put (D := G.1) (ci := 5) (v := .int 0) (ty := .boolean) (C := RX5) (T := TX5) (N := 13) hx hb hts inG_X5 tyX5 tyX5_ok nmX5 hown hK hP hD hS 0 rfl rfl 12 (by decide) (hts _ fl_X5_56) (fun _ h9 => h9) rfl (by decide +kernel) rfl rfl (Nat.le_of_ble_eq_true rfl) dX5_meetGlass_343 (fun H locs hP hD hS => ?_)
      refine g5_rs [(a_k, (oc5 a_h a_j a_pt e_ln e_se e_lh ((e_br * (10 - k_d)) / 10) (e_we ||| (1 <<< (k_n &&& 31))) e_me e_ce (e_wy ^^^ 1) (e_ho - k_l) 0)), (a_h, (oc1 e_wa e_le e_st e_fo e_lc a_l a_g a_b a_s a_p a_w e_gb a_bb)), (a_g, (oc6 6 5 a_gn e_g)), (a_gn, (arI G 30 f_g)), (a_p, (oc6 8 5 a_pn e_p)), (a_pn, (arI G 40 f_p)), (a_j, (oc2 a_as a_sk)), (a_as, (arI G 8 f_as)), (a_sk, (arJ G 50 f_sk)), (a_l, (arW G 6 f_l))] hP hD (fun hP hD => ?_)
      exact kk 346 dX5_meetGlass_346 ((e_br * (10 - k_d)) / 10) (e_we ||| (1 <<< (k_n &&& 31))) e_me (e_wy ^^^ 1) (e_ho - k_l) 0 f_as f_sk ls H locs (hP.sub [0, 1, 2, 3, 4, 5, 6, 7, 8, 9] rfl) (hD.sub [0, 1, 2, 3, 4, 5, 6, 7, 8, 9] (by decide) rfl) hS (⟨by omega, by omega⟩) (⟨by omega, by omega⟩) (⟨by omega, by omega⟩) (⟨by have zc_o_v : (0 : Int32).toInt = 0 := (by decide); omega, by have zc_o_v : (0 : Int32).toInt = 0 := (by decide); omega⟩)
  ·
    have i_3 : ((e_br * (10 - k_d)) / 10).toInt < e_le.toInt := by have z := g5_geN (a := ((e_br * (10 - k_d)) / 10).toInt) (b := e_le.toInt) (by rfl) (by rfl) c_3; omega
    exact kk 277 dX5_meetGlass_277 ((e_br * (10 - k_d)) / 10) e_we e_me e_wy e_ho e_ov f_as f_sk ls H locs (hP.sub [0, 1, 2, 3, 4, 5, 6, 7, 8, 9] rfl) (hD.sub [0, 1, 2, 3, 4, 5, 6, 7, 8, 9] (by decide) rfl) hS (⟨by omega, by omega⟩) (⟨by omega, by omega⟩) (⟨by omega, by omega⟩) (⟨by omega, by omega⟩)
set_option maxHeartbeats 4000000 in
set_option maxRecDepth 100000 in
theorem k_mgpN3 {p : Program} {l : Launch} {e : Env} {s : State} {m : MethodId} {args : Array Value} {below : List Frame} {meth : Method} {c : Code} {Q : State → Prop} {A : Nat → Prop} {H : Heap} {locs : List Loc} {ls : Array Slot} (G : g5_G) (a_k a_h a_g a_gn a_p a_pn a_j a_as a_sk a_l a_pt a_b a_s a_w a_bb : Nat) (e_ln : Int32) (e_se : Int32) (e_lh : Int32) (e_br : Int32) (e_we : Int32) (e_me : Int32) (e_ce : Int32) (e_wy : Int32) (e_ho : Int32) (e_ov : Int32) (e_le : Int32) (e_st : Int32) (e_fo : Int32) (e_lc : Int32) (e_wa : Int64) (e_gb : Int64) (e_g : Int32) (f_g : Nat → Int32) (e_p : Int32) (f_p : Nat → Int32) (f_as : Nat → Int32) (f_sk : Nat → Int64) (f_l : Nat → Option Nat) (k_r : Int32) (k_n : Int32) (k_s : Int32) (k_l : Int32) (hx : p.tables.exec = Jvm.exec) (hb : c.code = cX5_meetGlass) (hml : c.maxLocals = 9) (hown : s.vm.findClass RX5 = some m.cls) (hts : ∀ w ∈ tblG, w.before args s = true) (hK : va_K G.1 vwCl (T5 G) s) (hN : g5_N s) (hT : g5_S A s s.heap) (hA : ∀ q : Nat, s.heap.size ≤ q → A q) (hP : va_P G.1 vwCl [(a_k, (oc5 a_h a_j a_pt e_ln e_se e_lh e_br e_we e_me e_ce e_wy e_ho e_ov)), (a_h, (oc1 e_wa e_le e_st e_fo e_lc a_l a_g a_b a_s a_p a_w e_gb a_bb)), (a_g, (oc6 6 5 a_gn e_g)), (a_gn, (arI G 30 f_g)), (a_p, (oc6 8 5 a_pn e_p)), (a_pn, (arI G 40 f_p)), (a_j, (oc2 a_as a_sk)), (a_as, (arI G 8 f_as)), (a_sk, (arJ G 50 f_sk)), (a_l, (arW G 6 f_l))] H) (hD : va_D A [(a_k, (oc5 a_h a_j a_pt e_ln e_se e_lh e_br e_we e_me e_ce e_wy e_ho e_ov)), (a_h, (oc1 e_wa e_le e_st e_fo e_lc a_l a_g a_b a_s a_p a_w e_gb a_bb)), (a_g, (oc6 6 5 a_gn e_g)), (a_gn, (arI G 30 f_g)), (a_p, (oc6 8 5 a_pn e_p)), (a_pn, (arI G 40 f_p)), (a_j, (oc2 a_as a_sk)), (a_as, (arI G 8 f_as)), (a_sk, (arJ G 50 f_sk)), (a_l, (arW G 6 f_l))]) (hS : va_S A s.heap H locs) (hl : lv_has ls 9 [(0, .ref a_k), (2, .ref a_p), (3, .int k_r), (4, .int k_n), (5, .int k_s), (6, .null), (7, .int k_l)]) (h_e_br : 0 ≤ e_br.toInt ∧ e_br.toInt ≤ 1000000) (h_e_ce : 0 ≤ e_ce.toInt ∧ e_ce.toInt ≤ 63) (h_e_wy : 0 ≤ e_wy.toInt ∧ e_wy.toInt ≤ 3) (h_e_ho : 0 ≤ e_ho.toInt ∧ e_ho.toInt ≤ 23) (h_e_ov : 0 ≤ e_ov.toInt ∧ e_ov.toInt ≤ 1) (h_e_g : 0 ≤ e_g.toInt ∧ e_g.toInt ≤ 6) (h_e_p : 0 ≤ e_p.toInt ∧ e_p.toInt ≤ 8) (h_k_r : 0 ≤ k_r.toInt ∧ k_r.toInt ≤ 7) (h_k_s : 0 ≤ k_s.toInt ∧ k_s.toInt ≤ 5) (h_k_l : 0 ≤ k_l.toInt ∧ k_l.toInt ≤ 23) (e_gk : gOK f_g e_g.toInt) (e_pk : gOK f_p e_p.toInt) (e_f : e_fo.toInt < 0 ∨ e_lc.toInt ≤ e_fo.toInt) (e_r : k_r.toInt < e_p.toInt) (kk : ∀ (pc1 : Nat), decode cX5_meetGlass pc1 = .ok (.return_, 1) → ∀ (o_b : Int32) (o_w : Int32) (o_m : Int32) (o_y : Int32) (o_h : Int32) (o_v : Int32) (o_a : Nat → Int32) (o_k : Nat → Int64) (ls : Array Slot) (H : Heap) (locs : List Loc), va_P G.1 vwCl [(a_k, (oc5 a_h a_j a_pt e_ln e_se e_lh o_b o_w o_m e_ce o_y o_h o_v)), (a_h, (oc1 e_wa e_le e_st e_fo e_lc a_l a_g a_b a_s a_p a_w e_gb a_bb)), (a_g, (oc6 6 5 a_gn e_g)), (a_gn, (arI G 30 f_g)), (a_p, (oc6 8 5 a_pn e_p)), (a_pn, (arI G 40 f_p)), (a_j, (oc2 a_as a_sk)), (a_as, (arI G 8 o_a)), (a_sk, (arJ G 50 o_k)), (a_l, (arW G 6 f_l))] H → va_D A [(a_k, (oc5 a_h a_j a_pt e_ln e_se e_lh o_b o_w o_m e_ce o_y o_h o_v)), (a_h, (oc1 e_wa e_le e_st e_fo e_lc a_l a_g a_b a_s a_p a_w e_gb a_bb)), (a_g, (oc6 6 5 a_gn e_g)), (a_gn, (arI G 30 f_g)), (a_p, (oc6 8 5 a_pn e_p)), (a_pn, (arI G 40 f_p)), (a_j, (oc2 a_as a_sk)), (a_as, (arI G 8 o_a)), (a_sk, (arJ G 50 o_k)), (a_l, (arW G 6 f_l))] → va_S A s.heap H locs → (0 ≤ o_b.toInt ∧ o_b.toInt ≤ 1000000) → (0 ≤ o_y.toInt ∧ o_y.toInt ≤ 3) → (0 ≤ o_h.toInt ∧ o_h.toInt ≤ 23) → (0 ≤ o_v.toInt ∧ o_v.toInt ≤ 1) → W p l e ({ frames := 12, cells := 0, slots := 0, locals := 500 } : Room) s m args below meth c H locs 0 0 Q (F0 m pc1 ls [])) : W p l e ({ frames := 12, cells := 0, slots := 0, locals := 500 } : Room) s m args below meth c H locs 0 0 Q (F0 m 203 ls []) := by
  refine lv_iload hx hb dX5_meetGlass_203 (lv_at hl 6 rfl) ?_
  refine lv_aload_n hx hb dX5_meetGlass_205 rfl (lv_at hl 0 rfl) ?_
  refine va_get (D := G.1) (ci := 5) (v := .int e_ho) (C := RX5) (T := TX5) (N := 13) hx hb hts inG_X5 hown hK hP 0 rfl rfl 11 (by decide) (hts _ fl_X5_33) (fun _ h9 => h9) rfl dX5_meetGlass_206 ?_
  refine lv_icmp_le (tgt := 213) hx hb dX5_meetGlass_209 (by decide) (fun c_1 => ?_) (fun c_1 => ?_)
  ·
    have i_1 : k_l.toInt ≤ e_ho.toInt := by have z := g5_le (a := k_l.toInt) (b := e_ho.toInt) (by rfl) (by rfl) c_1; omega
    refine lv_aload_n hx hb dX5_meetGlass_213 rfl (lv_at hl 0 rfl) ?_
    refine va_get (D := G.1) (ci := 5) (v := .ref a_j) (C := RX5) (T := TX5) (N := 13) hx hb hts inG_X5 hown hK hP 0 rfl rfl 1 (by decide) (hts _ fl_X5_12) (fun _ h9 => h9) rfl dX5_meetGlass_214 ?_
    refine lv_aloadN hx hb dX5_meetGlass_217 (lv_at hl 5 rfl) ?_
    refine lv_iconst (v := 1) hx hb dX5_meetGlass_219 (by decide) ?_
    obtain ⟨hPc, hDc, hFc⟩ := g5_sub3 (wc := [(a_j, (oc2 a_as a_sk)), (a_as, (arI G 8 f_as)), (a_sk, (arJ G 50 f_sk))]) hP hD hS hA [6, 7, 8] (by decide) rfl
    refine va_calli (va_runV (As := [.null, .int 1]) (rest := []) ⟨hx, hb, hml, hown, hts⟩ (j_isHeldN l G a_j a_as a_sk H.size 1 f_as f_sk) (cwV 2 hts gV_X5_124 rfl rfl rfl hv_X2_isHeld ⟨Nat.le_of_ble_eq_true rfl, Nat.le_of_ble_eq_true rfl⟩) (g5_preV hPc hK hDc hN hT hS hFc (ci := 2) (q0 := 0) rfl rfl) rfl rfl hl.1 rfl (lv_room (Nat.le_of_ble_eq_true rfl)) dX5_meetGlass_220 ⟨Nat.le_of_ble_eq_true rfl, Nat.le_of_ble_eq_true rfl⟩) hS (fun q _ h => hFc q h) hFc (fun r u t H1 locs ht hvm hw hB hz1 hk1 hS => ?_)
    obtain ⟨hP1, hD1⟩ := hB
    rw [ht] at hP1
    obtain ⟨rfl, rfl⟩ := hw
    obtain ⟨hP, hD⟩ := va_join (wr := [(a_k, (oc5 a_h a_j a_pt e_ln e_se e_lh e_br e_we e_me e_ce e_wy e_ho e_ov)), (a_h, (oc1 e_wa e_le e_st e_fo e_lc a_l a_g a_b a_s a_p a_w e_gb a_bb)), (a_g, (oc6 6 5 a_gn e_g)), (a_gn, (arI G 30 f_g)), (a_p, (oc6 8 5 a_pn e_p)), (a_pn, (arI G 40 f_p)), (a_l, (arW G 6 f_l))]) hP hD [6, 7, 8] [0, 1, 2, 3, 4, 5, 9] rfl rfl (by decide) (by decide) hk1 hFc hP1 hD1
    generalize H1 = H at hP hS ⊢
    refine g5_rs [(a_k, (oc5 a_h a_j a_pt e_ln e_se e_lh e_br e_we e_me e_ce e_wy e_ho e_ov)), (a_h, (oc1 e_wa e_le e_st e_fo e_lc a_l a_g a_b a_s a_p a_w e_gb a_bb)), (a_g, (oc6 6 5 a_gn e_g)), (a_gn, (arI G 30 f_g)), (a_p, (oc6 8 5 a_pn e_p)), (a_pn, (arI G 40 f_p)), (a_l, (arW G 6 f_l)), (a_j, (oc2 a_as a_sk)), (a_as, (arI G 8 f_as)), (a_sk, (arJ G 50 f_sk))] hP hD (fun hP hD => ?_)
    refine lv_if_eq (tgt := 238) hx hb dX5_meetGlass_223 (by decide) (fun c_2 => ?_) (fun c_2 => ?_)
    ·
      refine lv_aload_n hx hb dX5_meetGlass_238 rfl (lv_at hl 1 rfl) ?_
      refine lv_iload_n hx hb dX5_meetGlass_239 rfl (lv_at hl 2 rfl) ?_
      refine lv_iconst (v := 3) hx hb dX5_meetGlass_240 (by decide) ?_
      obtain ⟨hPc, hDc, hFc⟩ := g5_sub3 (wc := [(a_p, (oc6 8 5 a_pn e_p)), (a_pn, (arI G 40 f_p))]) hP hD hS hA [4, 5] (by decide) rfl
      refine va_calli (va_runV (As := [.int k_r, .int 3]) (rest := []) ⟨hx, hb, hml, hown, hts⟩ (t_get_P l G a_p a_pn H.size e_p k_r 3 f_p ⟨by omega, by omega⟩) (cwV 2 hts gV_X5_107 rfl rfl rfl hv_X6_get ⟨Nat.le_of_ble_eq_true rfl, Nat.le_of_ble_eq_true rfl⟩) (g5_preV hPc hK hDc hN hT hS hFc (ci := 6) (q0 := 0) rfl rfl) rfl rfl hl.1 rfl (lv_room (Nat.le_of_ble_eq_true rfl)) dX5_meetGlass_241 ⟨Nat.le_of_ble_eq_true rfl, Nat.le_of_ble_eq_true rfl⟩) hS (fun q _ h => hFc q h) hFc (fun r u t H1 locs ht hvm hw hB hz1 hk1 hS => ?_)
      obtain ⟨hP1, hD1⟩ := hB
      rw [ht] at hP1
      obtain ⟨z4, i_3, y5, rfl⟩ := hw
      have i_3 : z4 = tget f_p e_p.toInt 5 k_r.toInt (3 : Int32).toInt := i_3
      obtain ⟨hP, hD⟩ := va_join (wr := [(a_k, (oc5 a_h a_j a_pt e_ln e_se e_lh e_br e_we e_me e_ce e_wy e_ho e_ov)), (a_h, (oc1 e_wa e_le e_st e_fo e_lc a_l a_g a_b a_s a_p a_w e_gb a_bb)), (a_g, (oc6 6 5 a_gn e_g)), (a_gn, (arI G 30 f_g)), (a_l, (arW G 6 f_l)), (a_j, (oc2 a_as a_sk)), (a_as, (arI G 8 f_as)), (a_sk, (arJ G 50 f_sk))]) hP hD [4, 5] [0, 1, 2, 3, 6, 7, 8, 9] rfl rfl (by decide) (by decide) hk1 hFc hP1 hD1
      generalize H1 = H at hP hS ⊢
      refine g5_rs [(a_k, (oc5 a_h a_j a_pt e_ln e_se e_lh e_br e_we e_me e_ce e_wy e_ho e_ov)), (a_h, (oc1 e_wa e_le e_st e_fo e_lc a_l a_g a_b a_s a_p a_w e_gb a_bb)), (a_g, (oc6 6 5 a_gn e_g)), (a_gn, (arI G 30 f_g)), (a_l, (arW G 6 f_l)), (a_j, (oc2 a_as a_sk)), (a_as, (arI G 8 f_as)), (a_sk, (arJ G 50 f_sk)), (a_p, (oc6 8 5 a_pn e_p)), (a_pn, (arI G 40 f_p))] hP hD (fun hP hD => ?_)
      refine g5_ti (v := z4) y5 ?_
      have hg_6 : 0 ≤ z4.toInt ∧ z4.toInt ≤ 10 := by rw [i_3]; exact (e_pk k_r.toInt (by omega) (by omega)).2.2.2
      refine lv_istore (lv' := [(8, .int z4), (0, .ref a_k), (2, .ref a_p), (3, .int k_r), (4, .int k_n), (5, .int k_s), (6, .null), (7, .int k_l)]) hx hb dX5_meetGlass_244 hl (by decide) rfl (fun ls hl => ?_)
      exact k_mgpN4 G a_k a_h a_g a_gn a_p a_pn a_j a_as a_sk a_l a_pt a_b a_s a_w a_bb e_ln e_se e_lh e_br e_we e_me e_ce e_wy e_ho e_ov e_le e_st e_fo e_lc e_wa e_gb e_g f_g e_p f_p f_as f_sk f_l k_r k_n k_s k_l z4 hx hb hml hown hts hK hN hT hA (hP.sub [0, 1, 2, 3, 8, 9, 5, 6, 7, 4] rfl) (hD.sub [0, 1, 2, 3, 8, 9, 5, 6, 7, 4] (by decide) rfl) hS (lv_sub hl [1, 2, 3, 4, 5, 7, 0] rfl) ⟨by omega, by omega⟩ ⟨by omega, by omega⟩ ⟨by omega, by omega⟩ ⟨by omega, by omega⟩ ⟨by omega, by omega⟩ ⟨by omega, by omega⟩ ⟨by omega, by omega⟩ ⟨by omega, by omega⟩ ⟨by omega, by omega⟩ ⟨by omega, by omega⟩ ⟨by omega, by omega⟩ (by omega) kk
    ·
      exact absurd c_2 (by decide)
  ·
    have i_1 : k_l.toInt > e_ho.toInt := by have z := g5_leN (a := k_l.toInt) (b := e_ho.toInt) (by rfl) (by rfl) c_1; omega
    exact kk 212 dX5_meetGlass_212 e_br e_we e_me e_wy e_ho e_ov f_as f_sk ls H locs (hP.sub [0, 1, 2, 3, 4, 5, 6, 7, 8, 9] rfl) (hD.sub [0, 1, 2, 3, 4, 5, 6, 7, 8, 9] (by decide) rfl) hS (⟨by omega, by omega⟩) (⟨by omega, by omega⟩) (⟨by omega, by omega⟩) (⟨by omega, by omega⟩)
set_option maxHeartbeats 4000000 in
set_option maxRecDepth 100000 in
theorem k_mgpN2 {p : Program} {l : Launch} {e : Env} {s : State} {m : MethodId} {args : Array Value} {below : List Frame} {meth : Method} {c : Code} {Q : State → Prop} {A : Nat → Prop} {H : Heap} {locs : List Loc} {ls : Array Slot} (G : g5_G) (a_k a_h a_g a_gn a_p a_pn a_j a_as a_sk a_l a_pt a_b a_s a_w a_bb : Nat) (e_ln : Int32) (e_se : Int32) (e_lh : Int32) (e_br : Int32) (e_we : Int32) (e_me : Int32) (e_ce : Int32) (e_wy : Int32) (e_ho : Int32) (e_ov : Int32) (e_le : Int32) (e_st : Int32) (e_fo : Int32) (e_lc : Int32) (e_wa : Int64) (e_gb : Int64) (e_g : Int32) (f_g : Nat → Int32) (e_p : Int32) (f_p : Nat → Int32) (f_as : Nat → Int32) (f_sk : Nat → Int64) (f_l : Nat → Option Nat) (k_r : Int32) (k_n : Int32) (k_s : Int32) (hx : p.tables.exec = Jvm.exec) (hb : c.code = cX5_meetGlass) (hml : c.maxLocals = 9) (hown : s.vm.findClass RX5 = some m.cls) (hts : ∀ w ∈ tblG, w.before args s = true) (hK : va_K G.1 vwCl (T5 G) s) (hN : g5_N s) (hT : g5_S A s s.heap) (hA : ∀ q : Nat, s.heap.size ≤ q → A q) (hP : va_P G.1 vwCl [(a_k, (oc5 a_h a_j a_pt e_ln e_se e_lh e_br e_we e_me e_ce e_wy e_ho e_ov)), (a_h, (oc1 e_wa e_le e_st e_fo e_lc a_l a_g a_b a_s a_p a_w e_gb a_bb)), (a_g, (oc6 6 5 a_gn e_g)), (a_gn, (arI G 30 f_g)), (a_p, (oc6 8 5 a_pn e_p)), (a_pn, (arI G 40 f_p)), (a_j, (oc2 a_as a_sk)), (a_as, (arI G 8 f_as)), (a_sk, (arJ G 50 f_sk)), (a_l, (arW G 6 f_l))] H) (hD : va_D A [(a_k, (oc5 a_h a_j a_pt e_ln e_se e_lh e_br e_we e_me e_ce e_wy e_ho e_ov)), (a_h, (oc1 e_wa e_le e_st e_fo e_lc a_l a_g a_b a_s a_p a_w e_gb a_bb)), (a_g, (oc6 6 5 a_gn e_g)), (a_gn, (arI G 30 f_g)), (a_p, (oc6 8 5 a_pn e_p)), (a_pn, (arI G 40 f_p)), (a_j, (oc2 a_as a_sk)), (a_as, (arI G 8 f_as)), (a_sk, (arJ G 50 f_sk)), (a_l, (arW G 6 f_l))]) (hS : va_S A s.heap H locs) (hl : lv_has ls 9 [(0, .ref a_k), (2, .ref a_p), (3, .int k_r), (4, .int k_n), (5, .int k_s), (6, .null)]) (h_e_br : 0 ≤ e_br.toInt ∧ e_br.toInt ≤ 1000000) (h_e_ce : 0 ≤ e_ce.toInt ∧ e_ce.toInt ≤ 63) (h_e_wy : 0 ≤ e_wy.toInt ∧ e_wy.toInt ≤ 3) (h_e_ho : 0 ≤ e_ho.toInt ∧ e_ho.toInt ≤ 23) (h_e_ov : 0 ≤ e_ov.toInt ∧ e_ov.toInt ≤ 1) (h_e_g : 0 ≤ e_g.toInt ∧ e_g.toInt ≤ 6) (h_e_p : 0 ≤ e_p.toInt ∧ e_p.toInt ≤ 8) (h_k_r : 0 ≤ k_r.toInt ∧ k_r.toInt ≤ 7) (h_k_s : 0 ≤ k_s.toInt ∧ k_s.toInt ≤ 5) (e_gk : gOK f_g e_g.toInt) (e_pk : gOK f_p e_p.toInt) (e_f : e_fo.toInt < 0 ∨ e_lc.toInt ≤ e_fo.toInt) (e_r : k_r.toInt < e_p.toInt) (kk : ∀ (pc1 : Nat), decode cX5_meetGlass pc1 = .ok (.return_, 1) → ∀ (o_b : Int32) (o_w : Int32) (o_m : Int32) (o_y : Int32) (o_h : Int32) (o_v : Int32) (o_a : Nat → Int32) (o_k : Nat → Int64) (ls : Array Slot) (H : Heap) (locs : List Loc), va_P G.1 vwCl [(a_k, (oc5 a_h a_j a_pt e_ln e_se e_lh o_b o_w o_m e_ce o_y o_h o_v)), (a_h, (oc1 e_wa e_le e_st e_fo e_lc a_l a_g a_b a_s a_p a_w e_gb a_bb)), (a_g, (oc6 6 5 a_gn e_g)), (a_gn, (arI G 30 f_g)), (a_p, (oc6 8 5 a_pn e_p)), (a_pn, (arI G 40 f_p)), (a_j, (oc2 a_as a_sk)), (a_as, (arI G 8 o_a)), (a_sk, (arJ G 50 o_k)), (a_l, (arW G 6 f_l))] H → va_D A [(a_k, (oc5 a_h a_j a_pt e_ln e_se e_lh o_b o_w o_m e_ce o_y o_h o_v)), (a_h, (oc1 e_wa e_le e_st e_fo e_lc a_l a_g a_b a_s a_p a_w e_gb a_bb)), (a_g, (oc6 6 5 a_gn e_g)), (a_gn, (arI G 30 f_g)), (a_p, (oc6 8 5 a_pn e_p)), (a_pn, (arI G 40 f_p)), (a_j, (oc2 a_as a_sk)), (a_as, (arI G 8 o_a)), (a_sk, (arJ G 50 o_k)), (a_l, (arW G 6 f_l))] → va_S A s.heap H locs → (0 ≤ o_b.toInt ∧ o_b.toInt ≤ 1000000) → (0 ≤ o_y.toInt ∧ o_y.toInt ≤ 3) → (0 ≤ o_h.toInt ∧ o_h.toInt ≤ 23) → (0 ≤ o_v.toInt ∧ o_v.toInt ≤ 1) → W p l e ({ frames := 12, cells := 0, slots := 0, locals := 500 } : Room) s m args below meth c H locs 0 0 Q (F0 m pc1 ls [])) : W p l e ({ frames := 12, cells := 0, slots := 0, locals := 500 } : Room) s m args below meth c H locs 0 0 Q (F0 m 170 ls []) := by
  refine lv_aload_n hx hb dX5_meetGlass_170 rfl (lv_at hl 0 rfl) ?_
  refine va_get (D := G.1) (ci := 5) (v := .ref a_j) (C := RX5) (T := TX5) (N := 13) hx hb hts inG_X5 hown hK hP 0 rfl rfl 1 (by decide) (hts _ fl_X5_12) (fun _ h9 => h9) rfl dX5_meetGlass_171 ?_
  refine lv_aloadN hx hb dX5_meetGlass_174 (lv_at hl 5 rfl) ?_
  refine lv_iconst (v := 0) hx hb dX5_meetGlass_176 (by decide) ?_
  obtain ⟨hPc, hDc, hFc⟩ := g5_sub3 (wc := [(a_j, (oc2 a_as a_sk)), (a_as, (arI G 8 f_as)), (a_sk, (arJ G 50 f_sk))]) hP hD hS hA [6, 7, 8] (by decide) rfl
  refine va_calli (va_runV (As := [.null, .int 0]) (rest := []) ⟨hx, hb, hml, hown, hts⟩ (j_isHeldN l G a_j a_as a_sk H.size 0 f_as f_sk) (cwV 2 hts gV_X5_124 rfl rfl rfl hv_X2_isHeld ⟨Nat.le_of_ble_eq_true rfl, Nat.le_of_ble_eq_true rfl⟩) (g5_preV hPc hK hDc hN hT hS hFc (ci := 2) (q0 := 0) rfl rfl) rfl rfl hl.1 rfl (lv_room (Nat.le_of_ble_eq_true rfl)) dX5_meetGlass_177 ⟨Nat.le_of_ble_eq_true rfl, Nat.le_of_ble_eq_true rfl⟩) hS (fun q _ h => hFc q h) hFc (fun r u t H1 locs ht hvm hw hB hz1 hk1 hS => ?_)
  obtain ⟨hP1, hD1⟩ := hB
  rw [ht] at hP1
  obtain ⟨rfl, rfl⟩ := hw
  obtain ⟨hP, hD⟩ := va_join (wr := [(a_k, (oc5 a_h a_j a_pt e_ln e_se e_lh e_br e_we e_me e_ce e_wy e_ho e_ov)), (a_h, (oc1 e_wa e_le e_st e_fo e_lc a_l a_g a_b a_s a_p a_w e_gb a_bb)), (a_g, (oc6 6 5 a_gn e_g)), (a_gn, (arI G 30 f_g)), (a_p, (oc6 8 5 a_pn e_p)), (a_pn, (arI G 40 f_p)), (a_l, (arW G 6 f_l))]) hP hD [6, 7, 8] [0, 1, 2, 3, 4, 5, 9] rfl rfl (by decide) (by decide) hk1 hFc hP1 hD1
  generalize H1 = H at hP hS ⊢
  refine g5_rs [(a_k, (oc5 a_h a_j a_pt e_ln e_se e_lh e_br e_we e_me e_ce e_wy e_ho e_ov)), (a_h, (oc1 e_wa e_le e_st e_fo e_lc a_l a_g a_b a_s a_p a_w e_gb a_bb)), (a_g, (oc6 6 5 a_gn e_g)), (a_gn, (arI G 30 f_g)), (a_p, (oc6 8 5 a_pn e_p)), (a_pn, (arI G 40 f_p)), (a_l, (arW G 6 f_l)), (a_j, (oc2 a_as a_sk)), (a_as, (arI G 8 f_as)), (a_sk, (arJ G 50 f_sk))] hP hD (fun hP hD => ?_)
  refine lv_if_eq (tgt := 195) hx hb dX5_meetGlass_180 (by decide) (fun c_1 => ?_) (fun c_1 => ?_)
  ·
    refine lv_aload_n hx hb dX5_meetGlass_195 rfl (lv_at hl 1 rfl) ?_
    refine lv_iload_n hx hb dX5_meetGlass_196 rfl (lv_at hl 2 rfl) ?_
    refine lv_iconst (v := 2) hx hb dX5_meetGlass_197 (by decide) ?_
    obtain ⟨hPc, hDc, hFc⟩ := g5_sub3 (wc := [(a_p, (oc6 8 5 a_pn e_p)), (a_pn, (arI G 40 f_p))]) hP hD hS hA [4, 5] (by decide) rfl
    refine va_calli (va_runV (As := [.int k_r, .int 2]) (rest := []) ⟨hx, hb, hml, hown, hts⟩ (t_get_P l G a_p a_pn H.size e_p k_r 2 f_p ⟨by omega, by omega⟩) (cwV 2 hts gV_X5_107 rfl rfl rfl hv_X6_get ⟨Nat.le_of_ble_eq_true rfl, Nat.le_of_ble_eq_true rfl⟩) (g5_preV hPc hK hDc hN hT hS hFc (ci := 6) (q0 := 0) rfl rfl) rfl rfl hl.1 rfl (lv_room (Nat.le_of_ble_eq_true rfl)) dX5_meetGlass_198 ⟨Nat.le_of_ble_eq_true rfl, Nat.le_of_ble_eq_true rfl⟩) hS (fun q _ h => hFc q h) hFc (fun r u t H1 locs ht hvm hw hB hz1 hk1 hS => ?_)
    obtain ⟨hP1, hD1⟩ := hB
    rw [ht] at hP1
    obtain ⟨z3, i_2, y4, rfl⟩ := hw
    have i_2 : z3 = tget f_p e_p.toInt 5 k_r.toInt (2 : Int32).toInt := i_2
    obtain ⟨hP, hD⟩ := va_join (wr := [(a_k, (oc5 a_h a_j a_pt e_ln e_se e_lh e_br e_we e_me e_ce e_wy e_ho e_ov)), (a_h, (oc1 e_wa e_le e_st e_fo e_lc a_l a_g a_b a_s a_p a_w e_gb a_bb)), (a_g, (oc6 6 5 a_gn e_g)), (a_gn, (arI G 30 f_g)), (a_l, (arW G 6 f_l)), (a_j, (oc2 a_as a_sk)), (a_as, (arI G 8 f_as)), (a_sk, (arJ G 50 f_sk))]) hP hD [4, 5] [0, 1, 2, 3, 6, 7, 8, 9] rfl rfl (by decide) (by decide) hk1 hFc hP1 hD1
    generalize H1 = H at hP hS ⊢
    refine g5_rs [(a_k, (oc5 a_h a_j a_pt e_ln e_se e_lh e_br e_we e_me e_ce e_wy e_ho e_ov)), (a_h, (oc1 e_wa e_le e_st e_fo e_lc a_l a_g a_b a_s a_p a_w e_gb a_bb)), (a_g, (oc6 6 5 a_gn e_g)), (a_gn, (arI G 30 f_g)), (a_l, (arW G 6 f_l)), (a_j, (oc2 a_as a_sk)), (a_as, (arI G 8 f_as)), (a_sk, (arJ G 50 f_sk)), (a_p, (oc6 8 5 a_pn e_p)), (a_pn, (arI G 40 f_p))] hP hD (fun hP hD => ?_)
    refine g5_ti (v := z3) y4 ?_
    have hg_5 : 0 ≤ z3.toInt ∧ z3.toInt ≤ 23 := by rw [i_2]; exact (e_pk k_r.toInt (by omega) (by omega)).2.2.1
    refine lv_istore (lv' := [(7, .int z3), (0, .ref a_k), (2, .ref a_p), (3, .int k_r), (4, .int k_n), (5, .int k_s), (6, .null)]) hx hb dX5_meetGlass_201 hl (by decide) rfl (fun ls hl => ?_)
    exact k_mgpN3 G a_k a_h a_g a_gn a_p a_pn a_j a_as a_sk a_l a_pt a_b a_s a_w a_bb e_ln e_se e_lh e_br e_we e_me e_ce e_wy e_ho e_ov e_le e_st e_fo e_lc e_wa e_gb e_g f_g e_p f_p f_as f_sk f_l k_r k_n k_s z3 hx hb hml hown hts hK hN hT hA (hP.sub [0, 1, 2, 3, 8, 9, 5, 6, 7, 4] rfl) (hD.sub [0, 1, 2, 3, 8, 9, 5, 6, 7, 4] (by decide) rfl) hS (lv_sub hl [1, 2, 3, 4, 5, 6, 0] rfl) ⟨by omega, by omega⟩ ⟨by omega, by omega⟩ ⟨by omega, by omega⟩ ⟨by omega, by omega⟩ ⟨by omega, by omega⟩ ⟨by omega, by omega⟩ ⟨by omega, by omega⟩ ⟨by omega, by omega⟩ ⟨by omega, by omega⟩ ⟨by omega, by omega⟩ (e_gk) (e_pk) (e_f) (e_r) kk
  ·
    exact absurd c_1 (by decide)
set_option maxHeartbeats 4000000 in
set_option maxRecDepth 100000 in
theorem k_mgpN1 {p : Program} {l : Launch} {e : Env} {s : State} {m : MethodId} {args : Array Value} {below : List Frame} {meth : Method} {c : Code} {Q : State → Prop} {A : Nat → Prop} {H : Heap} {locs : List Loc} {ls : Array Slot} (G : g5_G) (a_k a_h a_g a_gn a_p a_pn a_j a_as a_sk a_l a_pt a_b a_s a_w a_bb : Nat) (e_ln : Int32) (e_se : Int32) (e_lh : Int32) (e_br : Int32) (e_we : Int32) (e_me : Int32) (e_ce : Int32) (e_wy : Int32) (e_ho : Int32) (e_ov : Int32) (e_le : Int32) (e_st : Int32) (e_fo : Int32) (e_lc : Int32) (e_wa : Int64) (e_gb : Int64) (e_g : Int32) (f_g : Nat → Int32) (e_p : Int32) (f_p : Nat → Int32) (f_as : Nat → Int32) (f_sk : Nat → Int64) (f_l : Nat → Option Nat) (k_r : Int32) (k_n : Int32) (hx : p.tables.exec = Jvm.exec) (hb : c.code = cX5_meetGlass) (hml : c.maxLocals = 9) (hown : s.vm.findClass RX5 = some m.cls) (hts : ∀ w ∈ tblG, w.before args s = true) (hK : va_K G.1 vwCl (T5 G) s) (hN : g5_N s) (hT : g5_S A s s.heap) (hA : ∀ q : Nat, s.heap.size ≤ q → A q) (hP : va_P G.1 vwCl [(a_k, (oc5 a_h a_j a_pt e_ln e_se e_lh e_br e_we e_me e_ce e_wy e_ho e_ov)), (a_h, (oc1 e_wa e_le e_st e_fo e_lc a_l a_g a_b a_s a_p a_w e_gb a_bb)), (a_g, (oc6 6 5 a_gn e_g)), (a_gn, (arI G 30 f_g)), (a_p, (oc6 8 5 a_pn e_p)), (a_pn, (arI G 40 f_p)), (a_j, (oc2 a_as a_sk)), (a_as, (arI G 8 f_as)), (a_sk, (arJ G 50 f_sk)), (a_l, (arW G 6 f_l))] H) (hD : va_D A [(a_k, (oc5 a_h a_j a_pt e_ln e_se e_lh e_br e_we e_me e_ce e_wy e_ho e_ov)), (a_h, (oc1 e_wa e_le e_st e_fo e_lc a_l a_g a_b a_s a_p a_w e_gb a_bb)), (a_g, (oc6 6 5 a_gn e_g)), (a_gn, (arI G 30 f_g)), (a_p, (oc6 8 5 a_pn e_p)), (a_pn, (arI G 40 f_p)), (a_j, (oc2 a_as a_sk)), (a_as, (arI G 8 f_as)), (a_sk, (arJ G 50 f_sk)), (a_l, (arW G 6 f_l))]) (hS : va_S A s.heap H locs) (hl : lv_has ls 9 [(0, .ref a_k), (2, .ref a_p), (3, .int k_r), (4, .int k_n)]) (h_e_br : 0 ≤ e_br.toInt ∧ e_br.toInt ≤ 1000000) (h_e_ce : 0 ≤ e_ce.toInt ∧ e_ce.toInt ≤ 63) (h_e_wy : 0 ≤ e_wy.toInt ∧ e_wy.toInt ≤ 3) (h_e_ho : 0 ≤ e_ho.toInt ∧ e_ho.toInt ≤ 23) (h_e_ov : 0 ≤ e_ov.toInt ∧ e_ov.toInt ≤ 1) (h_e_g : 0 ≤ e_g.toInt ∧ e_g.toInt ≤ 6) (h_e_p : 0 ≤ e_p.toInt ∧ e_p.toInt ≤ 8) (h_k_r : 0 ≤ k_r.toInt ∧ k_r.toInt ≤ 7) (e_gk : gOK f_g e_g.toInt) (e_pk : gOK f_p e_p.toInt) (e_f : e_fo.toInt < 0 ∨ e_lc.toInt ≤ e_fo.toInt) (e_r : k_r.toInt < e_p.toInt) (kk : ∀ (pc1 : Nat), decode cX5_meetGlass pc1 = .ok (.return_, 1) → ∀ (o_b : Int32) (o_w : Int32) (o_m : Int32) (o_y : Int32) (o_h : Int32) (o_v : Int32) (o_a : Nat → Int32) (o_k : Nat → Int64) (ls : Array Slot) (H : Heap) (locs : List Loc), va_P G.1 vwCl [(a_k, (oc5 a_h a_j a_pt e_ln e_se e_lh o_b o_w o_m e_ce o_y o_h o_v)), (a_h, (oc1 e_wa e_le e_st e_fo e_lc a_l a_g a_b a_s a_p a_w e_gb a_bb)), (a_g, (oc6 6 5 a_gn e_g)), (a_gn, (arI G 30 f_g)), (a_p, (oc6 8 5 a_pn e_p)), (a_pn, (arI G 40 f_p)), (a_j, (oc2 a_as a_sk)), (a_as, (arI G 8 o_a)), (a_sk, (arJ G 50 o_k)), (a_l, (arW G 6 f_l))] H → va_D A [(a_k, (oc5 a_h a_j a_pt e_ln e_se e_lh o_b o_w o_m e_ce o_y o_h o_v)), (a_h, (oc1 e_wa e_le e_st e_fo e_lc a_l a_g a_b a_s a_p a_w e_gb a_bb)), (a_g, (oc6 6 5 a_gn e_g)), (a_gn, (arI G 30 f_g)), (a_p, (oc6 8 5 a_pn e_p)), (a_pn, (arI G 40 f_p)), (a_j, (oc2 a_as a_sk)), (a_as, (arI G 8 o_a)), (a_sk, (arJ G 50 o_k)), (a_l, (arW G 6 f_l))] → va_S A s.heap H locs → (0 ≤ o_b.toInt ∧ o_b.toInt ≤ 1000000) → (0 ≤ o_y.toInt ∧ o_y.toInt ≤ 3) → (0 ≤ o_h.toInt ∧ o_h.toInt ≤ 23) → (0 ≤ o_v.toInt ∧ o_v.toInt ≤ 1) → W p l e ({ frames := 12, cells := 0, slots := 0, locals := 500 } : Room) s m args below meth c H locs 0 0 Q (F0 m pc1 ls [])) : W p l e ({ frames := 12, cells := 0, slots := 0, locals := 500 } : Room) s m args below meth c H locs 0 0 Q (F0 m 84 ls []) := by
  refine lv_aload_n hx hb dX5_meetGlass_84 rfl (lv_at hl 1 rfl) ?_
  refine lv_iload_n hx hb dX5_meetGlass_85 rfl (lv_at hl 2 rfl) ?_
  refine lv_iconst (v := 1) hx hb dX5_meetGlass_86 (by decide) ?_
  obtain ⟨hPc, hDc, hFc⟩ := g5_sub3 (wc := [(a_p, (oc6 8 5 a_pn e_p)), (a_pn, (arI G 40 f_p))]) hP hD hS hA [4, 5] (by decide) rfl
  refine va_calli (va_runV (As := [.int k_r, .int 1]) (rest := []) ⟨hx, hb, hml, hown, hts⟩ (t_get_P l G a_p a_pn H.size e_p k_r 1 f_p ⟨by omega, by omega⟩) (cwV 2 hts gV_X5_107 rfl rfl rfl hv_X6_get ⟨Nat.le_of_ble_eq_true rfl, Nat.le_of_ble_eq_true rfl⟩) (g5_preV hPc hK hDc hN hT hS hFc (ci := 6) (q0 := 0) rfl rfl) rfl rfl hl.1 rfl (lv_room (Nat.le_of_ble_eq_true rfl)) dX5_meetGlass_87 ⟨Nat.le_of_ble_eq_true rfl, Nat.le_of_ble_eq_true rfl⟩) hS (fun q _ h => hFc q h) hFc (fun r u t H1 locs ht hvm hw hB hz1 hk1 hS => ?_)
  obtain ⟨hP1, hD1⟩ := hB
  rw [ht] at hP1
  obtain ⟨z2, i_1, y3, rfl⟩ := hw
  have i_1 : z2 = tget f_p e_p.toInt 5 k_r.toInt (1 : Int32).toInt := i_1
  obtain ⟨hP, hD⟩ := va_join (wr := [(a_k, (oc5 a_h a_j a_pt e_ln e_se e_lh e_br e_we e_me e_ce e_wy e_ho e_ov)), (a_h, (oc1 e_wa e_le e_st e_fo e_lc a_l a_g a_b a_s a_p a_w e_gb a_bb)), (a_g, (oc6 6 5 a_gn e_g)), (a_gn, (arI G 30 f_g)), (a_j, (oc2 a_as a_sk)), (a_as, (arI G 8 f_as)), (a_sk, (arJ G 50 f_sk)), (a_l, (arW G 6 f_l))]) hP hD [4, 5] [0, 1, 2, 3, 6, 7, 8, 9] rfl rfl (by decide) (by decide) hk1 hFc hP1 hD1
  generalize H1 = H at hP hS ⊢
  refine g5_rs [(a_k, (oc5 a_h a_j a_pt e_ln e_se e_lh e_br e_we e_me e_ce e_wy e_ho e_ov)), (a_h, (oc1 e_wa e_le e_st e_fo e_lc a_l a_g a_b a_s a_p a_w e_gb a_bb)), (a_g, (oc6 6 5 a_gn e_g)), (a_gn, (arI G 30 f_g)), (a_j, (oc2 a_as a_sk)), (a_as, (arI G 8 f_as)), (a_sk, (arJ G 50 f_sk)), (a_l, (arW G 6 f_l)), (a_p, (oc6 8 5 a_pn e_p)), (a_pn, (arI G 40 f_p))] hP hD (fun hP hD => ?_)
  refine g5_ti (v := z2) y3 ?_
  have hg_4 : 0 ≤ z2.toInt ∧ z2.toInt ≤ 5 := by rw [i_1]; exact (e_pk k_r.toInt (by omega) (by omega)).2.1
  refine lv_istore (lv' := [(5, .int z2), (0, .ref a_k), (2, .ref a_p), (3, .int k_r), (4, .int k_n)]) hx hb dX5_meetGlass_90 hl (by decide) rfl (fun ls hl => ?_)
  refine lv_aload_n hx hb dX5_meetGlass_92 rfl (lv_at hl 1 rfl) ?_
  refine lv_dup hx hb dX5_meetGlass_93 rfl ?_
  refine va_get (D := G.1) (ci := 5) (v := .int e_me) (C := RX5) (T := TX5) (N := 13) hx hb hts inG_X5 hown hK hP 0 rfl rfl 8 (by decide) (hts _ fl_X5_95) (fun _ h9 => h9) rfl dX5_meetGlass_94 ?_
  refine lv_iconst (v := 1) hx hb dX5_meetGlass_97 (by decide) ?_
  refine lv_iload hx hb dX5_meetGlass_98 (lv_at hl 4 rfl) ?_
  refine lv_ishl hx hb dX5_meetGlass_100 ?_
  refine lv_ior hx hb dX5_meetGlass_101 ?_
  refine va_put (D := G.1) (ci := 5) (v := .int (e_me ||| (1 <<< (k_n &&& 31)))) (ty := .int) (C := RX5) (T := TX5) (N := 13) hx hb hts inG_X5 tyX5 tyX5_ok nmX5 hown hK hP hD hS 0 rfl rfl 8 (by decide) (hts _ fl_X5_95) (fun _ h9 => h9) rfl (by decide +kernel) rfl rfl (Nat.le_of_ble_eq_true rfl) dX5_meetGlass_102 (fun H locs hP hD hS => ?_)
  refine g5_rs [(a_k, (oc5 a_h a_j a_pt e_ln e_se e_lh e_br e_we (e_me ||| (1 <<< (k_n &&& 31))) e_ce e_wy e_ho e_ov)), (a_h, (oc1 e_wa e_le e_st e_fo e_lc a_l a_g a_b a_s a_p a_w e_gb a_bb)), (a_g, (oc6 6 5 a_gn e_g)), (a_gn, (arI G 30 f_g)), (a_j, (oc2 a_as a_sk)), (a_as, (arI G 8 f_as)), (a_sk, (arJ G 50 f_sk)), (a_l, (arW G 6 f_l)), (a_p, (oc6 8 5 a_pn e_p)), (a_pn, (arI G 40 f_p))] hP hD (fun hP hD => ?_)
  refine lv_aload_n hx hb dX5_meetGlass_105 rfl (lv_at hl 1 rfl) ?_
  refine va_get (D := G.1) (ci := 5) (v := .ref a_h) (C := RX5) (T := TX5) (N := 13) hx hb hts inG_X5 hown hK hP 0 rfl rfl 0 (by decide) (hts _ fl_X5_22) (fun _ h9 => h9) rfl dX5_meetGlass_106 ?_
  obtain ⟨hPc, hDc, hFc⟩ := g5_sub3 (wc := [(a_h, (oc1 e_wa e_le e_st e_fo e_lc a_l a_g a_b a_s a_p a_w e_gb a_bb)), (a_l, (arW G 6 f_l))]) hP hD hS hA [1, 7] (by decide) rfl
  refine va_callq (va_runV (As := []) (rest := []) ⟨hx, hb, hml, hown, hts⟩ (h_lawN l G a_h a_l a_g a_b a_s a_p a_w a_bb H.size e_le e_st e_fo e_lc e_wa e_gb f_l (e_f)) (cwV 0 hts gV_X5_113 rfl rfl rfl hv_X1_lawInForce ⟨Nat.le_of_ble_eq_true rfl, Nat.le_of_ble_eq_true rfl⟩) (g5_preV hPc hK hDc hN hT hS hFc (ci := 1) (q0 := 0) rfl rfl) rfl rfl hl.1 rfl (lv_room (Nat.le_of_ble_eq_true rfl)) dX5_meetGlass_109 ⟨Nat.le_of_ble_eq_true rfl, Nat.le_of_ble_eq_true rfl⟩) hS (fun q _ h => hFc q h) hFc (fun r u t H1 locs ht hvm hw hB hz1 hk1 hS => ?_)
  obtain ⟨hP1, hD1⟩ := hB
  rw [ht] at hP1
  obtain ⟨rfl, rfl⟩ := hw
  obtain ⟨hP, hD⟩ := va_join (wr := [(a_k, (oc5 a_h a_j a_pt e_ln e_se e_lh e_br e_we (e_me ||| (1 <<< (k_n &&& 31))) e_ce e_wy e_ho e_ov)), (a_g, (oc6 6 5 a_gn e_g)), (a_gn, (arI G 30 f_g)), (a_j, (oc2 a_as a_sk)), (a_as, (arI G 8 f_as)), (a_sk, (arJ G 50 f_sk)), (a_p, (oc6 8 5 a_pn e_p)), (a_pn, (arI G 40 f_p))]) hP hD [1, 7] [0, 2, 3, 4, 5, 6, 8, 9] rfl rfl (by decide) (by decide) hk1 hFc hP1 hD1
  generalize H1 = H at hP hS ⊢
  refine g5_rs [(a_k, (oc5 a_h a_j a_pt e_ln e_se e_lh e_br e_we (e_me ||| (1 <<< (k_n &&& 31))) e_ce e_wy e_ho e_ov)), (a_g, (oc6 6 5 a_gn e_g)), (a_gn, (arI G 30 f_g)), (a_j, (oc2 a_as a_sk)), (a_as, (arI G 8 f_as)), (a_sk, (arJ G 50 f_sk)), (a_p, (oc6 8 5 a_pn e_p)), (a_pn, (arI G 40 f_p)), (a_h, (oc1 e_wa e_le e_st e_fo e_lc a_l a_g a_b a_s a_p a_w e_gb a_bb)), (a_l, (arW G 6 f_l))] hP hD (fun hP hD => ?_)
  refine g5_tv (v := .null) rfl ?_
  refine lv_astoreN (lv' := [(6, .null), (5, .int z2), (0, .ref a_k), (2, .ref a_p), (3, .int k_r), (4, .int k_n)]) hx hb dX5_meetGlass_112 hl (by decide) rfl (fun ls hl => ?_)
  refine lv_aload_n hx hb dX5_meetGlass_114 rfl (lv_at hl 2 rfl) ?_
  refine lv_iload hx hb dX5_meetGlass_115 (lv_at hl 5 rfl) ?_
  refine lv_iconst (v := (-1)) hx hb dX5_meetGlass_117 (by decide) ?_
  obtain ⟨hPc, hDc, hFc⟩ := g5_sub3 (wc := [(a_k, (oc5 a_h a_j a_pt e_ln e_se e_lh e_br e_we (e_me ||| (1 <<< (k_n &&& 31))) e_ce e_wy e_ho e_ov)), (a_j, (oc2 a_as a_sk)), (a_as, (arI G 8 f_as))]) hP hD hS hA [0, 3, 4] (by decide) rfl
  refine va_callv (va_runV (As := [.int k_n, .int (-1)]) (rest := []) ⟨hx, hb, hml, hown, hts⟩ (k_ask l G a_k a_j a_as a_h a_pt a_sk H.size e_ln e_se e_lh e_br e_we (e_me ||| (1 <<< (k_n &&& 31))) e_ce e_wy e_ho e_ov k_n (-1) f_as ⟨by omega, by omega⟩ ⟨by omega, by omega⟩ ⟨by omega, by omega⟩ ⟨by omega, by omega⟩ ⟨by omega, by omega⟩) (cwV 2 hts gV_X5_120 rfl rfl rfl hv_X5_ask ⟨Nat.le_of_ble_eq_true rfl, Nat.le_of_ble_eq_true rfl⟩) (g5_preV hPc hK hDc hN hT hS hFc (ci := 5) (q0 := 0) rfl rfl) rfl rfl hl.1 rfl (lv_room (Nat.le_of_ble_eq_true rfl)) dX5_meetGlass_118 ⟨Nat.le_of_ble_eq_true rfl, Nat.le_of_ble_eq_true rfl⟩) hS (fun q _ h => hFc q h) hFc (fun u t H1 locs ht hvm hw hB hz1 hk1 hS => ?_)
  obtain ⟨hP1, hD1⟩ := hB
  rw [ht] at hP1
  obtain ⟨z5, rfl⟩ := hw
  obtain ⟨hP, hD⟩ := va_join (wr := [(a_g, (oc6 6 5 a_gn e_g)), (a_gn, (arI G 30 f_g)), (a_sk, (arJ G 50 f_sk)), (a_p, (oc6 8 5 a_pn e_p)), (a_pn, (arI G 40 f_p)), (a_h, (oc1 e_wa e_le e_st e_fo e_lc a_l a_g a_b a_s a_p a_w e_gb a_bb)), (a_l, (arW G 6 f_l))]) hP hD [0, 3, 4] [1, 2, 5, 6, 7, 8, 9] rfl rfl (by decide) (by decide) hk1 hFc hP1 hD1
  generalize H1 = H at hP hS ⊢
  refine g5_rs [(a_g, (oc6 6 5 a_gn e_g)), (a_gn, (arI G 30 f_g)), (a_sk, (arJ G 50 f_sk)), (a_p, (oc6 8 5 a_pn e_p)), (a_pn, (arI G 40 f_p)), (a_h, (oc1 e_wa e_le e_st e_fo e_lc a_l a_g a_b a_s a_p a_w e_gb a_bb)), (a_l, (arW G 6 f_l)), (a_k, (oc5 a_h a_j a_pt e_ln e_se e_lh e_br e_we (e_me ||| (1 <<< (k_n &&& 31))) e_ce e_wy e_ho e_ov)), (a_j, (oc2 a_as a_sk)), (a_as, (arI G 8 z5))] hP hD (fun hP hD => ?_)
  refine lv_aload_n hx hb dX5_meetGlass_121 rfl (lv_at hl 3 rfl) ?_
  refine lv_iload_n hx hb dX5_meetGlass_122 rfl (lv_at hl 4 rfl) ?_
  refine lv_iconst (v := 4) hx hb dX5_meetGlass_123 (by decide) ?_
  obtain ⟨hPc, hDc, hFc⟩ := g5_sub3 (wc := [(a_p, (oc6 8 5 a_pn e_p)), (a_pn, (arI G 40 f_p))]) hP hD hS hA [3, 4] (by decide) rfl
  refine va_calli (va_runV (As := [.int k_r, .int 4]) (rest := []) ⟨hx, hb, hml, hown, hts⟩ (t_get_P l G a_p a_pn H.size e_p k_r 4 f_p ⟨by omega, by omega⟩) (cwV 2 hts gV_X5_107 rfl rfl rfl hv_X6_get ⟨Nat.le_of_ble_eq_true rfl, Nat.le_of_ble_eq_true rfl⟩) (g5_preV hPc hK hDc hN hT hS hFc (ci := 6) (q0 := 0) rfl rfl) rfl rfl hl.1 rfl (lv_room (Nat.le_of_ble_eq_true rfl)) dX5_meetGlass_124 ⟨Nat.le_of_ble_eq_true rfl, Nat.le_of_ble_eq_true rfl⟩) hS (fun q _ h => hFc q h) hFc (fun r u t H1 locs ht hvm hw hB hz1 hk1 hS => ?_)
  obtain ⟨hP1, hD1⟩ := hB
  rw [ht] at hP1
  obtain ⟨z7, i_6, y8, rfl⟩ := hw
  have i_6 : z7 = tget f_p e_p.toInt 5 k_r.toInt (4 : Int32).toInt := i_6
  obtain ⟨hP, hD⟩ := va_join (wr := [(a_g, (oc6 6 5 a_gn e_g)), (a_gn, (arI G 30 f_g)), (a_sk, (arJ G 50 f_sk)), (a_h, (oc1 e_wa e_le e_st e_fo e_lc a_l a_g a_b a_s a_p a_w e_gb a_bb)), (a_l, (arW G 6 f_l)), (a_k, (oc5 a_h a_j a_pt e_ln e_se e_lh e_br e_we (e_me ||| (1 <<< (k_n &&& 31))) e_ce e_wy e_ho e_ov)), (a_j, (oc2 a_as a_sk)), (a_as, (arI G 8 z5))]) hP hD [3, 4] [0, 1, 2, 5, 6, 7, 8, 9] rfl rfl (by decide) (by decide) hk1 hFc hP1 hD1
  generalize H1 = H at hP hS ⊢
  refine g5_rs [(a_g, (oc6 6 5 a_gn e_g)), (a_gn, (arI G 30 f_g)), (a_sk, (arJ G 50 f_sk)), (a_h, (oc1 e_wa e_le e_st e_fo e_lc a_l a_g a_b a_s a_p a_w e_gb a_bb)), (a_l, (arW G 6 f_l)), (a_k, (oc5 a_h a_j a_pt e_ln e_se e_lh e_br e_we (e_me ||| (1 <<< (k_n &&& 31))) e_ce e_wy e_ho e_ov)), (a_j, (oc2 a_as a_sk)), (a_as, (arI G 8 z5)), (a_p, (oc6 8 5 a_pn e_p)), (a_pn, (arI G 40 f_p))] hP hD (fun hP hD => ?_)
  refine g5_ti (v := z7) y8 ?_
  refine lv_aload_n hx hb dX5_meetGlass_127 rfl (lv_at hl 2 rfl) ?_
  refine va_get (D := G.1) (ci := 5) (v := .int e_ho) (C := RX5) (T := TX5) (N := 13) hx hb hts inG_X5 hown hK hP 5 rfl rfl 11 (by decide) (hts _ fl_X5_33) (fun _ h9 => h9) rfl dX5_meetGlass_128 ?_
  refine lv_ishr hx hb dX5_meetGlass_131 ?_
  refine lv_iconst (v := 1) hx hb dX5_meetGlass_132 (by decide) ?_
  refine lv_iand hx hb dX5_meetGlass_133 ?_
  refine lv_if_ne (tgt := 169) hx hb dX5_meetGlass_134 (by decide) (fun c_9 => ?_) (fun c_9 => ?_)
  ·
    have n_9 : gNe (((z7 >>> (e_ho &&& 31)) &&& 1).toInt) (0) := by have z := g5_ne (a := ((z7 >>> (e_ho &&& 31)) &&& 1).toInt) (b := 0) (by rfl) (by decide) c_9; unfold gNe; omega
    exact kk 169 dX5_meetGlass_169 e_br e_we (e_me ||| (1 <<< (k_n &&& 31))) e_wy e_ho e_ov z5 f_sk ls H locs (hP.sub [5, 3, 0, 1, 8, 9, 6, 7, 2, 4] rfl) (hD.sub [5, 3, 0, 1, 8, 9, 6, 7, 2, 4] (by decide) rfl) hS (⟨by omega, by omega⟩) (⟨by omega, by omega⟩) (⟨by omega, by omega⟩) (⟨by omega, by omega⟩)
  ·
    have i_9 : ((z7 >>> (e_ho &&& 31)) &&& 1).toInt = 0 := by have z := g5_neN (a := ((z7 >>> (e_ho &&& 31)) &&& 1).toInt) (b := 0) (by rfl) (by decide) c_9; omega
    refine lv_aload_n hx hb dX5_meetGlass_137 rfl (lv_at hl 2 rfl) ?_
    refine va_get (D := G.1) (ci := 5) (v := .ref a_j) (C := RX5) (T := TX5) (N := 13) hx hb hts inG_X5 hown hK hP 5 rfl rfl 1 (by decide) (hts _ fl_X5_12) (fun _ h9 => h9) rfl dX5_meetGlass_138 ?_
    refine lv_aloadN hx hb dX5_meetGlass_141 (lv_at hl 0 rfl) ?_
    refine lv_iconst (v := 2) hx hb dX5_meetGlass_143 (by decide) ?_
    obtain ⟨hPc, hDc, hFc⟩ := g5_sub3 (wc := [(a_j, (oc2 a_as a_sk)), (a_as, (arI G 8 z5)), (a_sk, (arJ G 50 f_sk))]) hP hD hS hA [6, 7, 2] (by decide) rfl
    refine va_calli (va_runV (As := [.null, .int 2]) (rest := []) ⟨hx, hb, hml, hown, hts⟩ (j_isHeldN l G a_j a_as a_sk H.size 2 z5 f_sk) (cwV 2 hts gV_X5_124 rfl rfl rfl hv_X2_isHeld ⟨Nat.le_of_ble_eq_true rfl, Nat.le_of_ble_eq_true rfl⟩) (g5_preV hPc hK hDc hN hT hS hFc (ci := 2) (q0 := 0) rfl rfl) rfl rfl hl.1 rfl (lv_room (Nat.le_of_ble_eq_true rfl)) dX5_meetGlass_144 ⟨Nat.le_of_ble_eq_true rfl, Nat.le_of_ble_eq_true rfl⟩) hS (fun q _ h => hFc q h) hFc (fun r u t H1 locs ht hvm hw hB hz1 hk1 hS => ?_)
    obtain ⟨hP1, hD1⟩ := hB
    rw [ht] at hP1
    obtain ⟨rfl, rfl⟩ := hw
    obtain ⟨hP, hD⟩ := va_join (wr := [(a_g, (oc6 6 5 a_gn e_g)), (a_gn, (arI G 30 f_g)), (a_h, (oc1 e_wa e_le e_st e_fo e_lc a_l a_g a_b a_s a_p a_w e_gb a_bb)), (a_l, (arW G 6 f_l)), (a_k, (oc5 a_h a_j a_pt e_ln e_se e_lh e_br e_we (e_me ||| (1 <<< (k_n &&& 31))) e_ce e_wy e_ho e_ov)), (a_p, (oc6 8 5 a_pn e_p)), (a_pn, (arI G 40 f_p))]) hP hD [6, 7, 2] [0, 1, 3, 4, 5, 8, 9] rfl rfl (by decide) (by decide) hk1 hFc hP1 hD1
    generalize H1 = H at hP hS ⊢
    refine g5_rs [(a_g, (oc6 6 5 a_gn e_g)), (a_gn, (arI G 30 f_g)), (a_h, (oc1 e_wa e_le e_st e_fo e_lc a_l a_g a_b a_s a_p a_w e_gb a_bb)), (a_l, (arW G 6 f_l)), (a_k, (oc5 a_h a_j a_pt e_ln e_se e_lh e_br e_we (e_me ||| (1 <<< (k_n &&& 31))) e_ce e_wy e_ho e_ov)), (a_p, (oc6 8 5 a_pn e_p)), (a_pn, (arI G 40 f_p)), (a_j, (oc2 a_as a_sk)), (a_as, (arI G 8 z5)), (a_sk, (arJ G 50 f_sk))] hP hD (fun hP hD => ?_)
    refine lv_if_ne (tgt := 169) hx hb dX5_meetGlass_147 (by decide) (fun c_10 => ?_) (fun c_10 => ?_)
    ·
      exact absurd c_10 (by decide)
    ·
      refine lv_iload hx hb dX5_meetGlass_150 (lv_at hl 1 rfl) ?_
      refine lv_iconst (v := 2) hx hb dX5_meetGlass_152 (by decide) ?_
      refine lv_icmp_lt (tgt := 170) hx hb dX5_meetGlass_153 (by decide) (fun c_11 => ?_) (fun c_11 => ?_)
      ·
        have i_11 : z2.toInt < 2 := by have z := g5_lt (a := z2.toInt) (b := 2) (by rfl) (by decide) c_11; omega
        exact k_mgpN2 G a_k a_h a_g a_gn a_p a_pn a_j a_as a_sk a_l a_pt a_b a_s a_w a_bb e_ln e_se e_lh e_br e_we (e_me ||| (1 <<< (k_n &&& 31))) e_ce e_wy e_ho e_ov e_le e_st e_fo e_lc e_wa e_gb e_g f_g e_p f_p z5 f_sk f_l k_r k_n z2 hx hb hml hown hts hK hN hT hA (hP.sub [4, 2, 0, 1, 5, 6, 7, 8, 9, 3] rfl) (hD.sub [4, 2, 0, 1, 5, 6, 7, 8, 9, 3] (by decide) rfl) hS (lv_sub hl [2, 3, 4, 5, 1, 0] rfl) ⟨by omega, by omega⟩ ⟨by omega, by omega⟩ ⟨by omega, by omega⟩ ⟨by omega, by omega⟩ ⟨by omega, by omega⟩ ⟨by omega, by omega⟩ ⟨by omega, by omega⟩ ⟨by omega, by omega⟩ ⟨by omega, by omega⟩ (e_gk) (e_pk) (e_f) (e_r) kk
      ·
        have i_11 : z2.toInt ≥ 2 := by have z := g5_ltN (a := z2.toInt) (b := 2) (by rfl) (by decide) c_11; omega
        refine lv_iload hx hb dX5_meetGlass_156 (lv_at hl 1 rfl) ?_
        refine lv_iconst (v := 2) hx hb dX5_meetGlass_158 (by decide) ?_
        refine lv_isub hx hb dX5_meetGlass_159 ?_
        have t_12 : (z2 - 2).toInt = z2.toInt - 2 := g5_isub (a := z2.toInt) (b := 2) (by rfl) (by decide) (by omega) (by omega)
        refine lv_aload_n hx hb dX5_meetGlass_160 rfl (lv_at hl 2 rfl) ?_
        refine va_get (D := G.1) (ci := 5) (v := .int e_wy) (C := RX5) (T := TX5) (N := 13) hx hb hts inG_X5 hown hK hP 4 rfl rfl 10 (by decide) (hts _ fl_X5_30) (fun _ h9 => h9) rfl dX5_meetGlass_161 ?_
        refine lv_iconst (v := 2) hx hb dX5_meetGlass_164 (by decide) ?_
        refine lv_ixor hx hb dX5_meetGlass_165 ?_
        have hx_13 := (g_xor (w := e_wy) (by omega) (by omega)).2
        refine lv_icmp_eq (tgt := 170) hx hb dX5_meetGlass_166 (by decide) (fun c_14 => ?_) (fun c_14 => ?_)
        ·
          have i_14 : (z2.toInt - 2) = (e_wy ^^^ 2).toInt := by have z := g5_eq (a := (z2 - 2).toInt) (b := (e_wy ^^^ 2).toInt) (by rfl) (by rfl) c_14; omega
          exact k_mgpN2 G a_k a_h a_g a_gn a_p a_pn a_j a_as a_sk a_l a_pt a_b a_s a_w a_bb e_ln e_se e_lh e_br e_we (e_me ||| (1 <<< (k_n &&& 31))) e_ce e_wy e_ho e_ov e_le e_st e_fo e_lc e_wa e_gb e_g f_g e_p f_p z5 f_sk f_l k_r k_n z2 hx hb hml hown hts hK hN hT hA (hP.sub [4, 2, 0, 1, 5, 6, 7, 8, 9, 3] rfl) (hD.sub [4, 2, 0, 1, 5, 6, 7, 8, 9, 3] (by decide) rfl) hS (lv_sub hl [2, 3, 4, 5, 1, 0] rfl) ⟨by omega, by omega⟩ ⟨by omega, by omega⟩ ⟨by omega, by omega⟩ ⟨by omega, by omega⟩ ⟨by omega, by omega⟩ ⟨by omega, by omega⟩ ⟨by omega, by omega⟩ ⟨by omega, by omega⟩ ⟨by omega, by omega⟩ (e_gk) (e_pk) (e_f) (e_r) kk
        ·
          have n_14 : gNe ((z2.toInt - 2)) ((e_wy ^^^ 2).toInt) := by have z := g5_eqN (a := (z2 - 2).toInt) (b := (e_wy ^^^ 2).toInt) (by rfl) (by rfl) c_14; unfold gNe; omega
          exact kk 169 dX5_meetGlass_169 e_br e_we (e_me ||| (1 <<< (k_n &&& 31))) e_wy e_ho e_ov z5 f_sk ls H locs (hP.sub [4, 2, 0, 1, 5, 6, 7, 8, 9, 3] rfl) (hD.sub [4, 2, 0, 1, 5, 6, 7, 8, 9, 3] (by decide) rfl) hS (⟨by omega, by omega⟩) (⟨by omega, by omega⟩) (⟨by omega, by omega⟩) (⟨by omega, by omega⟩)
theorem fl_X5_128 : Cond.fieldLink RX5 128 "LateGlass$House" "glasses" "LLateGlass$Table;" ∈ tblG := tg 172 (by decide +kernel) (by decide +kernel)
theorem ml_X5_131 : Cond.methodLink RX5 131 yX6_find ∈ tblG := tg 859 (by decide +kernel) (by decide +kernel)
theorem gV_X5_131 : GoodIn tblG (wsV RX5 131 RX6 yX6_find (wsG yX6_find cX6_find 4 (some .int))) := tgV ml_X5_131 im_X6_find se_X6_find ini_X6 gW_X6_find
set_option maxHeartbeats 4000000 in
set_option maxRecDepth 100000 in
theorem k_meetGlassN (l : Launch) (G : g5_G) (a_k a_h a_g a_gn a_p a_pn a_j a_as a_sk a_l a_pt a_b a_s a_w a_bb : Nat) (sz : Nat) (e_ln : Int32) (e_se : Int32) (e_lh : Int32) (e_br : Int32) (e_we : Int32) (e_me : Int32) (e_ce : Int32) (e_wy : Int32) (e_ho : Int32) (e_ov : Int32) (e_le : Int32) (e_st : Int32) (e_fo : Int32) (e_lc : Int32) (e_g : Int32) (e_p : Int32) (e_wa : Int64) (e_gb : Int64) (f_g : Nat → Int32) (f_p : Nat → Int32) (f_as : Nat → Int32) (f_sk : Nat → Int64) (f_l : Nat → Option Nat) (h_e_br : 0 ≤ e_br.toInt ∧ e_br.toInt ≤ 1000000) (h_e_ce : 0 ≤ e_ce.toInt ∧ e_ce.toInt ≤ 63) (h_e_wy : 0 ≤ e_wy.toInt ∧ e_wy.toInt ≤ 3) (h_e_ho : 0 ≤ e_ho.toInt ∧ e_ho.toInt ≤ 23) (h_e_ov : 0 ≤ e_ov.toInt ∧ e_ov.toInt ≤ 1) (h_e_g : 0 ≤ e_g.toInt ∧ e_g.toInt ≤ 6) (h_e_p : 0 ≤ e_p.toInt ∧ e_p.toInt ≤ 8) (e_gk : gOK f_g e_g.toInt) (e_pk : gOK f_p e_p.toInt) (e_in : inR f_g e_g.toInt e_ce.toInt ∨ inR f_p e_p.toInt e_ce.toInt) (e_f : e_fo.toInt < 0 ∨ e_lc.toInt ≤ e_fo.toInt) : Met l yX5_meetGlass (wsG yX5_meetGlass cX5_meetGlass 9 none) ({ frames := 12, cells := 0, slots := 0, locals := 500 }) (va_Pc [.ref a_k] (g5_P G [(a_k, (oc5 a_h a_j a_pt e_ln e_se e_lh e_br e_we e_me e_ce e_wy e_ho e_ov)), (a_h, (oc1 e_wa e_le e_st e_fo e_lc a_l a_g a_b a_s a_p a_w e_gb a_bb)), (a_g, (oc6 6 5 a_gn e_g)), (a_gn, (arI G 30 f_g)), (a_p, (oc6 8 5 a_pn e_p)), (a_pn, (arI G 40 f_p)), (a_j, (oc2 a_as a_sk)), (a_as, (arI G 8 f_as)), (a_sk, (arJ G 50 f_sk)), (a_l, (arW G 6 f_l))] sz)) (va_Qv (fun (u : va_W) => (∃ (o_b : Int32) (o_w : Int32) (o_m : Int32) (o_y : Int32) (o_h : Int32) (o_v : Int32) (o_a : Nat → Int32) (o_k : Nat → Int64), (0 ≤ o_b.toInt ∧ o_b.toInt ≤ 1000000) ∧ (0 ≤ o_y.toInt ∧ o_y.toInt ≤ 3) ∧ (0 ≤ o_h.toInt ∧ o_h.toInt ≤ 23) ∧ (0 ≤ o_v.toInt ∧ o_v.toInt ≤ 1) ∧ (u = [(a_k, (oc5 a_h a_j a_pt e_ln e_se e_lh o_b o_w o_m e_ce o_y o_h o_v)), (a_h, (oc1 e_wa e_le e_st e_fo e_lc a_l a_g a_b a_s a_p a_w e_gb a_bb)), (a_g, (oc6 6 5 a_gn e_g)), (a_gn, (arI G 30 f_g)), (a_p, (oc6 8 5 a_pn e_p)), (a_pn, (arI G 40 f_p)), (a_j, (oc2 a_as a_sk)), (a_as, (arI G 8 o_a)), (a_sk, (arJ G 50 o_k)), (a_l, (arW G 6 f_l))]))) (g5_B G (va_A [(a_k, (oc5 a_h a_j a_pt e_ln e_se e_lh e_br e_we e_me e_ce e_wy e_ho e_ov)), (a_h, (oc1 e_wa e_le e_st e_fo e_lc a_l a_g a_b a_s a_p a_w e_gb a_bb)), (a_g, (oc6 6 5 a_gn e_g)), (a_gn, (arI G 30 f_g)), (a_p, (oc6 8 5 a_pn e_p)), (a_pn, (arI G 40 f_p)), (a_j, (oc2 a_as a_sk)), (a_as, (arI G 8 f_as)), (a_sk, (arJ G 50 f_sk)), (a_l, (arW G 6 f_l))] sz)) (va_A [(a_k, (oc5 a_h a_j a_pt e_ln e_se e_lh e_br e_we e_me e_ce e_wy e_ho e_ov)), (a_h, (oc1 e_wa e_le e_st e_fo e_lc a_l a_g a_b a_s a_p a_w e_gb a_bb)), (a_g, (oc6 6 5 a_gn e_g)), (a_gn, (arI G 30 f_g)), (a_p, (oc6 8 5 a_pn e_p)), (a_pn, (arI G 40 f_p)), (a_j, (oc2 a_as a_sk)), (a_as, (arI G 8 f_as)), (a_sk, (arJ G 50 f_sk)), (a_l, (arW G 6 f_l))] sz)) 0 0 (va_A [(a_k, (oc5 a_h a_j a_pt e_ln e_se e_lh e_br e_we e_me e_ce e_wy e_ho e_ov)), (a_h, (oc1 e_wa e_le e_st e_fo e_lc a_l a_g a_b a_s a_p a_w e_gb a_bb)), (a_g, (oc6 6 5 a_gn e_g)), (a_gn, (arI G 30 f_g)), (a_p, (oc6 8 5 a_pn e_p)), (a_pn, (arI G 40 f_p)), (a_j, (oc2 a_as a_sk)), (a_as, (arI G 8 f_as)), (a_sk, (arJ G 50 f_sk)), (a_l, (arW G 6 f_l))] sz) := by
  refine Met.ofW (cc := cX5_meetGlass) (maxL := 9) (ret := none) (by decide) rfl ?_
  intro p e s m args below meth c s₁ B hml hv
  obtain ⟨rfl, hsz, hP, hK, hD0, hN, hT⟩ := hv
  have hx := B.exec
  have hb := B.bytes
  have hr := B.returns
  have hts : ∀ w ∈ tblG, w.before _ s = true := fun w h => atoms_spec (ws := (wsG yX5_meetGlass cX5_meetGlass 9 none)) B.pre w (List.mem_cons_of_mem _ h)
  have hown : s.vm.findClass RX5 = some m.cls := findClass_of_methodNamed B.named
  have hlocks := B.notSynchronized
  subst hsz
  have hD := hD0.self (sz := s.heap.size)
  generalize hAe : va_A [(a_k, (oc5 a_h a_j a_pt e_ln e_se e_lh e_br e_we e_me e_ce e_wy e_ho e_ov)), (a_h, (oc1 e_wa e_le e_st e_fo e_lc a_l a_g a_b a_s a_p a_w e_gb a_bb)), (a_g, (oc6 6 5 a_gn e_g)), (a_gn, (arI G 30 f_g)), (a_p, (oc6 8 5 a_pn e_p)), (a_pn, (arI G 40 f_p)), (a_j, (oc2 a_as a_sk)), (a_as, (arI G 8 f_as)), (a_sk, (arJ G 50 f_sk)), (a_l, (arW G 6 f_l))] s.heap.size = A at hD hT ⊢
  have hA : ∀ q : Nat, s.heap.size ≤ q → A q := fun q h => by rw [← hAe]; exact Or.inr h
  have hS : va_S A s.heap s.heap [] := va_S.rf
  have hP : va_P G.1 vwCl [(a_k, (oc5 a_h a_j a_pt e_ln e_se e_lh e_br e_we e_me e_ce e_wy e_ho e_ov)), (a_h, (oc1 e_wa e_le e_st e_fo e_lc a_l a_g a_b a_s a_p a_w e_gb a_bb)), (a_g, (oc6 6 5 a_gn e_g)), (a_gn, (arI G 30 f_g)), (a_p, (oc6 8 5 a_pn e_p)), (a_pn, (arI G 40 f_p)), (a_j, (oc2 a_as a_sk)), (a_as, (arI G 8 f_as)), (a_sk, (arJ G 50 f_sk)), (a_l, (arW G 6 f_l))] s.heap := hP
  have hl := lv_entry ([.ref a_k]) (n := 9) (Nat.le_of_ble_eq_true rfl)
  rw [lg_entry_eq]
  generalize (lg_sl ([.ref a_k]) ++ List.replicate (9 - (lg_sl ([.ref a_k])).length) Slot.unset).toArray = ls at hl ⊢
  have hl : lv_has ls 9 [(0, .ref a_k)] := hl
  refine lv_aload_n hx hb dX5_meetGlass_0 rfl (lv_at hl 0 rfl) ?_
  refine lv_iconst (v := 1) hx hb dX5_meetGlass_1 (by decide) ?_
  refine va_put (D := G.1) (ci := 5) (v := .int 1) (ty := .boolean) (C := RX5) (T := TX5) (N := 13) hx hb hts inG_X5 tyX5 tyX5_ok nmX5 hown hK hP hD hS 0 rfl rfl 12 (by decide) (hts _ fl_X5_56) (fun _ h9 => h9) rfl (by decide +kernel) rfl rfl (Nat.le_of_ble_eq_true rfl) dX5_meetGlass_2 (fun H locs hP hD hS => ?_)
  refine g5_rs [(a_k, (oc5 a_h a_j a_pt e_ln e_se e_lh e_br e_we e_me e_ce e_wy e_ho 1)), (a_h, (oc1 e_wa e_le e_st e_fo e_lc a_l a_g a_b a_s a_p a_w e_gb a_bb)), (a_g, (oc6 6 5 a_gn e_g)), (a_gn, (arI G 30 f_g)), (a_p, (oc6 8 5 a_pn e_p)), (a_pn, (arI G 40 f_p)), (a_j, (oc2 a_as a_sk)), (a_as, (arI G 8 f_as)), (a_sk, (arJ G 50 f_sk)), (a_l, (arW G 6 f_l))] hP hD (fun hP hD => ?_)
  refine lv_aload_n hx hb dX5_meetGlass_5 rfl (lv_at hl 0 rfl) ?_
  refine va_get (D := G.1) (ci := 5) (v := .ref a_h) (C := RX5) (T := TX5) (N := 13) hx hb hts inG_X5 hown hK hP 0 rfl rfl 0 (by decide) (hts _ fl_X5_22) (fun _ h9 => h9) rfl dX5_meetGlass_6 ?_
  refine va_get (D := G.1) (ci := 1) (v := .ref a_g) (C := RX1) (T := TX1) (N := 13) hx hb hts inG_X1 hown hK hP 1 rfl rfl 6 (by decide) (hts _ fl_X5_128) (fun _ h9 => h9) rfl dX5_meetGlass_9 ?_
  refine lv_iconst (v := 0) hx hb dX5_meetGlass_12 (by decide) ?_
  refine lv_aload_n hx hb dX5_meetGlass_13 rfl (lv_at hl 0 rfl) ?_
  refine va_get (D := G.1) (ci := 5) (v := .int e_ce) (C := RX5) (T := TX5) (N := 13) hx hb hts inG_X5 hown hK hP 0 rfl rfl 9 (by decide) (hts _ fl_X5_26) (fun _ h9 => h9) rfl dX5_meetGlass_14 ?_
  obtain ⟨hPc, hDc, hFc⟩ := g5_sub3 (wc := [(a_g, (oc6 6 5 a_gn e_g)), (a_gn, (arI G 30 f_g))]) hP hD hS hA [2, 3] (by decide) rfl
  refine va_calli (va_runV (As := [.int 0, .int e_ce]) (rest := []) ⟨hx, hb, hml, hown, hts⟩ (t_find_G l G a_g a_gn H.size e_g 0 e_ce f_g h_e_g) (cwV 2 hts gV_X5_131 rfl rfl rfl hv_X6_find ⟨Nat.le_of_ble_eq_true rfl, Nat.le_of_ble_eq_true rfl⟩) (g5_preV hPc hK hDc hN hT hS hFc (ci := 6) (q0 := 0) rfl rfl) rfl rfl hl.1 rfl (lv_room (Nat.le_of_ble_eq_true rfl)) dX5_meetGlass_17 ⟨Nat.le_of_ble_eq_true rfl, Nat.le_of_ble_eq_true rfl⟩) hS (fun q _ h => hFc q h) hFc (fun r u t H1 locs ht hvm hw hB hz1 hk1 hS => ?_)
  obtain ⟨hP1, hD1⟩ := hB
  rw [ht] at hP1
  rcases hw with ⟨i_1, rfl, rfl⟩ | ⟨z4, i_2, i_3, y5, rfl⟩
  ·
    have i_1 : ∀ r : Int, 0 ≤ r → r < e_g.toInt → tget f_g e_g.toInt 5 r (0 : Int32).toInt ≠ e_ce := i_1
    obtain ⟨hP, hD⟩ := va_join (wr := [(a_k, (oc5 a_h a_j a_pt e_ln e_se e_lh e_br e_we e_me e_ce e_wy e_ho 1)), (a_h, (oc1 e_wa e_le e_st e_fo e_lc a_l a_g a_b a_s a_p a_w e_gb a_bb)), (a_p, (oc6 8 5 a_pn e_p)), (a_pn, (arI G 40 f_p)), (a_j, (oc2 a_as a_sk)), (a_as, (arI G 8 f_as)), (a_sk, (arJ G 50 f_sk)), (a_l, (arW G 6 f_l))]) hP hD [2, 3] [0, 1, 4, 5, 6, 7, 8, 9] rfl rfl (by decide) (by decide) hk1 hFc hP1 hD1
    generalize H1 = H at hP hS ⊢
    refine g5_rs [(a_k, (oc5 a_h a_j a_pt e_ln e_se e_lh e_br e_we e_me e_ce e_wy e_ho 1)), (a_h, (oc1 e_wa e_le e_st e_fo e_lc a_l a_g a_b a_s a_p a_w e_gb a_bb)), (a_p, (oc6 8 5 a_pn e_p)), (a_pn, (arI G 40 f_p)), (a_j, (oc2 a_as a_sk)), (a_as, (arI G 8 f_as)), (a_sk, (arJ G 50 f_sk)), (a_l, (arW G 6 f_l)), (a_g, (oc6 6 5 a_gn e_g)), (a_gn, (arI G 30 f_g))] hP hD (fun hP hD => ?_)
    refine lv_istore_n (lv' := [(1, .int (-1)), (0, .ref a_k)]) hx hb dX5_meetGlass_20 rfl hl (by decide) rfl (fun ls hl => ?_)
    refine lv_iload_n hx hb dX5_meetGlass_21 rfl (lv_at hl 0 rfl) ?_
    refine lv_iconst (v := (-1)) hx hb dX5_meetGlass_22 (by decide) ?_
    refine lv_icmp_ne (tgt := 36) hx hb dX5_meetGlass_23 (by decide) (fun c_6 => ?_) (fun c_6 => ?_)
    ·
      exact absurd c_6 (by decide)
    ·
      refine lv_aload_n hx hb dX5_meetGlass_26 rfl (lv_at hl 1 rfl) ?_
      refine va_get (D := G.1) (ci := 5) (v := .ref a_h) (C := RX5) (T := TX5) (N := 13) hx hb hts inG_X5 hown hK hP 0 rfl rfl 0 (by decide) (hts _ fl_X5_22) (fun _ h9 => h9) rfl dX5_meetGlass_27 ?_
      refine va_get (D := G.1) (ci := 1) (v := .ref a_p) (C := RX1) (T := TX1) (N := 13) hx hb hts inG_X1 hown hK hP 1 rfl rfl 9 (by decide) (hts _ fl_X5_98) (fun _ h9 => h9) rfl dX5_meetGlass_30 ?_
      refine lv_goto (tgt := 43) hx hb dX5_meetGlass_33 (by decide) ?_
      refine lv_astore_n (lv' := [(2, .ref a_p), (1, .int (-1)), (0, .ref a_k)]) hx hb dX5_meetGlass_43 rfl hl (by decide) rfl (fun ls hl => ?_)
      refine lv_iload_n hx hb dX5_meetGlass_44 rfl (lv_at hl 1 rfl) ?_
      refine lv_iconst (v := (-1)) hx hb dX5_meetGlass_45 (by decide) ?_
      refine lv_icmp_ne (tgt := 67) hx hb dX5_meetGlass_46 (by decide) (fun c_7 => ?_) (fun c_7 => ?_)
      ·
        exact absurd c_7 (by decide)
      ·
        refine lv_aload_n hx hb dX5_meetGlass_49 rfl (lv_at hl 2 rfl) ?_
        refine va_get (D := G.1) (ci := 5) (v := .ref a_h) (C := RX5) (T := TX5) (N := 13) hx hb hts inG_X5 hown hK hP 0 rfl rfl 0 (by decide) (hts _ fl_X5_22) (fun _ h9 => h9) rfl dX5_meetGlass_50 ?_
        refine va_get (D := G.1) (ci := 1) (v := .ref a_p) (C := RX1) (T := TX1) (N := 13) hx hb hts inG_X1 hown hK hP 1 rfl rfl 9 (by decide) (hts _ fl_X5_98) (fun _ h9 => h9) rfl dX5_meetGlass_53 ?_
        refine lv_iconst (v := 0) hx hb dX5_meetGlass_56 (by decide) ?_
        refine lv_aload_n hx hb dX5_meetGlass_57 rfl (lv_at hl 2 rfl) ?_
        refine va_get (D := G.1) (ci := 5) (v := .int e_ce) (C := RX5) (T := TX5) (N := 13) hx hb hts inG_X5 hown hK hP 0 rfl rfl 9 (by decide) (hts _ fl_X5_26) (fun _ h9 => h9) rfl dX5_meetGlass_58 ?_
        obtain ⟨hPc, hDc, hFc⟩ := g5_sub3 (wc := [(a_p, (oc6 8 5 a_pn e_p)), (a_pn, (arI G 40 f_p))]) hP hD hS hA [2, 3] (by decide) rfl
        refine va_calli (va_runV (As := [.int 0, .int e_ce]) (rest := []) ⟨hx, hb, hml, hown, hts⟩ (t_find_P l G a_p a_pn H.size e_p 0 e_ce f_p h_e_p) (cwV 2 hts gV_X5_131 rfl rfl rfl hv_X6_find ⟨Nat.le_of_ble_eq_true rfl, Nat.le_of_ble_eq_true rfl⟩) (g5_preV hPc hK hDc hN hT hS hFc (ci := 6) (q0 := 0) rfl rfl) rfl rfl hl.1 rfl (lv_room (Nat.le_of_ble_eq_true rfl)) dX5_meetGlass_61 ⟨Nat.le_of_ble_eq_true rfl, Nat.le_of_ble_eq_true rfl⟩) hS (fun q _ h => hFc q h) hFc (fun r u t H1 locs ht hvm hw hB hz1 hk1 hS => ?_)
        obtain ⟨hP1, hD1⟩ := hB
        rw [ht] at hP1
        rcases hw with ⟨i_8, rfl, rfl⟩ | ⟨z11, i_9, i_10, y12, rfl⟩
        ·
          have i_8 : ∀ r : Int, 0 ≤ r → r < e_p.toInt → tget f_p e_p.toInt 5 r (0 : Int32).toInt ≠ e_ce := i_8
          obtain ⟨hP, hD⟩ := va_join (wr := [(a_k, (oc5 a_h a_j a_pt e_ln e_se e_lh e_br e_we e_me e_ce e_wy e_ho 1)), (a_h, (oc1 e_wa e_le e_st e_fo e_lc a_l a_g a_b a_s a_p a_w e_gb a_bb)), (a_j, (oc2 a_as a_sk)), (a_as, (arI G 8 f_as)), (a_sk, (arJ G 50 f_sk)), (a_l, (arW G 6 f_l)), (a_g, (oc6 6 5 a_gn e_g)), (a_gn, (arI G 30 f_g))]) hP hD [2, 3] [0, 1, 4, 5, 6, 7, 8, 9] rfl rfl (by decide) (by decide) hk1 hFc hP1 hD1
          generalize H1 = H at hP hS ⊢
          refine g5_rs [(a_k, (oc5 a_h a_j a_pt e_ln e_se e_lh e_br e_we e_me e_ce e_wy e_ho 1)), (a_h, (oc1 e_wa e_le e_st e_fo e_lc a_l a_g a_b a_s a_p a_w e_gb a_bb)), (a_j, (oc2 a_as a_sk)), (a_as, (arI G 8 f_as)), (a_sk, (arJ G 50 f_sk)), (a_l, (arW G 6 f_l)), (a_g, (oc6 6 5 a_gn e_g)), (a_gn, (arI G 30 f_g)), (a_p, (oc6 8 5 a_pn e_p)), (a_pn, (arI G 40 f_p))] hP hD (fun hP hD => ?_)
          refine lv_goto (tgt := 68) hx hb dX5_meetGlass_64 (by decide) ?_
          rcases e_in with e_in | e_in
          · exact absurd e_in (g_notin i_1)
          · exact absurd e_in (g_notin i_8)
        ·
          have i_9 : 0 ≤ z11.toInt ∧ z11.toInt < e_p.toInt := i_9
          have i_10 : tget f_p e_p.toInt 5 z11.toInt (0 : Int32).toInt = e_ce := i_10
          obtain ⟨hP, hD⟩ := va_join (wr := [(a_k, (oc5 a_h a_j a_pt e_ln e_se e_lh e_br e_we e_me e_ce e_wy e_ho 1)), (a_h, (oc1 e_wa e_le e_st e_fo e_lc a_l a_g a_b a_s a_p a_w e_gb a_bb)), (a_j, (oc2 a_as a_sk)), (a_as, (arI G 8 f_as)), (a_sk, (arJ G 50 f_sk)), (a_l, (arW G 6 f_l)), (a_g, (oc6 6 5 a_gn e_g)), (a_gn, (arI G 30 f_g))]) hP hD [2, 3] [0, 1, 4, 5, 6, 7, 8, 9] rfl rfl (by decide) (by decide) hk1 hFc hP1 hD1
          generalize H1 = H at hP hS ⊢
          refine g5_rs [(a_k, (oc5 a_h a_j a_pt e_ln e_se e_lh e_br e_we e_me e_ce e_wy e_ho 1)), (a_h, (oc1 e_wa e_le e_st e_fo e_lc a_l a_g a_b a_s a_p a_w e_gb a_bb)), (a_j, (oc2 a_as a_sk)), (a_as, (arI G 8 f_as)), (a_sk, (arJ G 50 f_sk)), (a_l, (arW G 6 f_l)), (a_g, (oc6 6 5 a_gn e_g)), (a_gn, (arI G 30 f_g)), (a_p, (oc6 8 5 a_pn e_p)), (a_pn, (arI G 40 f_p))] hP hD (fun hP hD => ?_)
          refine g5_ti (v := z11) y12 ?_
          refine lv_goto (tgt := 68) hx hb dX5_meetGlass_64 (by decide) ?_
          refine lv_istore_n (lv' := [(3, .int z11), (2, .ref a_p), (1, .int (-1)), (0, .ref a_k)]) hx hb dX5_meetGlass_68 rfl hl (by decide) rfl (fun ls hl => ?_)
          refine lv_iload_n hx hb dX5_meetGlass_69 rfl (lv_at hl 2 rfl) ?_
          refine lv_iconst (v := (-1)) hx hb dX5_meetGlass_70 (by decide) ?_
          refine lv_icmp_ne (tgt := 81) hx hb dX5_meetGlass_71 (by decide) (fun c_13 => ?_) (fun c_13 => ?_)
          ·
            exact absurd c_13 (by decide)
          ·
            refine lv_bipush (v := 6) hx hb dX5_meetGlass_74 (by decide) ?_
            refine lv_iload_n hx hb dX5_meetGlass_76 rfl (lv_at hl 0 rfl) ?_
            refine lv_iadd hx hb dX5_meetGlass_77 ?_
            have t_14 : (6 + z11).toInt = 6 + z11.toInt := g5_iadd (a := 6) (b := z11.toInt) (by decide) (by rfl) (by omega) (by omega)
            refine lv_goto (tgt := 82) hx hb dX5_meetGlass_78 (by decide) ?_
            refine lv_istore (lv' := [(4, .int (6 + z11)), (3, .int z11), (2, .ref a_p), (1, .int (-1)), (0, .ref a_k)]) hx hb dX5_meetGlass_82 hl (by decide) rfl (fun ls hl => ?_)
            refine k_mgpN1 G a_k a_h a_g a_gn a_p a_pn a_j a_as a_sk a_l a_pt a_b a_s a_w a_bb e_ln e_se e_lh e_br e_we e_me e_ce e_wy e_ho 1 e_le e_st e_fo e_lc e_wa e_gb e_g f_g e_p f_p f_as f_sk f_l z11 (6 + z11) hx hb hml hown hts hK hN hT hA (hP.sub [0, 1, 6, 7, 8, 9, 2, 3, 4, 5] rfl) (hD.sub [0, 1, 6, 7, 8, 9, 2, 3, 4, 5] (by decide) rfl) hS (lv_sub hl [4, 2, 1, 0] rfl) ⟨by omega, by omega⟩ ⟨by omega, by omega⟩ ⟨by omega, by omega⟩ ⟨by omega, by omega⟩ ⟨by decide, by decide⟩ ⟨by omega, by omega⟩ ⟨by omega, by omega⟩ ⟨by omega, by omega⟩ (e_gk) (e_pk) (e_f) (by omega) (fun pc1 hd o_b o_w o_m o_y o_h o_v o_a o_k ls H locs hP hD hS i_b i_y i_h i_v => ?_)
            refine g5_rs [(a_k, (oc5 a_h a_j a_pt e_ln e_se e_lh o_b o_w o_m e_ce o_y o_h o_v)), (a_h, (oc1 e_wa e_le e_st e_fo e_lc a_l a_g a_b a_s a_p a_w e_gb a_bb)), (a_g, (oc6 6 5 a_gn e_g)), (a_gn, (arI G 30 f_g)), (a_p, (oc6 8 5 a_pn e_p)), (a_pn, (arI G 40 f_p)), (a_j, (oc2 a_as a_sk)), (a_as, (arI G 8 o_a)), (a_sk, (arJ G 50 o_k)), (a_l, (arW G 6 f_l))] hP hD (fun hP hD => ?_)
            have i_b : 0 ≤ o_b.toInt ∧ o_b.toInt ≤ 1000000 := i_b
            have i_y : 0 ≤ o_y.toInt ∧ o_y.toInt ≤ 3 := i_y
            have i_h : 0 ≤ o_h.toInt ∧ o_h.toInt ≤ 23 := i_h
            have i_v : 0 ≤ o_v.toInt ∧ o_v.toInt ≤ 1 := i_v
            exact W.vret hx hb hr (fun t ht hW => ⟨⟨[(a_k, (oc5 a_h a_j a_pt e_ln e_se e_lh o_b o_w o_m e_ce o_y o_h o_v)), (a_h, (oc1 e_wa e_le e_st e_fo e_lc a_l a_g a_b a_s a_p a_w e_gb a_bb)), (a_g, (oc6 6 5 a_gn e_g)), (a_gn, (arI G 30 f_g)), (a_p, (oc6 8 5 a_pn e_p)), (a_pn, (arI G 40 f_p)), (a_j, (oc2 a_as a_sk)), (a_as, (arI G 8 o_a)), (a_sk, (arJ G 50 o_k)), (a_l, (arW G 6 f_l))], rfl, ⟨o_b, o_w, o_m, o_y, o_h, o_v, o_a, o_k, ⟨by omega, by omega⟩, ⟨by omega, by omega⟩, ⟨by omega, by omega⟩, ⟨by omega, by omega⟩, rfl⟩, by rw [ht]; exact hP.sub [0, 1, 2, 3, 4, 5, 6, 7, 8, 9] rfl, hD.sub [0, 1, 2, 3, 4, 5, 6, 7, 8, 9] (by decide) rfl⟩, hS.F ht⟩) hS.2.2 hd
  ·
    have i_2 : 0 ≤ z4.toInt ∧ z4.toInt < e_g.toInt := i_2
    have i_3 : tget f_g e_g.toInt 5 z4.toInt (0 : Int32).toInt = e_ce := i_3
    obtain ⟨hP, hD⟩ := va_join (wr := [(a_k, (oc5 a_h a_j a_pt e_ln e_se e_lh e_br e_we e_me e_ce e_wy e_ho 1)), (a_h, (oc1 e_wa e_le e_st e_fo e_lc a_l a_g a_b a_s a_p a_w e_gb a_bb)), (a_p, (oc6 8 5 a_pn e_p)), (a_pn, (arI G 40 f_p)), (a_j, (oc2 a_as a_sk)), (a_as, (arI G 8 f_as)), (a_sk, (arJ G 50 f_sk)), (a_l, (arW G 6 f_l))]) hP hD [2, 3] [0, 1, 4, 5, 6, 7, 8, 9] rfl rfl (by decide) (by decide) hk1 hFc hP1 hD1
    generalize H1 = H at hP hS ⊢
    refine g5_rs [(a_k, (oc5 a_h a_j a_pt e_ln e_se e_lh e_br e_we e_me e_ce e_wy e_ho 1)), (a_h, (oc1 e_wa e_le e_st e_fo e_lc a_l a_g a_b a_s a_p a_w e_gb a_bb)), (a_p, (oc6 8 5 a_pn e_p)), (a_pn, (arI G 40 f_p)), (a_j, (oc2 a_as a_sk)), (a_as, (arI G 8 f_as)), (a_sk, (arJ G 50 f_sk)), (a_l, (arW G 6 f_l)), (a_g, (oc6 6 5 a_gn e_g)), (a_gn, (arI G 30 f_g))] hP hD (fun hP hD => ?_)
    refine g5_ti (v := z4) y5 ?_
    refine lv_istore_n (lv' := [(1, .int z4), (0, .ref a_k)]) hx hb dX5_meetGlass_20 rfl hl (by decide) rfl (fun ls hl => ?_)
    refine lv_iload_n hx hb dX5_meetGlass_21 rfl (lv_at hl 0 rfl) ?_
    refine lv_iconst (v := (-1)) hx hb dX5_meetGlass_22 (by decide) ?_
    refine lv_icmp_ne (tgt := 36) hx hb dX5_meetGlass_23 (by decide) (fun c_15 => ?_) (fun c_15 => ?_)
    ·
      have n_15 : gNe (z4.toInt) ((-1)) := by have z := g5_ne (a := z4.toInt) (b := (-1)) (by rfl) (by decide) c_15; unfold gNe; omega
      refine lv_aload_n hx hb dX5_meetGlass_36 rfl (lv_at hl 1 rfl) ?_
      refine va_get (D := G.1) (ci := 5) (v := .ref a_h) (C := RX5) (T := TX5) (N := 13) hx hb hts inG_X5 hown hK hP 0 rfl rfl 0 (by decide) (hts _ fl_X5_22) (fun _ h9 => h9) rfl dX5_meetGlass_37 ?_
      refine va_get (D := G.1) (ci := 1) (v := .ref a_g) (C := RX1) (T := TX1) (N := 13) hx hb hts inG_X1 hown hK hP 1 rfl rfl 6 (by decide) (hts _ fl_X5_128) (fun _ h9 => h9) rfl dX5_meetGlass_40 ?_
      refine lv_astore_n (lv' := [(2, .ref a_g), (1, .int z4), (0, .ref a_k)]) hx hb dX5_meetGlass_43 rfl hl (by decide) rfl (fun ls hl => ?_)
      refine lv_iload_n hx hb dX5_meetGlass_44 rfl (lv_at hl 1 rfl) ?_
      refine lv_iconst (v := (-1)) hx hb dX5_meetGlass_45 (by decide) ?_
      refine lv_icmp_ne (tgt := 67) hx hb dX5_meetGlass_46 (by decide) (fun c_16 => ?_) (fun c_16 => ?_)
      ·
        have n_16 : gNe (z4.toInt) ((-1)) := by have z := g5_ne (a := z4.toInt) (b := (-1)) (by rfl) (by decide) c_16; unfold gNe; omega
        refine lv_iload_n hx hb dX5_meetGlass_67 rfl (lv_at hl 1 rfl) ?_
        refine lv_istore_n (lv' := [(3, .int z4), (2, .ref a_g), (1, .int z4), (0, .ref a_k)]) hx hb dX5_meetGlass_68 rfl hl (by decide) rfl (fun ls hl => ?_)
        refine lv_iload_n hx hb dX5_meetGlass_69 rfl (lv_at hl 2 rfl) ?_
        refine lv_iconst (v := (-1)) hx hb dX5_meetGlass_70 (by decide) ?_
        refine lv_icmp_ne (tgt := 81) hx hb dX5_meetGlass_71 (by decide) (fun c_17 => ?_) (fun c_17 => ?_)
        ·
          have n_17 : gNe (z4.toInt) ((-1)) := by have z := g5_ne (a := z4.toInt) (b := (-1)) (by rfl) (by decide) c_17; unfold gNe; omega
          refine lv_iload_n hx hb dX5_meetGlass_81 rfl (lv_at hl 2 rfl) ?_
          refine lv_istore (lv' := [(4, .int z4), (3, .int z4), (2, .ref a_g), (1, .int z4), (0, .ref a_k)]) hx hb dX5_meetGlass_82 hl (by decide) rfl (fun ls hl => ?_)
          refine k_mggN1 G a_k a_h a_g a_gn a_p a_pn a_j a_as a_sk a_l a_pt a_b a_s a_w a_bb e_ln e_se e_lh e_br e_we e_me e_ce e_wy e_ho 1 e_le e_st e_fo e_lc e_wa e_gb e_g f_g e_p f_p f_as f_sk f_l z4 z4 hx hb hml hown hts hK hN hT hA (hP.sub [0, 1, 8, 9, 2, 3, 4, 5, 6, 7] rfl) (hD.sub [0, 1, 8, 9, 2, 3, 4, 5, 6, 7] (by decide) rfl) hS (lv_sub hl [4, 2, 1, 0] rfl) ⟨by omega, by omega⟩ ⟨by omega, by omega⟩ ⟨by omega, by omega⟩ ⟨by omega, by omega⟩ ⟨by decide, by decide⟩ ⟨by omega, by omega⟩ ⟨by omega, by omega⟩ ⟨by omega, by omega⟩ (e_gk) (e_pk) (e_f) (by omega) (fun pc1 hd o_b o_w o_m o_y o_h o_v o_a o_k ls H locs hP hD hS i_b i_y i_h i_v => ?_)
          refine g5_rs [(a_k, (oc5 a_h a_j a_pt e_ln e_se e_lh o_b o_w o_m e_ce o_y o_h o_v)), (a_h, (oc1 e_wa e_le e_st e_fo e_lc a_l a_g a_b a_s a_p a_w e_gb a_bb)), (a_g, (oc6 6 5 a_gn e_g)), (a_gn, (arI G 30 f_g)), (a_p, (oc6 8 5 a_pn e_p)), (a_pn, (arI G 40 f_p)), (a_j, (oc2 a_as a_sk)), (a_as, (arI G 8 o_a)), (a_sk, (arJ G 50 o_k)), (a_l, (arW G 6 f_l))] hP hD (fun hP hD => ?_)
          have i_b : 0 ≤ o_b.toInt ∧ o_b.toInt ≤ 1000000 := i_b
          have i_y : 0 ≤ o_y.toInt ∧ o_y.toInt ≤ 3 := i_y
          have i_h : 0 ≤ o_h.toInt ∧ o_h.toInt ≤ 23 := i_h
          have i_v : 0 ≤ o_v.toInt ∧ o_v.toInt ≤ 1 := i_v
          exact W.vret hx hb hr (fun t ht hW => ⟨⟨[(a_k, (oc5 a_h a_j a_pt e_ln e_se e_lh o_b o_w o_m e_ce o_y o_h o_v)), (a_h, (oc1 e_wa e_le e_st e_fo e_lc a_l a_g a_b a_s a_p a_w e_gb a_bb)), (a_g, (oc6 6 5 a_gn e_g)), (a_gn, (arI G 30 f_g)), (a_p, (oc6 8 5 a_pn e_p)), (a_pn, (arI G 40 f_p)), (a_j, (oc2 a_as a_sk)), (a_as, (arI G 8 o_a)), (a_sk, (arJ G 50 o_k)), (a_l, (arW G 6 f_l))], rfl, ⟨o_b, o_w, o_m, o_y, o_h, o_v, o_a, o_k, ⟨by omega, by omega⟩, ⟨by omega, by omega⟩, ⟨by omega, by omega⟩, ⟨by omega, by omega⟩, rfl⟩, by rw [ht]; exact hP.sub [0, 1, 2, 3, 4, 5, 6, 7, 8, 9] rfl, hD.sub [0, 1, 2, 3, 4, 5, 6, 7, 8, 9] (by decide) rfl⟩, hS.F ht⟩) hS.2.2 hd
        ·
          have i_17 : z4.toInt = (-1) := by have z := g5_neN (a := z4.toInt) (b := (-1)) (by rfl) (by decide) c_17; omega
          omega
      ·
        have i_16 : z4.toInt = (-1) := by have z := g5_neN (a := z4.toInt) (b := (-1)) (by rfl) (by decide) c_16; omega
        omega
    ·
      have i_15 : z4.toInt = (-1) := by have z := g5_neN (a := z4.toInt) (b := (-1)) (by rfl) (by decide) c_15; omega
      omega
set_option maxHeartbeats 4000000 in
set_option maxRecDepth 100000 in
theorem k_mggL4 {p : Program} {l : Launch} {e : Env} {s : State} {m : MethodId} {args : Array Value} {below : List Frame} {meth : Method} {c : Code} {Q : State → Prop} {A : Nat → Prop} {H : Heap} {locs : List Loc} {ls : Array Slot} (G : g5_G) (a_k a_h a_g a_gn a_p a_pn a_j a_as a_sk a_l a_lo a_sr a_cd a_hd a_pt a_b a_s a_w a_bb n_sr n_cd n_hd : Nat) (e_ln : Int32) (e_se : Int32) (e_lh : Int32) (e_br : Int32) (e_we : Int32) (e_me : Int32) (e_ce : Int32) (e_wy : Int32) (e_ho : Int32) (e_ov : Int32) (e_le : Int32) (e_st : Int32) (e_fo : Int32) (e_lc : Int32) (e_wa : Int64) (e_gb : Int64) (e_g : Int32) (f_g : Nat → Int32) (e_p : Int32) (f_p : Nat → Int32) (f_as : Nat → Int32) (f_sk : Nat → Int64) (f_l : Nat → Option Nat) (e_cl : Int32) (f_sr : Nat → Int32) (f_cd : Nat → Int32) (f_hd : Nat → Int32) (k_r : Int32) (k_n : Int32) (k_s : Int32) (k_l : Int32) (k_d : Int32) (hx : p.tables.exec = Jvm.exec) (hb : c.code = cX5_meetGlass) (hml : c.maxLocals = 9) (hown : s.vm.findClass RX5 = some m.cls) (hts : ∀ w ∈ tblG, w.before args s = true) (hK : va_K G.1 vwCl (T5 G) s) (hN : g5_N s) (hT : g5_S A s s.heap) (hA : ∀ q : Nat, s.heap.size ≤ q → A q) (hP : va_P G.1 vwCl [(a_k, (oc5 a_h a_j a_pt e_ln e_se e_lh e_br e_we e_me e_ce e_wy e_ho e_ov)), (a_h, (oc1 e_wa e_le e_st e_fo e_lc a_l a_g a_b a_s a_p a_w e_gb a_bb)), (a_g, (oc6 6 5 a_gn e_g)), (a_gn, (arI G 30 f_g)), (a_p, (oc6 8 5 a_pn e_p)), (a_pn, (arI G 40 f_p)), (a_j, (oc2 a_as a_sk)), (a_as, (arI G 8 f_as)), (a_sk, (arJ G 50 f_sk)), (a_l, (arW G 6 f_l)), (a_lo, (oc3 e_cl a_hd a_sr a_cd)), (a_sr, (arI G n_sr f_sr)), (a_cd, (arI G n_cd f_cd)), (a_hd, (arI G n_hd f_hd))] H) (hD : va_D A [(a_k, (oc5 a_h a_j a_pt e_ln e_se e_lh e_br e_we e_me e_ce e_wy e_ho e_ov)), (a_h, (oc1 e_wa e_le e_st e_fo e_lc a_l a_g a_b a_s a_p a_w e_gb a_bb)), (a_g, (oc6 6 5 a_gn e_g)), (a_gn, (arI G 30 f_g)), (a_p, (oc6 8 5 a_pn e_p)), (a_pn, (arI G 40 f_p)), (a_j, (oc2 a_as a_sk)), (a_as, (arI G 8 f_as)), (a_sk, (arJ G 50 f_sk)), (a_l, (arW G 6 f_l)), (a_lo, (oc3 e_cl a_hd a_sr a_cd)), (a_sr, (arI G n_sr f_sr)), (a_cd, (arI G n_cd f_cd)), (a_hd, (arI G n_hd f_hd))]) (hS : va_S A s.heap H locs) (hl : lv_has ls 9 [(0, .ref a_k), (2, .ref a_g), (3, .int k_r), (4, .int k_n), (5, .int k_s), (7, .int k_l), (8, .int k_d)]) (h_e_br : 0 ≤ e_br.toInt ∧ e_br.toInt ≤ 1000000) (h_e_ce : 0 ≤ e_ce.toInt ∧ e_ce.toInt ≤ 63) (h_e_wy : 0 ≤ e_wy.toInt ∧ e_wy.toInt ≤ 3) (h_e_ho : 0 ≤ e_ho.toInt ∧ e_ho.toInt ≤ 23) (h_e_ov : 0 ≤ e_ov.toInt ∧ e_ov.toInt ≤ 1) (h_e_g : 0 ≤ e_g.toInt ∧ e_g.toInt ≤ 6) (h_e_p : 0 ≤ e_p.toInt ∧ e_p.toInt ≤ 8) (h_e_cl : 0 ≤ e_cl.toInt ∧ e_cl.toInt ≤ 12) (h_k_r : 0 ≤ k_r.toInt ∧ k_r.toInt ≤ 7) (h_k_s : 0 ≤ k_s.toInt ∧ k_s.toInt ≤ 5) (h_k_l : 0 ≤ k_l.toInt ∧ k_l.toInt ≤ 23) (h_k_d : 0 ≤ k_d.toInt ∧ k_d.toInt ≤ 10) (e_lt : k_l.toInt ≤ e_ho.toInt) (kk : ∀ (pc1 : Nat), decode cX5_meetGlass pc1 = .ok (.return_, 1) → ∀ (o_b : Int32) (o_w : Int32) (o_m : Int32) (o_y : Int32) (o_h : Int32) (o_v : Int32) (o_a : Nat → Int32) (o_k : Nat → Int64) (ls : Array Slot) (H : Heap) (locs : List Loc), va_P G.1 vwCl [(a_k, (oc5 a_h a_j a_pt e_ln e_se e_lh o_b o_w o_m e_ce o_y o_h o_v)), (a_h, (oc1 e_wa e_le e_st e_fo e_lc a_l a_g a_b a_s a_p a_w e_gb a_bb)), (a_g, (oc6 6 5 a_gn e_g)), (a_gn, (arI G 30 f_g)), (a_p, (oc6 8 5 a_pn e_p)), (a_pn, (arI G 40 f_p)), (a_j, (oc2 a_as a_sk)), (a_as, (arI G 8 o_a)), (a_sk, (arJ G 50 o_k)), (a_l, (arW G 6 f_l)), (a_lo, (oc3 e_cl a_hd a_sr a_cd)), (a_sr, (arI G n_sr f_sr)), (a_cd, (arI G n_cd f_cd)), (a_hd, (arI G n_hd f_hd))] H → va_D A [(a_k, (oc5 a_h a_j a_pt e_ln e_se e_lh o_b o_w o_m e_ce o_y o_h o_v)), (a_h, (oc1 e_wa e_le e_st e_fo e_lc a_l a_g a_b a_s a_p a_w e_gb a_bb)), (a_g, (oc6 6 5 a_gn e_g)), (a_gn, (arI G 30 f_g)), (a_p, (oc6 8 5 a_pn e_p)), (a_pn, (arI G 40 f_p)), (a_j, (oc2 a_as a_sk)), (a_as, (arI G 8 o_a)), (a_sk, (arJ G 50 o_k)), (a_l, (arW G 6 f_l)), (a_lo, (oc3 e_cl a_hd a_sr a_cd)), (a_sr, (arI G n_sr f_sr)), (a_cd, (arI G n_cd f_cd)), (a_hd, (arI G n_hd f_hd))] → va_S A s.heap H locs → (0 ≤ o_b.toInt ∧ o_b.toInt ≤ 1000000) → (0 ≤ o_y.toInt ∧ o_y.toInt ≤ 3) → (0 ≤ o_h.toInt ∧ o_h.toInt ≤ 23) → (0 ≤ o_v.toInt ∧ o_v.toInt ≤ 1) → W p l e ({ frames := 12, cells := 0, slots := 0, locals := 500 } : Room) s m args below meth c H locs 0 0 Q (F0 m pc1 ls [])) : W p l e ({ frames := 12, cells := 0, slots := 0, locals := 500 } : Room) s m args below meth c H locs 0 0 Q (F0 m 246 ls []) := by
  refine lv_aload_n hx hb dX5_meetGlass_246 rfl (lv_at hl 0 rfl) ?_
  refine lv_aload_n hx hb dX5_meetGlass_247 rfl (lv_at hl 0 rfl) ?_
  refine va_get (D := G.1) (ci := 5) (v := .int e_br) (C := RX5) (T := TX5) (N := 13) hx hb hts inG_X5 hown hK hP 0 rfl rfl 6 (by decide) (hts _ fl_X5_46) (fun _ h9 => h9) rfl dX5_meetGlass_248 ?_
  refine lv_bipush (v := 10) hx hb dX5_meetGlass_251 (by decide) ?_
  refine lv_iload hx hb dX5_meetGlass_253 (lv_at hl 6 rfl) ?_
  refine lv_isub hx hb dX5_meetGlass_255 ?_
  have t_1 : (10 - k_d).toInt = 10 - k_d.toInt := g5_isub (a := 10) (b := k_d.toInt) (by decide) (by rfl) (by omega) (by omega)
  refine lv_imul hx hb dX5_meetGlass_256 ?_
  refine lv_bipush (v := 10) hx hb dX5_meetGlass_257 (by decide) ?_
  refine lv_idiv hx hb dX5_meetGlass_259 (by decide) ?_
  have hb_2 : 0 ≤ ((e_br * (10 - k_d)) / 10).toInt ∧ ((e_br * (10 - k_d)) / 10).toInt ≤ 1000000 := g_dust (by omega) (by omega)
  refine va_put (D := G.1) (ci := 5) (v := .int ((e_br * (10 - k_d)) / 10)) (ty := .int) (C := RX5) (T := TX5) (N := 13) hx hb hts inG_X5 tyX5 tyX5_ok nmX5 hown hK hP hD hS 0 rfl rfl 6 (by decide) (hts _ fl_X5_46) (fun _ h9 => h9) rfl (by decide +kernel) rfl rfl (Nat.le_of_ble_eq_true rfl) dX5_meetGlass_260 (fun H locs hP hD hS => ?_)
  refine g5_rs [(a_k, (oc5 a_h a_j a_pt e_ln e_se e_lh ((e_br * (10 - k_d)) / 10) e_we e_me e_ce e_wy e_ho e_ov)), (a_h, (oc1 e_wa e_le e_st e_fo e_lc a_l a_g a_b a_s a_p a_w e_gb a_bb)), (a_g, (oc6 6 5 a_gn e_g)), (a_gn, (arI G 30 f_g)), (a_p, (oc6 8 5 a_pn e_p)), (a_pn, (arI G 40 f_p)), (a_j, (oc2 a_as a_sk)), (a_as, (arI G 8 f_as)), (a_sk, (arJ G 50 f_sk)), (a_l, (arW G 6 f_l)), (a_lo, (oc3 e_cl a_hd a_sr a_cd)), (a_sr, (arI G n_sr f_sr)), (a_cd, (arI G n_cd f_cd)), (a_hd, (arI G n_hd f_hd))] hP hD (fun hP hD => ?_)
  refine lv_aload_n hx hb dX5_meetGlass_263 rfl (lv_at hl 0 rfl) ?_
  refine va_get (D := G.1) (ci := 5) (v := .int ((e_br * (10 - k_d)) / 10)) (C := RX5) (T := TX5) (N := 13) hx hb hts inG_X5 hown hK hP 0 rfl rfl 6 (by decide) (hts _ fl_X5_46) (fun _ h9 => h9) rfl dX5_meetGlass_264 ?_
  refine lv_aload_n hx hb dX5_meetGlass_267 rfl (lv_at hl 0 rfl) ?_
  refine va_get (D := G.1) (ci := 5) (v := .ref a_h) (C := RX5) (T := TX5) (N := 13) hx hb hts inG_X5 hown hK hP 0 rfl rfl 0 (by decide) (hts _ fl_X5_22) (fun _ h9 => h9) rfl dX5_meetGlass_268 ?_
  refine va_get (D := G.1) (ci := 1) (v := .int e_le) (C := RX1) (T := TX1) (N := 13) hx hb hts inG_X1 hown hK hP 1 rfl rfl 1 (by decide) (hts _ fl_X5_138) (fun _ h9 => h9) rfl dX5_meetGlass_271 ?_
  refine lv_icmp_ge (tgt := 278) hx hb dX5_meetGlass_274 (by decide) (fun c_3 => ?_) (fun c_3 => ?_)
  ·
    have i_3 : ((e_br * (10 - k_d)) / 10).toInt ≥ e_le.toInt := by have z := g5_ge (a := ((e_br * (10 - k_d)) / 10).toInt) (b := e_le.toInt) (by rfl) (by rfl) c_3; omega
    refine lv_aload_n hx hb dX5_meetGlass_278 rfl (lv_at hl 0 rfl) ?_
    refine lv_dup hx hb dX5_meetGlass_279 rfl ?_
    refine va_get (D := G.1) (ci := 5) (v := .int e_ho) (C := RX5) (T := TX5) (N := 13) hx hb hts inG_X5 hown hK hP 0 rfl rfl 11 (by decide) (hts _ fl_X5_33) (fun _ h9 => h9) rfl dX5_meetGlass_280 ?_
    refine lv_iload hx hb dX5_meetGlass_283 (lv_at hl 5 rfl) ?_
    refine lv_isub hx hb dX5_meetGlass_285 ?_
    have t_4 : (e_ho - k_l).toInt = e_ho.toInt - k_l.toInt := g5_isub (a := e_ho.toInt) (b := k_l.toInt) (by rfl) (by rfl) (by omega) (by omega)
    refine va_put (D := G.1) (ci := 5) (v := .int (e_ho - k_l)) (ty := .int) (C := RX5) (T := TX5) (N := 13) hx hb hts inG_X5 tyX5 tyX5_ok nmX5 hown hK hP hD hS 0 rfl rfl 11 (by decide) (hts _ fl_X5_33) (fun _ h9 => h9) rfl (by decide +kernel) rfl rfl (Nat.le_of_ble_eq_true rfl) dX5_meetGlass_286 (fun H locs hP hD hS => ?_)
    refine g5_rs [(a_k, (oc5 a_h a_j a_pt e_ln e_se e_lh ((e_br * (10 - k_d)) / 10) e_we e_me e_ce e_wy (e_ho - k_l) e_ov)), (a_h, (oc1 e_wa e_le e_st e_fo e_lc a_l a_g a_b a_s a_p a_w e_gb a_bb)), (a_g, (oc6 6 5 a_gn e_g)), (a_gn, (arI G 30 f_g)), (a_p, (oc6 8 5 a_pn e_p)), (a_pn, (arI G 40 f_p)), (a_j, (oc2 a_as a_sk)), (a_as, (arI G 8 f_as)), (a_sk, (arJ G 50 f_sk)), (a_l, (arW G 6 f_l)), (a_lo, (oc3 e_cl a_hd a_sr a_cd)), (a_sr, (arI G n_sr f_sr)), (a_cd, (arI G n_cd f_cd)), (a_hd, (arI G n_hd f_hd))] hP hD (fun hP hD => ?_)
    refine lv_aload_n hx hb dX5_meetGlass_289 rfl (lv_at hl 0 rfl) ?_
    refine lv_iload hx hb dX5_meetGlass_290 (lv_at hl 4 rfl) ?_
    refine lv_if_ne (tgt := 304) hx hb dX5_meetGlass_292 (by decide) (fun c_5 => ?_) (fun c_5 => ?_)
    ·
      have n_5 : gNe (k_s.toInt) (0) := by have z := g5_ne (a := k_s.toInt) (b := 0) (by rfl) (by decide) c_5; unfold gNe; omega
      have i_5 : k_s.toInt ≥ 1 := by have z := g5_ne (a := k_s.toInt) (b := 0) (by rfl) (by decide) c_5; omega
      refine lv_iload hx hb dX5_meetGlass_304 (lv_at hl 4 rfl) ?_
      refine lv_iconst (v := 1) hx hb dX5_meetGlass_306 (by decide) ?_
      refine lv_icmp_ne (tgt := 319) hx hb dX5_meetGlass_307 (by decide) (fun c_6 => ?_) (fun c_6 => ?_)
      ·
        have n_6 : gNe (k_s.toInt) (1) := by have z := g5_ne (a := k_s.toInt) (b := 1) (by rfl) (by decide) c_6; unfold gNe; omega
        have i_6 : k_s.toInt ≥ 2 := by have z := g5_ne (a := k_s.toInt) (b := 1) (by rfl) (by decide) c_6; omega
        refine lv_aload_n hx hb dX5_meetGlass_319 rfl (lv_at hl 0 rfl) ?_
        refine va_get (D := G.1) (ci := 5) (v := .int e_wy) (C := RX5) (T := TX5) (N := 13) hx hb hts inG_X5 hown hK hP 0 rfl rfl 10 (by decide) (hts _ fl_X5_30) (fun _ h9 => h9) rfl dX5_meetGlass_320 ?_
        refine lv_iconst (v := 2) hx hb dX5_meetGlass_323 (by decide) ?_
        refine lv_ixor hx hb dX5_meetGlass_324 ?_
        have hx_7 := (g_xor (w := e_wy) (by omega) (by omega)).2
        refine va_put (D := G.1) (ci := 5) (v := .int (e_wy ^^^ 2)) (ty := .int) (C := RX5) (T := TX5) (N := 13) hx hb hts inG_X5 tyX5 tyX5_ok nmX5 hown hK hP hD hS 0 rfl rfl 10 (by decide) (hts _ fl_X5_30) (fun _ h9 => h9) rfl (by decide +kernel) rfl rfl (Nat.le_of_ble_eq_true rfl) dX5_meetGlass_325 (fun H locs hP hD hS => ?_)
        refine g5_rs [(a_k, (oc5 a_h a_j a_pt e_ln e_se e_lh ((e_br * (10 - k_d)) / 10) e_we e_me e_ce (e_wy ^^^ 2) (e_ho - k_l) e_ov)), (a_h, (oc1 e_wa e_le e_st e_fo e_lc a_l a_g a_b a_s a_p a_w e_gb a_bb)), (a_g, (oc6 6 5 a_gn e_g)), (a_gn, (arI G 30 f_g)), (a_p, (oc6 8 5 a_pn e_p)), (a_pn, (arI G 40 f_p)), (a_j, (oc2 a_as a_sk)), (a_as, (arI G 8 f_as)), (a_sk, (arJ G 50 f_sk)), (a_l, (arW G 6 f_l)), (a_lo, (oc3 e_cl a_hd a_sr a_cd)), (a_sr, (arI G n_sr f_sr)), (a_cd, (arI G n_cd f_cd)), (a_hd, (arI G n_hd f_hd))] hP hD (fun hP hD => ?_)
        refine lv_aload_n hx hb dX5_meetGlass_328 rfl (lv_at hl 0 rfl) ?_
        refine lv_dup hx hb dX5_meetGlass_329 rfl ?_
        refine va_get (D := G.1) (ci := 5) (v := .int e_we) (C := RX5) (T := TX5) (N := 13) hx hb hts inG_X5 hown hK hP 0 rfl rfl 7 (by decide) (hts _ fl_X5_49) (fun _ h9 => h9) rfl dX5_meetGlass_330 ?_
        refine lv_iconst (v := 1) hx hb dX5_meetGlass_333 (by decide) ?_
        refine lv_iload hx hb dX5_meetGlass_334 (lv_at hl 3 rfl) ?_
        refine lv_ishl hx hb dX5_meetGlass_336 ?_
        refine lv_ior hx hb dX5_meetGlass_337 ?_
        refine va_put (D := G.1) (ci := 5) (v := .int (e_we ||| (1 <<< (k_n &&& 31)))) (ty := .int) (C := RX5) (T := TX5) (N := 13) hx hb hts inG_X5 tyX5 tyX5_ok nmX5 hown hK hP hD hS 0 rfl rfl 7 (by decide) (hts _ fl_X5_49) (fun _ h9 => h9) rfl (by decide +kernel) rfl rfl (Nat.le_of_ble_eq_true rfl) dX5_meetGlass_338 (fun H locs hP hD hS => ?_)
        refine g5_rs [(a_k, (oc5 a_h a_j a_pt e_ln e_se e_lh ((e_br * (10 - k_d)) / 10) (e_we ||| (1 <<< (k_n &&& 31))) e_me e_ce (e_wy ^^^ 2) (e_ho - k_l) e_ov)), (a_h, (oc1 e_wa e_le e_st e_fo e_lc a_l a_g a_b a_s a_p a_w e_gb a_bb)), (a_g, (oc6 6 5 a_gn e_g)), (a_gn, (arI G 30 f_g)), (a_p, (oc6 8 5 a_pn e_p)), (a_pn, (arI G 40 f_p)), (a_j, (oc2 a_as a_sk)), (a_as, (arI G 8 f_as)), (a_sk, (arJ G 50 f_sk)), (a_l, (arW G 6 f_l)), (a_lo, (oc3 e_cl a_hd a_sr a_cd)), (a_sr, (arI G n_sr f_sr)), (a_cd, (arI G n_cd f_cd)), (a_hd, (arI G n_hd f_hd))] hP hD (fun hP hD => ?_)
        refine lv_aload_n hx hb dX5_meetGlass_341 rfl (lv_at hl 0 rfl) ?_
        refine lv_iconst (v := 0) hx hb dX5_meetGlass_342 (by decide) ?_
        refine va_put (D := G.1) (ci := 5) (v := .int 0) (ty := .boolean) (C := RX5) (T := TX5) (N := 13) hx hb hts inG_X5 tyX5 tyX5_ok nmX5 hown hK hP hD hS 0 rfl rfl 12 (by decide) (hts _ fl_X5_56) (fun _ h9 => h9) rfl (by decide +kernel) rfl rfl (Nat.le_of_ble_eq_true rfl) dX5_meetGlass_343 (fun H locs hP hD hS => ?_)
        refine g5_rs [(a_k, (oc5 a_h a_j a_pt e_ln e_se e_lh ((e_br * (10 - k_d)) / 10) (e_we ||| (1 <<< (k_n &&& 31))) e_me e_ce (e_wy ^^^ 2) (e_ho - k_l) 0)), (a_h, (oc1 e_wa e_le e_st e_fo e_lc a_l a_g a_b a_s a_p a_w e_gb a_bb)), (a_g, (oc6 6 5 a_gn e_g)), (a_gn, (arI G 30 f_g)), (a_p, (oc6 8 5 a_pn e_p)), (a_pn, (arI G 40 f_p)), (a_j, (oc2 a_as a_sk)), (a_as, (arI G 8 f_as)), (a_sk, (arJ G 50 f_sk)), (a_l, (arW G 6 f_l)), (a_lo, (oc3 e_cl a_hd a_sr a_cd)), (a_sr, (arI G n_sr f_sr)), (a_cd, (arI G n_cd f_cd)), (a_hd, (arI G n_hd f_hd))] hP hD (fun hP hD => ?_)
        exact kk 346 dX5_meetGlass_346 ((e_br * (10 - k_d)) / 10) (e_we ||| (1 <<< (k_n &&& 31))) e_me (e_wy ^^^ 2) (e_ho - k_l) 0 f_as f_sk ls H locs (hP.sub [0, 1, 2, 3, 4, 5, 6, 7, 8, 9, 10, 11, 12, 13] rfl) (hD.sub [0, 1, 2, 3, 4, 5, 6, 7, 8, 9, 10, 11, 12, 13] (by decide) rfl) hS (⟨by omega, by omega⟩) (⟨by omega, by omega⟩) (⟨by omega, by omega⟩) (⟨by have zc_o_v : (0 : Int32).toInt = 0 := (by decide); omega, by have zc_o_v : (0 : Int32).toInt = 0 := (by decide); omega⟩)
      ·
        have i_6 : k_s.toInt = 1 := by have z := g5_neN (a := k_s.toInt) (b := 1) (by rfl) (by decide) c_6; omega
        refine lv_iconst (v := 3) hx hb dX5_meetGlass_310 (by decide) ?_
        refine lv_aload_n hx hb dX5_meetGlass_311 rfl (lv_at hl 0 rfl) ?_
        refine va_get (D := G.1) (ci := 5) (v := .int e_wy) (C := RX5) (T := TX5) (N := 13) hx hb hts inG_X5 hown hK hP 0 rfl rfl 10 (by decide) (hts _ fl_X5_30) (fun _ h9 => h9) rfl dX5_meetGlass_312 ?_
        refine lv_isub hx hb dX5_meetGlass_315 ?_
        have t_8 : (3 - e_wy).toInt = 3 - e_wy.toInt := g5_isub (a := 3) (b := e_wy.toInt) (by decide) (by rfl) (by omega) (by omega)
        refine lv_goto (tgt := 325) hx hb dX5_meetGlass_316 (by decide) ?_
        refine va_put (D := G.1) (ci := 5) (v := .int (3 - e_wy)) (ty := .int) (C := RX5) (T := TX5) (N := 13) hx hb hts inG_X5 tyX5 tyX5_ok nmX5 hown hK hP hD hS 0 rfl rfl 10 (by decide) (hts _ fl_X5_30) (fun _ h9 => h9) rfl (by decide +kernel) rfl rfl (Nat.le_of_ble_eq_true rfl) dX5_meetGlass_325 (fun H locs hP hD hS => ?_)
        refine g5_rs [(a_k, (oc5 a_h a_j a_pt e_ln e_se e_lh ((e_br * (10 - k_d)) / 10) e_we e_me e_ce (3 - e_wy) (e_ho - k_l) e_ov)), (a_h, (oc1 e_wa e_le e_st e_fo e_lc a_l a_g a_b a_s a_p a_w e_gb a_bb)), (a_g, (oc6 6 5 a_gn e_g)), (a_gn, (arI G 30 f_g)), (a_p, (oc6 8 5 a_pn e_p)), (a_pn, (arI G 40 f_p)), (a_j, (oc2 a_as a_sk)), (a_as, (arI G 8 f_as)), (a_sk, (arJ G 50 f_sk)), (a_l, (arW G 6 f_l)), (a_lo, (oc3 e_cl a_hd a_sr a_cd)), (a_sr, (arI G n_sr f_sr)), (a_cd, (arI G n_cd f_cd)), (a_hd, (arI G n_hd f_hd))] hP hD (fun hP hD => ?_)
        refine lv_aload_n hx hb dX5_meetGlass_328 rfl (lv_at hl 0 rfl) ?_
        refine lv_dup hx hb dX5_meetGlass_329 rfl ?_
        refine va_get (D := G.1) (ci := 5) (v := .int e_we) (C := RX5) (T := TX5) (N := 13) hx hb hts inG_X5 hown hK hP 0 rfl rfl 7 (by decide) (hts _ fl_X5_49) (fun _ h9 => h9) rfl dX5_meetGlass_330 ?_
        refine lv_iconst (v := 1) hx hb dX5_meetGlass_333 (by decide) ?_
        refine lv_iload hx hb dX5_meetGlass_334 (lv_at hl 3 rfl) ?_
        refine lv_ishl hx hb dX5_meetGlass_336 ?_
        refine lv_ior hx hb dX5_meetGlass_337 ?_
        refine va_put (D := G.1) (ci := 5) (v := .int (e_we ||| (1 <<< (k_n &&& 31)))) (ty := .int) (C := RX5) (T := TX5) (N := 13) hx hb hts inG_X5 tyX5 tyX5_ok nmX5 hown hK hP hD hS 0 rfl rfl 7 (by decide) (hts _ fl_X5_49) (fun _ h9 => h9) rfl (by decide +kernel) rfl rfl (Nat.le_of_ble_eq_true rfl) dX5_meetGlass_338 (fun H locs hP hD hS => ?_)
        refine g5_rs [(a_k, (oc5 a_h a_j a_pt e_ln e_se e_lh ((e_br * (10 - k_d)) / 10) (e_we ||| (1 <<< (k_n &&& 31))) e_me e_ce (3 - e_wy) (e_ho - k_l) e_ov)), (a_h, (oc1 e_wa e_le e_st e_fo e_lc a_l a_g a_b a_s a_p a_w e_gb a_bb)), (a_g, (oc6 6 5 a_gn e_g)), (a_gn, (arI G 30 f_g)), (a_p, (oc6 8 5 a_pn e_p)), (a_pn, (arI G 40 f_p)), (a_j, (oc2 a_as a_sk)), (a_as, (arI G 8 f_as)), (a_sk, (arJ G 50 f_sk)), (a_l, (arW G 6 f_l)), (a_lo, (oc3 e_cl a_hd a_sr a_cd)), (a_sr, (arI G n_sr f_sr)), (a_cd, (arI G n_cd f_cd)), (a_hd, (arI G n_hd f_hd))] hP hD (fun hP hD => ?_)
        refine lv_aload_n hx hb dX5_meetGlass_341 rfl (lv_at hl 0 rfl) ?_
        refine lv_iconst (v := 0) hx hb dX5_meetGlass_342 (by decide) ?_
        refine va_put (D := G.1) (ci := 5) (v := .int 0) (ty := .boolean) (C := RX5) (T := TX5) (N := 13) hx hb hts inG_X5 tyX5 tyX5_ok nmX5 hown hK hP hD hS 0 rfl rfl 12 (by decide) (hts _ fl_X5_56) (fun _ h9 => h9) rfl (by decide +kernel) rfl rfl (Nat.le_of_ble_eq_true rfl) dX5_meetGlass_343 (fun H locs hP hD hS => ?_)
        refine g5_rs [(a_k, (oc5 a_h a_j a_pt e_ln e_se e_lh ((e_br * (10 - k_d)) / 10) (e_we ||| (1 <<< (k_n &&& 31))) e_me e_ce (3 - e_wy) (e_ho - k_l) 0)), (a_h, (oc1 e_wa e_le e_st e_fo e_lc a_l a_g a_b a_s a_p a_w e_gb a_bb)), (a_g, (oc6 6 5 a_gn e_g)), (a_gn, (arI G 30 f_g)), (a_p, (oc6 8 5 a_pn e_p)), (a_pn, (arI G 40 f_p)), (a_j, (oc2 a_as a_sk)), (a_as, (arI G 8 f_as)), (a_sk, (arJ G 50 f_sk)), (a_l, (arW G 6 f_l)), (a_lo, (oc3 e_cl a_hd a_sr a_cd)), (a_sr, (arI G n_sr f_sr)), (a_cd, (arI G n_cd f_cd)), (a_hd, (arI G n_hd f_hd))] hP hD (fun hP hD => ?_)
        exact kk 346 dX5_meetGlass_346 ((e_br * (10 - k_d)) / 10) (e_we ||| (1 <<< (k_n &&& 31))) e_me (3 - e_wy) (e_ho - k_l) 0 f_as f_sk ls H locs (hP.sub [0, 1, 2, 3, 4, 5, 6, 7, 8, 9, 10, 11, 12, 13] rfl) (hD.sub [0, 1, 2, 3, 4, 5, 6, 7, 8, 9, 10, 11, 12, 13] (by decide) rfl) hS (⟨by omega, by omega⟩) (⟨by omega, by omega⟩) (⟨by omega, by omega⟩) (⟨by have zc_o_v : (0 : Int32).toInt = 0 := (by decide); omega, by have zc_o_v : (0 : Int32).toInt = 0 := (by decide); omega⟩)
    ·
      have i_5 : k_s.toInt = 0 := by have z := g5_neN (a := k_s.toInt) (b := 0) (by rfl) (by decide) c_5; omega
      refine lv_aload_n hx hb dX5_meetGlass_295 rfl (lv_at hl 0 rfl) ?_
      refine va_get (D := G.1) (ci := 5) (v := .int e_wy) (C := RX5) (T := TX5) (N := 13) hx hb hts inG_X5 hown hK hP 0 rfl rfl 10 (by decide) (hts _ fl_X5_30) (fun _ h9 => h9) rfl dX5_meetGlass_296 ?_
      refine lv_iconst (v := 1) hx hb dX5_meetGlass_299 (by decide) ?_
      refine lv_ixor hx hb dX5_meetGlass_300 ?_
      have hx_9 := (g_xor (w := e_wy) (by omega) (by omega)).1
      refine lv_goto (tgt := 325) hx hb dX5_meetGlass_301 (by decide) ?_
      refine va_put (D := G.1) (ci := 5) (v := .int (e_wy ^^^ 1)) (ty := .int) (C := RX5) (T := TX5) (N := 13) hx hb hts inG_X5 tyX5 tyX5_ok nmX5 hown hK hP hD hS 0 rfl rfl 10 (by decide) (hts _ fl_X5_30) (fun _ h9 => h9) rfl (by decide +kernel) rfl rfl (Nat.le_of_ble_eq_true rfl) dX5_meetGlass_325 (fun H locs hP hD hS => ?_)
      refine g5_rs [(a_k, (oc5 a_h a_j a_pt e_ln e_se e_lh ((e_br * (10 - k_d)) / 10) e_we e_me e_ce (e_wy ^^^ 1) (e_ho - k_l) e_ov)), (a_h, (oc1 e_wa e_le e_st e_fo e_lc a_l a_g a_b a_s a_p a_w e_gb a_bb)), (a_g, (oc6 6 5 a_gn e_g)), (a_gn, (arI G 30 f_g)), (a_p, (oc6 8 5 a_pn e_p)), (a_pn, (arI G 40 f_p)), (a_j, (oc2 a_as a_sk)), (a_as, (arI G 8 f_as)), (a_sk, (arJ G 50 f_sk)), (a_l, (arW G 6 f_l)), (a_lo, (oc3 e_cl a_hd a_sr a_cd)), (a_sr, (arI G n_sr f_sr)), (a_cd, (arI G n_cd f_cd)), (a_hd, (arI G n_hd f_hd))] hP hD (fun hP hD => ?_)
      refine lv_aload_n hx hb dX5_meetGlass_328 rfl (lv_at hl 0 rfl) ?_
      refine lv_dup hx hb dX5_meetGlass_329 rfl ?_
      refine va_get (D := G.1) (ci := 5) (v := .int e_we) (C := RX5) (T := TX5) (N := 13) hx hb hts inG_X5 hown hK hP 0 rfl rfl 7 (by decide) (hts _ fl_X5_49) (fun _ h9 => h9) rfl dX5_meetGlass_330 ?_
      refine lv_iconst (v := 1) hx hb dX5_meetGlass_333 (by decide) ?_
      refine lv_iload hx hb dX5_meetGlass_334 (lv_at hl 3 rfl) ?_
      refine lv_ishl hx hb dX5_meetGlass_336 ?_
      refine lv_ior hx hb dX5_meetGlass_337 ?_
      refine va_put (D := G.1) (ci := 5) (v := .int (e_we ||| (1 <<< (k_n &&& 31)))) (ty := .int) (C := RX5) (T := TX5) (N := 13) hx hb hts inG_X5 tyX5 tyX5_ok nmX5 hown hK hP hD hS 0 rfl rfl 7 (by decide) (hts _ fl_X5_49) (fun _ h9 => h9) rfl (by decide +kernel) rfl rfl (Nat.le_of_ble_eq_true rfl) dX5_meetGlass_338 (fun H locs hP hD hS => ?_)
      refine g5_rs [(a_k, (oc5 a_h a_j a_pt e_ln e_se e_lh ((e_br * (10 - k_d)) / 10) (e_we ||| (1 <<< (k_n &&& 31))) e_me e_ce (e_wy ^^^ 1) (e_ho - k_l) e_ov)), (a_h, (oc1 e_wa e_le e_st e_fo e_lc a_l a_g a_b a_s a_p a_w e_gb a_bb)), (a_g, (oc6 6 5 a_gn e_g)), (a_gn, (arI G 30 f_g)), (a_p, (oc6 8 5 a_pn e_p)), (a_pn, (arI G 40 f_p)), (a_j, (oc2 a_as a_sk)), (a_as, (arI G 8 f_as)), (a_sk, (arJ G 50 f_sk)), (a_l, (arW G 6 f_l)), (a_lo, (oc3 e_cl a_hd a_sr a_cd)), (a_sr, (arI G n_sr f_sr)), (a_cd, (arI G n_cd f_cd)), (a_hd, (arI G n_hd f_hd))] hP hD (fun hP hD => ?_)
      refine lv_aload_n hx hb dX5_meetGlass_341 rfl (lv_at hl 0 rfl) ?_
      refine lv_iconst (v := 0) hx hb dX5_meetGlass_342 (by decide) ?_
      refine va_put (D := G.1) (ci := 5) (v := .int 0) (ty := .boolean) (C := RX5) (T := TX5) (N := 13) hx hb hts inG_X5 tyX5 tyX5_ok nmX5 hown hK hP hD hS 0 rfl rfl 12 (by decide) (hts _ fl_X5_56) (fun _ h9 => h9) rfl (by decide +kernel) rfl rfl (Nat.le_of_ble_eq_true rfl) dX5_meetGlass_343 (fun H locs hP hD hS => ?_)
      refine g5_rs [(a_k, (oc5 a_h a_j a_pt e_ln e_se e_lh ((e_br * (10 - k_d)) / 10) (e_we ||| (1 <<< (k_n &&& 31))) e_me e_ce (e_wy ^^^ 1) (e_ho - k_l) 0)), (a_h, (oc1 e_wa e_le e_st e_fo e_lc a_l a_g a_b a_s a_p a_w e_gb a_bb)), (a_g, (oc6 6 5 a_gn e_g)), (a_gn, (arI G 30 f_g)), (a_p, (oc6 8 5 a_pn e_p)), (a_pn, (arI G 40 f_p)), (a_j, (oc2 a_as a_sk)), (a_as, (arI G 8 f_as)), (a_sk, (arJ G 50 f_sk)), (a_l, (arW G 6 f_l)), (a_lo, (oc3 e_cl a_hd a_sr a_cd)), (a_sr, (arI G n_sr f_sr)), (a_cd, (arI G n_cd f_cd)), (a_hd, (arI G n_hd f_hd))] hP hD (fun hP hD => ?_)
      exact kk 346 dX5_meetGlass_346 ((e_br * (10 - k_d)) / 10) (e_we ||| (1 <<< (k_n &&& 31))) e_me (e_wy ^^^ 1) (e_ho - k_l) 0 f_as f_sk ls H locs (hP.sub [0, 1, 2, 3, 4, 5, 6, 7, 8, 9, 10, 11, 12, 13] rfl) (hD.sub [0, 1, 2, 3, 4, 5, 6, 7, 8, 9, 10, 11, 12, 13] (by decide) rfl) hS (⟨by omega, by omega⟩) (⟨by omega, by omega⟩) (⟨by omega, by omega⟩) (⟨by have zc_o_v : (0 : Int32).toInt = 0 := (by decide); omega, by have zc_o_v : (0 : Int32).toInt = 0 := (by decide); omega⟩)
  ·
    have i_3 : ((e_br * (10 - k_d)) / 10).toInt < e_le.toInt := by have z := g5_geN (a := ((e_br * (10 - k_d)) / 10).toInt) (b := e_le.toInt) (by rfl) (by rfl) c_3; omega
    exact kk 277 dX5_meetGlass_277 ((e_br * (10 - k_d)) / 10) e_we e_me e_wy e_ho e_ov f_as f_sk ls H locs (hP.sub [0, 1, 2, 3, 4, 5, 6, 7, 8, 9, 10, 11, 12, 13] rfl) (hD.sub [0, 1, 2, 3, 4, 5, 6, 7, 8, 9, 10, 11, 12, 13] (by decide) rfl) hS (⟨by omega, by omega⟩) (⟨by omega, by omega⟩) (⟨by omega, by omega⟩) (⟨by omega, by omega⟩)
theorem ml_X5_134 : Cond.methodLink RX5 134 yX2_toldUpTo ∈ tblG := tg 860 (by decide +kernel) (by decide +kernel)
theorem im_X2_toldUpTo : Cond.instanceMethod yX2_toldUpTo ∈ tblG := tg 861 (by decide +kernel) (by decide +kernel)
theorem se_X2_toldUpTo : Cond.selects RX2 yX2_toldUpTo yX2_toldUpTo ∈ tblG := tg 862 (by decide +kernel) (by decide +kernel)
theorem cd_X2_toldUpTo : Cond.code yX2_toldUpTo cX2_toldUpTo 2 (some .int) ∈ tblG := tg 863 (by decide +kernel) (by decide +kernel)
theorem gW_X2_toldUpTo : GoodIn tblG (wsG yX2_toldUpTo cX2_toldUpTo 2 (some .int)) := tgi cd_X2_toldUpTo
theorem gV_X5_134 : GoodIn tblG (wsV RX5 134 RX2 yX2_toldUpTo (wsG yX2_toldUpTo cX2_toldUpTo 2 (some .int))) := tgV ml_X5_134 im_X2_toldUpTo se_X2_toldUpTo ini_X2 gW_X2_toldUpTo
theorem hv_X2_toldUpTo : yX2_toldUpTo.cls = RX2 ∧ yX2_toldUpTo.cls ≠ "java/lang/invoke/MethodHandle" ∧ yX2_toldUpTo.cls ≠ "java/lang/invoke/VarHandle" ∧ (parseMethodDescriptor yX2_toldUpTo.desc).map (fun d => d.parameters.length) = some 1 := by decide +kernel
