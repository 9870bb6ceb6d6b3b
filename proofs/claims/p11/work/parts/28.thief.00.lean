theorem dX7_barPoints_0 : decode cX7_barPoints 0 = .ok (.iconst 0, 1) := by decide +kernel
theorem dX7_barPoints_1 : decode cX7_barPoints 1 = .ok (.istore_n 1, 1) := by decide +kernel
theorem dX7_barPoints_2 : decode cX7_barPoints 2 = .ok (.iload_n 1, 1) := by decide +kernel
theorem dX7_barPoints_3 : decode cX7_barPoints 3 = .ok (.aload_n 0, 1) := by decide +kernel
theorem dX7_barPoints_4 : decode cX7_barPoints 4 = .ok (.getfield 38, 3) := by decide +kernel
theorem dX7_barPoints_7 : decode cX7_barPoints 7 = .ok (.getfield 92, 3) := by decide +kernel
theorem dX7_barPoints_10 : decode cX7_barPoints 10 = .ok (.if_icmp .ge 43, 3) := by decide +kernel
theorem dX7_barPoints_13 : decode cX7_barPoints 13 = .ok (.aload_n 0, 1) := by decide +kernel
theorem dX7_barPoints_14 : decode cX7_barPoints 14 = .ok (.getfield 9, 3) := by decide +kernel
theorem dX7_barPoints_17 : decode cX7_barPoints 17 = .ok (.aload_n 0, 1) := by decide +kernel
theorem dX7_barPoints_18 : decode cX7_barPoints 18 = .ok (.getfield 38, 3) := by decide +kernel
theorem dX7_barPoints_21 : decode cX7_barPoints 21 = .ok (.getfield 95, 3) := by decide +kernel
theorem dX7_barPoints_24 : decode cX7_barPoints 24 = .ok (.iload_n 1, 1) := by decide +kernel
theorem dX7_barPoints_25 : decode cX7_barPoints 25 = .ok (.iaload, 1) := by decide +kernel
theorem dX7_barPoints_26 : decode cX7_barPoints 26 = .ok (.bipush 64, 2) := by decide +kernel
theorem dX7_barPoints_28 : decode cX7_barPoints 28 = .ok (.idiv, 1) := by decide +kernel
theorem dX7_barPoints_29 : decode cX7_barPoints 29 = .ok (.dup2, 1) := by decide +kernel
theorem dX7_barPoints_30 : decode cX7_barPoints 30 = .ok (.laload, 1) := by decide +kernel
theorem dX7_barPoints_31 : decode cX7_barPoints 31 = .ok (.lconst 1, 1) := by decide +kernel
theorem dX7_barPoints_32 : decode cX7_barPoints 32 = .ok (.aload_n 0, 1) := by decide +kernel
theorem dX7_barPoints_33 : decode cX7_barPoints 33 = .ok (.getfield 38, 3) := by decide +kernel
theorem dX7_barPoints_36 : decode cX7_barPoints 36 = .ok (.getfield 95, 3) := by decide +kernel
theorem dX7_barPoints_39 : decode cX7_barPoints 39 = .ok (.iload_n 1, 1) := by decide +kernel
theorem dX7_barPoints_40 : decode cX7_barPoints 40 = .ok (.iaload, 1) := by decide +kernel
theorem dX7_barPoints_41 : decode cX7_barPoints 41 = .ok (.bipush 64, 2) := by decide +kernel
theorem dX7_barPoints_43 : decode cX7_barPoints 43 = .ok (.irem, 1) := by decide +kernel
theorem dX7_barPoints_44 : decode cX7_barPoints 44 = .ok (.lshl, 1) := by decide +kernel
theorem dX7_barPoints_45 : decode cX7_barPoints 45 = .ok (.lor, 1) := by decide +kernel
theorem dX7_barPoints_46 : decode cX7_barPoints 46 = .ok (.lastore, 1) := by decide +kernel
theorem dX7_barPoints_47 : decode cX7_barPoints 47 = .ok (.iinc 1 1, 3) := by decide +kernel
theorem dX7_barPoints_50 : decode cX7_barPoints 50 = .ok (.goto (-48), 3) := by decide +kernel
theorem dX7_barPoints_53 : decode cX7_barPoints 53 = .ok (.return_, 1) := by decide +kernel
theorem inG_X7 : ∀ w ∈ wsX70, w ∈ tblG := tgs [328, 330, 332, 334, 336, 338, 340, 342, 344, 346] (by decide +kernel) (by decide +kernel)
theorem fl_X7_38 : Cond.fieldLink RX7 38 "LateGlass$Thief" "eye" "LLateGlass$Look;" ∈ tblG := tg 318 (by decide +kernel) (by decide +kernel)
theorem fl_X7_92 : Cond.fieldLink RX7 92 "LateGlass$Look" "length" "I" ∈ tblG := tg 251 (by decide +kernel) (by decide +kernel)
theorem fl_X7_9 : Cond.fieldLink RX7 9 "LateGlass$Thief" "barred" "[J" ∈ tblG := tg 319 (by decide +kernel) (by decide +kernel)
theorem fl_X7_95 : Cond.fieldLink RX7 95 "LateGlass$Look" "points" "[I" ∈ tblG := tg 247 (by decide +kernel) (by decide +kernel)
set_option maxHeartbeats 4000000 in
set_option maxRecDepth 100000 in
theorem th_bar (l : Launch) (G : g5_G) (a_th a_k a_pt a_ba a_h a_ad a_cn a_nx a_hp a_hl a_lv a_j : Nat) (sz : Nat) (e_fu : Int32) (e_ln : Int32) (e_se : Int32) (e_lh : Int32) (e_br : Int32) (e_we : Int32) (e_me : Int32) (e_ce : Int32) (e_wy : Int32) (e_ho : Int32) (e_ov : Int32) (f_pt : Nat → Int32) (f_ba : Nat → Int64) (h_e_ln : 0 ≤ e_ln.toInt ∧ e_ln.toInt ≤ 200) (h_e_ov : 0 ≤ e_ov.toInt ∧ e_ov.toInt ≤ 1) (e_q : ∀ j : Nat, (j : Int) < e_ln.toInt → 0 ≤ (f_pt j).toInt ∧ (f_pt j).toInt ≤ 1535) : Met l yX7_barPoints (wsG yX7_barPoints cX7_barPoints 2 none) ({ frames := 0, cells := 0, slots := 0, locals := 0 }) (va_Pc [.ref a_th] (g5_P G [(a_th, .inr (7, [.ref a_h, .ref a_k, .ref a_ba, .ref a_ad, .int e_fu, .ref a_cn, .ref a_nx, .ref a_hp, .ref a_hl, .ref a_lv])), (a_k, .inr (5, [.ref a_h, .ref a_j, .ref a_pt, .int e_ln, .int e_se, .int e_lh, .int e_br, .int e_we, .int e_me, .int e_ce, .int e_wy, .int e_ho, .int e_ov])), (a_pt, .inl (G.2 0, 200, .inl f_pt)), (a_ba, .inl (G.2 1, 24, .inr (.inl f_ba)))] sz)) (va_Qv (fun (u : va_W) => (∃ (o_f : Nat → Int64), (u = [(a_th, .inr (7, [.ref a_h, .ref a_k, .ref a_ba, .ref a_ad, .int e_fu, .ref a_cn, .ref a_nx, .ref a_hp, .ref a_hl, .ref a_lv])), (a_k, .inr (5, [.ref a_h, .ref a_j, .ref a_pt, .int e_ln, .int e_se, .int e_lh, .int e_br, .int e_we, .int e_me, .int e_ce, .int e_wy, .int e_ho, .int e_ov])), (a_pt, .inl (G.2 0, 200, .inl f_pt)), (a_ba, .inl (G.2 1, 24, .inr (.inl o_f)))]))) (g5_B G (va_A [(a_th, .inr (7, [.ref a_h, .ref a_k, .ref a_ba, .ref a_ad, .int e_fu, .ref a_cn, .ref a_nx, .ref a_hp, .ref a_hl, .ref a_lv])), (a_k, .inr (5, [.ref a_h, .ref a_j, .ref a_pt, .int e_ln, .int e_se, .int e_lh, .int e_br, .int e_we, .int e_me, .int e_ce, .int e_wy, .int e_ho, .int e_ov])), (a_pt, .inl (G.2 0, 200, .inl f_pt)), (a_ba, .inl (G.2 1, 24, .inr (.inl f_ba)))] sz)) (va_A [(a_th, .inr (7, [.ref a_h, .ref a_k, .ref a_ba, .ref a_ad, .int e_fu, .ref a_cn, .ref a_nx, .ref a_hp, .ref a_hl, .ref a_lv])), (a_k, .inr (5, [.ref a_h, .ref a_j, .ref a_pt, .int e_ln, .int e_se, .int e_lh, .int e_br, .int e_we, .int e_me, .int e_ce, .int e_wy, .int e_ho, .int e_ov])), (a_pt, .inl (G.2 0, 200, .inl f_pt)), (a_ba, .inl (G.2 1, 24, .inr (.inl f_ba)))] sz)) 0 0 (va_A [(a_th, .inr (7, [.ref a_h, .ref a_k, .ref a_ba, .ref a_ad, .int e_fu, .ref a_cn, .ref a_nx, .ref a_hp, .ref a_hl, .ref a_lv])), (a_k, .inr (5, [.ref a_h, .ref a_j, .ref a_pt, .int e_ln, .int e_se, .int e_lh, .int e_br, .int e_we, .int e_me, .int e_ce, .int e_wy, .int e_ho, .int e_ov])), (a_pt, .inl (G.2 0, 200, .inl f_pt)), (a_ba, .inl (G.2 1, 24, .inr (.inl f_ba)))] sz) := by
  refine Met.ofW (cc := cX7_barPoints) (maxL := 2) (ret := none) (by decide) rfl ?_
  intro p e s m args below meth c s₁ B hml hv
  obtain ⟨rfl, hsz, hP, hK, hD0, hN, hT⟩ := hv
  have hx := B.exec
  have hb := B.bytes
  have hr := B.returns
  have hts : ∀ w ∈ tblG, w.before _ s = true := fun w h => atoms_spec (ws := (wsG yX7_barPoints cX7_barPoints 2 none)) B.pre w (List.mem_cons_of_mem _ h)
  have hown : s.vm.findClass RX7 = some m.cls := findClass_of_methodNamed B.named
  have hlocks := B.notSynchronized
  subst hsz
  have hD := hD0.self (sz := s.heap.size)
  generalize hAe : va_A [(a_th, .inr (7, [.ref a_h, .ref a_k, .ref a_ba, .ref a_ad, .int e_fu, .ref a_cn, .ref a_nx, .ref a_hp, .ref a_hl, .ref a_lv])), (a_k, .inr (5, [.ref a_h, .ref a_j, .ref a_pt, .int e_ln, .int e_se, .int e_lh, .int e_br, .int e_we, .int e_me, .int e_ce, .int e_wy, .int e_ho, .int e_ov])), (a_pt, .inl (G.2 0, 200, .inl f_pt)), (a_ba, .inl (G.2 1, 24, .inr (.inl f_ba)))] s.heap.size = A at hD hT ⊢
  have hA : ∀ q : Nat, s.heap.size ≤ q → A q := fun q h => by rw [← hAe]; exact Or.inr h
  have hS : va_S A s.heap s.heap [] := va_S.rf
  have hP : va_P G.1 vwCl [(a_th, .inr (7, [.ref a_h, .ref a_k, .ref a_ba, .ref a_ad, .int e_fu, .ref a_cn, .ref a_nx, .ref a_hp, .ref a_hl, .ref a_lv])), (a_k, .inr (5, [.ref a_h, .ref a_j, .ref a_pt, .int e_ln, .int e_se, .int e_lh, .int e_br, .int e_we, .int e_me, .int e_ce, .int e_wy, .int e_ho, .int e_ov])), (a_pt, .inl (G.2 0, 200, .inl f_pt)), (a_ba, .inl (G.2 1, 24, .inr (.inl f_ba)))] s.heap := hP
  have hl := lv_entry ([.ref a_th]) (n := 2) (Nat.le_of_ble_eq_true rfl)
  rw [lg_entry_eq]
  generalize (lg_sl ([.ref a_th]) ++ List.replicate (2 - (lg_sl ([.ref a_th])).length) Slot.unset).toArray = ls at hl ⊢
  have hl : lv_has ls 2 [(0, .ref a_th)] := hl
  refine lv_iconst (v := 0) hx hb dX7_barPoints_0 (by decide) ?_
  refine lv_istore_n (lv' := [(1, .int 0), (0, .ref a_th)]) hx hb dX7_barPoints_1 rfl hl (by decide) rfl (fun ls hl => ?_)
  refine g5_loop (α := (Int32) × (Nat → Int64)) (fun (q : (Int32) × (Nat → Int64)) (ls : Array Slot) (H : Heap) (locs : List Loc) => match q with | (k_i, k_f) => lv_has ls 2 [(1, .int k_i), (0, .ref a_th)] ∧ va_P G.1 vwCl [(a_th, .inr (7, [.ref a_h, .ref a_k, .ref a_ba, .ref a_ad, .int e_fu, .ref a_cn, .ref a_nx, .ref a_hp, .ref a_hl, .ref a_lv])), (a_k, .inr (5, [.ref a_h, .ref a_j, .ref a_pt, .int e_ln, .int e_se, .int e_lh, .int e_br, .int e_we, .int e_me, .int e_ce, .int e_wy, .int e_ho, .int e_ov])), (a_pt, .inl (G.2 0, 200, .inl f_pt)), (a_ba, .inl (G.2 1, 24, .inr (.inl k_f)))] H ∧ va_D A [(a_th, .inr (7, [.ref a_h, .ref a_k, .ref a_ba, .ref a_ad, .int e_fu, .ref a_cn, .ref a_nx, .ref a_hp, .ref a_hl, .ref a_lv])), (a_k, .inr (5, [.ref a_h, .ref a_j, .ref a_pt, .int e_ln, .int e_se, .int e_lh, .int e_br, .int e_we, .int e_me, .int e_ce, .int e_wy, .int e_ho, .int e_ov])), (a_pt, .inl (G.2 0, 200, .inl f_pt)), (a_ba, .inl (G.2 1, 24, .inr (.inl k_f)))] ∧ va_S A s.heap H locs ∧ (0 ≤ k_i.toInt ∧ k_i.toInt ≤ 200)) (fun (q : (Int32) × (Nat → Int64)) => match q with | (k_i, k_f) => Int.toNat (200 - k_i.toInt)) (0, f_ba) ⟨lv_sub hl [0, 1] rfl, hP, hD, hS, ⟨by decide, by decide⟩⟩ ?_
  rintro ⟨k_i, k_f⟩ ls H locs ⟨hl, hP, hD, hS, i_1⟩ ih_2_2
  have hl : lv_has ls 2 [(1, .int k_i), (0, .ref a_th)] := hl
  have i_1 : 0 ≤ k_i.toInt ∧ k_i.toInt ≤ 200 := i_1
  have hP : va_P G.1 vwCl [(a_th, .inr (7, [.ref a_h, .ref a_k, .ref a_ba, .ref a_ad, .int e_fu, .ref a_cn, .ref a_nx, .ref a_hp, .ref a_hl, .ref a_lv])), (a_k, .inr (5, [.ref a_h, .ref a_j, .ref a_pt, .int e_ln, .int e_se, .int e_lh, .int e_br, .int e_we, .int e_me, .int e_ce, .int e_wy, .int e_ho, .int e_ov])), (a_pt, .inl (G.2 0, 200, .inl f_pt)), (a_ba, .inl (G.2 1, 24, .inr (.inl k_f)))] H := hP
  have hD : va_D A [(a_th, .inr (7, [.ref a_h, .ref a_k, .ref a_ba, .ref a_ad, .int e_fu, .ref a_cn, .ref a_nx, .ref a_hp, .ref a_hl, .ref a_lv])), (a_k, .inr (5, [.ref a_h, .ref a_j, .ref a_pt, .int e_ln, .int e_se, .int e_lh, .int e_br, .int e_we, .int e_me, .int e_ce, .int e_wy, .int e_ho, .int e_ov])), (a_pt, .inl (G.2 0, 200, .inl f_pt)), (a_ba, .inl (G.2 1, 24, .inr (.inl k_f)))] := hD
  refine lv_iload_n hx hb dX7_barPoints_2 rfl (lv_at hl 0 rfl) ?_
  refine lv_aload_n hx hb dX7_barPoints_3 rfl (lv_at hl 1 rfl) ?_
  refine va_get (D := G.1) (ci := 7) (v := .ref a_k) (C := RX7) (T := TX7) (N := 10) hx hb hts inG_X7 hown hK hP 0 rfl rfl 1 (by decide) (hts _ fl_X7_38) (fun _ h9 => h9) rfl dX7_barPoints_4 ?_
  refine va_get (D := G.1) (ci := 5) (v := .int e_ln) (C := RX5) (T := TX5) (N := 13) hx hb hts inG_X5 hown hK hP 1 rfl rfl 3 (by decide) (hts _ fl_X7_92) (fun _ h9 => h9) rfl dX7_barPoints_7 ?_
  refine lv_icmp_ge (tgt := 53) hx hb dX7_barPoints_10 (by decide) (fun c_3 => ?_) (fun c_3 => ?_)
  ·
    have i_3 : k_i.toInt ≥ e_ln.toInt := by have z := g5_ge (a := k_i.toInt) (b := e_ln.toInt) (by rfl) (by rfl) c_3; omega
    exact W.vret hx hb hr (fun t ht hW => ⟨⟨[(a_th, .inr (7, [.ref a_h, .ref a_k, .ref a_ba, .ref a_ad, .int e_fu, .ref a_cn, .ref a_nx, .ref a_hp, .ref a_hl, .ref a_lv])), (a_k, .inr (5, [.ref a_h, .ref a_j, .ref a_pt, .int e_ln, .int e_se, .int e_lh, .int e_br, .int e_we, .int e_me, .int e_ce, .int e_wy, .int e_ho, .int e_ov])), (a_pt, .inl (G.2 0, 200, .inl f_pt)), (a_ba, .inl (G.2 1, 24, .inr (.inl k_f)))], rfl, ⟨k_f, rfl⟩, by rw [ht]; exact hP.sub [0, 1, 2, 3] rfl, hD.sub [0, 1, 2, 3] (by decide) rfl⟩, hS.F ht⟩) hS.2.2 dX7_barPoints_53
  ·
    have i_3 : k_i.toInt < e_ln.toInt := by have z := g5_geN (a := k_i.toInt) (b := e_ln.toInt) (by rfl) (by rfl) c_3; omega
    refine lv_aload_n hx hb dX7_barPoints_13 rfl (lv_at hl 1 rfl) ?_
    refine va_get (D := G.1) (ci := 7) (v := .ref a_ba) (C := RX7) (T := TX7) (N := 10) hx hb hts inG_X7 hown hK hP 0 rfl rfl 2 (by decide) (hts _ fl_X7_9) (fun _ h9 => h9) rfl dX7_barPoints_14 ?_
    refine lv_aload_n hx hb dX7_barPoints_17 rfl (lv_at hl 1 rfl) ?_
    refine va_get (D := G.1) (ci := 7) (v := .ref a_k) (C := RX7) (T := TX7) (N := 10) hx hb hts inG_X7 hown hK hP 0 rfl rfl 1 (by decide) (hts _ fl_X7_38) (fun _ h9 => h9) rfl dX7_barPoints_18 ?_
    refine va_get (D := G.1) (ci := 5) (v := .ref a_pt) (C := RX5) (T := TX5) (N := 13) hx hb hts inG_X5 hown hK hP 1 rfl rfl 2 (by decide) (hts _ fl_X7_95) (fun _ h9 => h9) rfl dX7_barPoints_21 ?_
    refine lv_iload_n hx hb dX7_barPoints_24 rfl (lv_at hl 0 rfl) ?_
    refine va_iald hx hb hK hP 2 0 rfl rfl (i := k_i) (vp_in_iff.mpr ⟨by omega, by omega⟩) dX7_barPoints_25 ?_
    have hp_4 : 0 ≤ (f_pt k_i.toNatClampNeg).toInt ∧ (f_pt k_i.toNatClampNeg).toInt ≤ 1535 := e_q _ (by have zz := g5_clamp k_i; omega)
    refine lv_bipush (v := 64) hx hb dX7_barPoints_26 (by decide) ?_
    refine lv_idiv hx hb dX7_barPoints_28 (by decide) ?_
    have t_5 : ((f_pt k_i.toNatClampNeg) / 64).toInt = (f_pt k_i.toNatClampNeg).toInt / 64 := g5_idiv (a := (f_pt k_i.toNatClampNeg).toInt) (b := 64) rfl (by decide) (by omega) (by decide)
    refine lv_dup2_11 hx hb dX7_barPoints_29 rfl rfl ?_
    refine va_lald hx hb hK hP 3 1 rfl rfl (i := ((f_pt k_i.toNatClampNeg) / 64)) (vp_in_iff.mpr ⟨by omega, by omega⟩) dX7_barPoints_30 ?_
    refine lv_lconst (v := 1) hx hb dX7_barPoints_31 (by decide) ?_
    refine lv_aload_n hx hb dX7_barPoints_32 rfl (lv_at hl 1 rfl) ?_
    refine va_get (D := G.1) (ci := 7) (v := .ref a_k) (C := RX7) (T := TX7) (N := 10) hx hb hts inG_X7 hown hK hP 0 rfl rfl 1 (by decide) (hts _ fl_X7_38) (fun _ h9 => h9) rfl dX7_barPoints_33 ?_
    refine va_get (D := G.1) (ci := 5) (v := .ref a_pt) (C := RX5) (T := TX5) (N := 13) hx hb hts inG_X5 hown hK hP 1 rfl rfl 2 (by decide) (hts _ fl_X7_95) (fun _ h9 => h9) rfl dX7_barPoints_36 ?_
    refine lv_iload_n hx hb dX7_barPoints_39 rfl (lv_at hl 0 rfl) ?_
    refine va_iald hx hb hK hP 2 0 rfl rfl (i := k_i) (vp_in_iff.mpr ⟨by omega, by omega⟩) dX7_barPoints_40 ?_
    have hp_6 : 0 ≤ (f_pt k_i.toNatClampNeg).toInt ∧ (f_pt k_i.toNatClampNeg).toInt ≤ 1535 := e_q _ (by have zz := g5_clamp k_i; omega)
    refine lv_bipush (v := 64) hx hb dX7_barPoints_41 (by decide) ?_
    refine lv_irem hx hb dX7_barPoints_43 (by decide) ?_
    have t_7 : ((f_pt k_i.toNatClampNeg) - (f_pt k_i.toNatClampNeg) / 64 * 64).toInt = (f_pt k_i.toNatClampNeg).toInt % 64 := g5_irem (a := (f_pt k_i.toNatClampNeg).toInt) (b := 64) rfl (by decide) (by omega) (by decide)
    refine lv_lshl (v := ((1 : Int64) <<< (((f_pt k_i.toNatClampNeg) - (f_pt k_i.toNatClampNeg) / 64 * 64).toInt64 &&& 63))) hx hb dX7_barPoints_44 rfl ?_
    refine lv_lor hx hb dX7_barPoints_45 ?_
    refine va_last hx hb hK hP hD hS 3 1 rfl rfl (i := ((f_pt k_i.toNatClampNeg) / 64)) (x := ((k_f ((f_pt k_i.toNatClampNeg) / 64).toNatClampNeg) ||| ((1 : Int64) <<< (((f_pt k_i.toNatClampNeg) - (f_pt k_i.toNatClampNeg) / 64 * 64).toInt64 &&& 63)))) (vp_in_iff.mpr ⟨by omega, by omega⟩) dX7_barPoints_46 (fun H locs hP hD hS => ?_)
    have hP : va_P G.1 vwCl [(a_th, .inr (7, [.ref a_h, .ref a_k, .ref a_ba, .ref a_ad, .int e_fu, .ref a_cn, .ref a_nx, .ref a_hp, .ref a_hl, .ref a_lv])), (a_k, .inr (5, [.ref a_h, .ref a_j, .ref a_pt, .int e_ln, .int e_se, .int e_lh, .int e_br, .int e_we, .int e_me, .int e_ce, .int e_wy, .int e_ho, .int e_ov])), (a_pt, .inl (G.2 0, 200, .inl f_pt)), (a_ba, .inl (G.2 1, 24, .inr (.inl (vp_updL k_f ((f_pt k_i.toNatClampNeg) / 64).toNatClampNeg ((k_f ((f_pt k_i.toNatClampNeg) / 64).toNatClampNeg) ||| ((1 : Int64) <<< (((f_pt k_i.toNatClampNeg) - (f_pt k_i.toNatClampNeg) / 64 * 64).toInt64 &&& 63)))))))] H := hP
    have hD : va_D A [(a_th, .inr (7, [.ref a_h, .ref a_k, .ref a_ba, .ref a_ad, .int e_fu, .ref a_cn, .ref a_nx, .ref a_hp, .ref a_hl, .ref a_lv])), (a_k, .inr (5, [.ref a_h, .ref a_j, .ref a_pt, .int e_ln, .int e_se, .int e_lh, .int e_br, .int e_we, .int e_me, .int e_ce, .int e_wy, .int e_ho, .int e_ov])), (a_pt, .inl (G.2 0, 200, .inl f_pt)), (a_ba, .inl (G.2 1, 24, .inr (.inl (vp_updL k_f ((f_pt k_i.toNatClampNeg) / 64).toNatClampNeg ((k_f ((f_pt k_i.toNatClampNeg) / 64).toNatClampNeg) ||| ((1 : Int64) <<< (((f_pt k_i.toNatClampNeg) - (f_pt k_i.toNatClampNeg) / 64 * 64).toInt64 &&& 63)))))))] := hD
    refine lv_iinc (v := (k_i + 1)) (lv' := [(1, .int (k_i + 1)), (0, .ref a_th)]) hx hb dX7_barPoints_47 hl (k := 0) rfl rfl (by decide) rfl (fun ls hl => ?_)
    have t_8 : (k_i + 1).toInt = k_i.toInt + 1 := g5_iadd (a := k_i.toInt) (b := 1) rfl (by decide) (by omega) (by omega)
    refine lv_goto (tgt := 2) hx hb dX7_barPoints_50 (by decide) ?_
    exact ih_2_2 ((k_i + 1), (vp_updL k_f ((f_pt k_i.toNatClampNeg) / 64).toNatClampNeg ((k_f ((f_pt k_i.toNatClampNeg) / 64).toNatClampNeg) ||| ((1 : Int64) <<< (((f_pt k_i.toNatClampNeg) - (f_pt k_i.toNatClampNeg) / 64 * 64).toInt64 &&& 63))))) ls H locs (show Int.toNat (200 - (k_i + 1).toInt) < Int.toNat (200 - k_i.toInt) from g_up (show k_i.toInt < (k_i + 1).toInt by omega) (show k_i.toInt < 200 by omega)) ⟨lv_sub hl [0, 1] rfl, hP, hD, hS, ⟨by omega, by omega⟩⟩
theorem dX7_addPoints_0 : decode cX7_addPoints 0 = .ok (.iconst 0, 1) := by decide +kernel
theorem dX7_addPoints_1 : decode cX7_addPoints 1 = .ok (.istore_n 2, 1) := by decide +kernel
theorem dX7_addPoints_2 : decode cX7_addPoints 2 = .ok (.iload_n 2, 1) := by decide +kernel
theorem dX7_addPoints_3 : decode cX7_addPoints 3 = .ok (.aload_n 0, 1) := by decide +kernel
theorem dX7_addPoints_4 : decode cX7_addPoints 4 = .ok (.getfield 38, 3) := by decide +kernel
theorem dX7_addPoints_7 : decode cX7_addPoints 7 = .ok (.getfield 92, 3) := by decide +kernel
theorem dX7_addPoints_10 : decode cX7_addPoints 10 = .ok (.if_icmp .ge 27, 3) := by decide +kernel
theorem dX7_addPoints_13 : decode cX7_addPoints 13 = .ok (.aload_n 0, 1) := by decide +kernel
theorem dX7_addPoints_14 : decode cX7_addPoints 14 = .ok (.getfield 15, 3) := by decide +kernel
theorem dX7_addPoints_17 : decode cX7_addPoints 17 = .ok (.aload_n 0, 1) := by decide +kernel
theorem dX7_addPoints_18 : decode cX7_addPoints 18 = .ok (.getfield 38, 3) := by decide +kernel
theorem dX7_addPoints_21 : decode cX7_addPoints 21 = .ok (.getfield 95, 3) := by decide +kernel
theorem dX7_addPoints_24 : decode cX7_addPoints 24 = .ok (.iload_n 2, 1) := by decide +kernel
theorem dX7_addPoints_25 : decode cX7_addPoints 25 = .ok (.iaload, 1) := by decide +kernel
theorem dX7_addPoints_26 : decode cX7_addPoints 26 = .ok (.dup2, 1) := by decide +kernel
theorem dX7_addPoints_27 : decode cX7_addPoints 27 = .ok (.iaload, 1) := by decide +kernel
theorem dX7_addPoints_28 : decode cX7_addPoints 28 = .ok (.iload_n 1, 1) := by decide +kernel
theorem dX7_addPoints_29 : decode cX7_addPoints 29 = .ok (.ior, 1) := by decide +kernel
theorem dX7_addPoints_30 : decode cX7_addPoints 30 = .ok (.iastore, 1) := by decide +kernel
theorem dX7_addPoints_31 : decode cX7_addPoints 31 = .ok (.iinc 2 1, 3) := by decide +kernel
theorem dX7_addPoints_34 : decode cX7_addPoints 34 = .ok (.goto (-32), 3) := by decide +kernel
theorem dX7_addPoints_37 : decode cX7_addPoints 37 = .ok (.return_, 1) := by decide +kernel
theorem fl_X7_15 : Cond.fieldLink RX7 15 "LateGlass$Thief" "adds" "[I" ∈ tblG := tg 321 (by decide +kernel) (by decide +kernel)
set_option maxHeartbeats 4000000 in
set_option maxRecDepth 100000 in
theorem th_add (l : Launch) (G : g5_G) (a_th a_k a_pt a_ad a_h a_ba a_cn a_nx a_hp a_hl a_lv a_j : Nat) (sz : Nat) (e_fu : Int32) (e_ln : Int32) (e_se : Int32) (e_lh : Int32) (e_br : Int32) (e_we : Int32) (e_me : Int32) (e_ce : Int32) (e_wy : Int32) (e_ho : Int32) (e_ov : Int32) (p_b : Int32) (f_pt : Nat → Int32) (f_ad : Nat → Int32) (n_s : Nat) (h_e_ln : 0 ≤ e_ln.toInt ∧ e_ln.toInt ≤ 200) (h_e_ov : 0 ≤ e_ov.toInt ∧ e_ov.toInt ≤ 1) (e_q : ∀ j : Nat, (j : Int) < e_ln.toInt → 0 ≤ (f_pt j).toInt ∧ (f_pt j).toInt ≤ 1535) (e_s : n_s < 5) (e_b : p_b = nI (2 ^ n_s)) (e_m : mOK f_ad (n_s + 1)) : Met l yX7_addPoints (wsG yX7_addPoints cX7_addPoints 3 none) ({ frames := 0, cells := 0, slots := 0, locals := 0 }) (va_Pc [.ref a_th, .int p_b] (g5_P G [(a_th, .inr (7, [.ref a_h, .ref a_k, .ref a_ba, .ref a_ad, .int e_fu, .ref a_cn, .ref a_nx, .ref a_hp, .ref a_hl, .ref a_lv])), (a_k, .inr (5, [.ref a_h, .ref a_j, .ref a_pt, .int e_ln, .int e_se, .int e_lh, .int e_br, .int e_we, .int e_me, .int e_ce, .int e_wy, .int e_ho, .int e_ov])), (a_pt, .inl (G.2 0, 200, .inl f_pt)), (a_ad, .inl (G.2 0, 1536, .inl f_ad))] sz)) (va_Qv (fun (u : va_W) => (∃ (o_f : Nat → Int32), (mOK o_f (n_s + 1)) ∧ (u = [(a_th, .inr (7, [.ref a_h, .ref a_k, .ref a_ba, .ref a_ad, .int e_fu, .ref a_cn, .ref a_nx, .ref a_hp, .ref a_hl, .ref a_lv])), (a_k, .inr (5, [.ref a_h, .ref a_j, .ref a_pt, .int e_ln, .int e_se, .int e_lh, .int e_br, .int e_we, .int e_me, .int e_ce, .int e_wy, .int e_ho, .int e_ov])), (a_pt, .inl (G.2 0, 200, .inl f_pt)), (a_ad, .inl (G.2 0, 1536, .inl o_f))]))) (g5_B G (va_A [(a_th, .inr (7, [.ref a_h, .ref a_k, .ref a_ba, .ref a_ad, .int e_fu, .ref a_cn, .ref a_nx, .ref a_hp, .ref a_hl, .ref a_lv])), (a_k, .inr (5, [.ref a_h, .ref a_j, .ref a_pt, .int e_ln, .int e_se, .int e_lh, .int e_br, .int e_we, .int e_me, .int e_ce, .int e_wy, .int e_ho, .int e_ov])), (a_pt, .inl (G.2 0, 200, .inl f_pt)), (a_ad, .inl (G.2 0, 1536, .inl f_ad))] sz)) (va_A [(a_th, .inr (7, [.ref a_h, .ref a_k, .ref a_ba, .ref a_ad, .int e_fu, .ref a_cn, .ref a_nx, .ref a_hp, .ref a_hl, .ref a_lv])), (a_k, .inr (5, [.ref a_h, .ref a_j, .ref a_pt, .int e_ln, .int e_se, .int e_lh, .int e_br, .int e_we, .int e_me, .int e_ce, .int e_wy, .int e_ho, .int e_ov])), (a_pt, .inl (G.2 0, 200, .inl f_pt)), (a_ad, .inl (G.2 0, 1536, .inl f_ad))] sz)) 0 0 (va_A [(a_th, .inr (7, [.ref a_h, .ref a_k, .ref a_ba, .ref a_ad, .int e_fu, .ref a_cn, .ref a_nx, .ref a_hp, .ref a_hl, .ref a_lv])), (a_k, .inr (5, [.ref a_h, .ref a_j, .ref a_pt, .int e_ln, .int e_se, .int e_lh, .int e_br, .int e_we, .int e_me, .int e_ce, .int e_wy, .int e_ho, .int e_ov])), (a_pt, .inl (G.2 0, 200, .inl f_pt)), (a_ad, .inl (G.2 0, 1536, .inl f_ad))] sz) := by
  refine Met.ofW (cc := cX7_addPoints) (maxL := 3) (ret := none) (by decide) rfl ?_
  intro p e s m args below meth c s₁ B hml hv
  obtain ⟨rfl, hsz, hP, hK, hD0, hN, hT⟩ := hv
  have hx := B.exec
  have hb := B.bytes
  have hr := B.returns
  have hts : ∀ w ∈ tblG, w.before _ s = true := fun w h => atoms_spec (ws := (wsG yX7_addPoints cX7_addPoints 3 none)) B.pre w (List.mem_cons_of_mem _ h)
  have hown : s.vm.findClass RX7 = some m.cls := findClass_of_methodNamed B.named
  have hlocks := B.notSynchronized
  subst hsz
  have hD := hD0.self (sz := s.heap.size)
  generalize hAe : va_A [(a_th, .inr (7, [.ref a_h, .ref a_k, .ref a_ba, .ref a_ad, .int e_fu, .ref a_cn, .ref a_nx, .ref a_hp, .ref a_hl, .ref a_lv])), (a_k, .inr (5, [.ref a_h, .ref a_j, .ref a_pt, .int e_ln, .int e_se, .int e_lh, .int e_br, .int e_we, .int e_me, .int e_ce, .int e_wy, .int e_ho, .int e_ov])), (a_pt, .inl (G.2 0, 200, .inl f_pt)), (a_ad, .inl (G.2 0, 1536, .inl f_ad))] s.heap.size = A at hD hT ⊢
  have hA : ∀ q : Nat, s.heap.size ≤ q → A q := fun q h => by rw [← hAe]; exact Or.inr h
  have hS : va_S A s.heap s.heap [] := va_S.rf
  have hP : va_P G.1 vwCl [(a_th, .inr (7, [.ref a_h, .ref a_k, .ref a_ba, .ref a_ad, .int e_fu, .ref a_cn, .ref a_nx, .ref a_hp, .ref a_hl, .ref a_lv])), (a_k, .inr (5, [.ref a_h, .ref a_j, .ref a_pt, .int e_ln, .int e_se, .int e_lh, .int e_br, .int e_we, .int e_me, .int e_ce, .int e_wy, .int e_ho, .int e_ov])), (a_pt, .inl (G.2 0, 200, .inl f_pt)), (a_ad, .inl (G.2 0, 1536, .inl f_ad))] s.heap := hP
  have hl := lv_entry ([.ref a_th, .int p_b]) (n := 3) (Nat.le_of_ble_eq_true rfl)
  rw [lg_entry_eq]
  generalize (lg_sl ([.ref a_th, .int p_b]) ++ List.replicate (3 - (lg_sl ([.ref a_th, .int p_b])).length) Slot.unset).toArray = ls at hl ⊢
  have hl : lv_has ls 3 [(0, .ref a_th), (1, .int p_b)] := hl
  refine lv_iconst (v := 0) hx hb dX7_addPoints_0 (by decide) ?_
  refine lv_istore_n (lv' := [(2, .int 0), (0, .ref a_th), (1, .int p_b)]) hx hb dX7_addPoints_1 rfl hl (by decide) rfl (fun ls hl => ?_)
  refine g5_loop (α := (Int32) × (Nat → Int32)) (fun (q : (Int32) × (Nat → Int32)) (ls : Array Slot) (H : Heap) (locs : List Loc) => match q with | (k_i, k_f) => lv_has ls 3 [(2, .int k_i), (0, .ref a_th), (1, .int p_b)] ∧ va_P G.1 vwCl [(a_th, .inr (7, [.ref a_h, .ref a_k, .ref a_ba, .ref a_ad, .int e_fu, .ref a_cn, .ref a_nx, .ref a_hp, .ref a_hl, .ref a_lv])), (a_k, .inr (5, [.ref a_h, .ref a_j, .ref a_pt, .int e_ln, .int e_se, .int e_lh, .int e_br, .int e_we, .int e_me, .int e_ce, .int e_wy, .int e_ho, .int e_ov])), (a_pt, .inl (G.2 0, 200, .inl f_pt)), (a_ad, .inl (G.2 0, 1536, .inl k_f))] H ∧ va_D A [(a_th, .inr (7, [.ref a_h, .ref a_k, .ref a_ba, .ref a_ad, .int e_fu, .ref a_cn, .ref a_nx, .ref a_hp, .ref a_hl, .ref a_lv])), (a_k, .inr (5, [.ref a_h, .ref a_j, .ref a_pt, .int e_ln, .int e_se, .int e_lh, .int e_br, .int e_we, .int e_me, .int e_ce, .int e_wy, .int e_ho, .int e_ov])), (a_pt, .inl (G.2 0, 200, .inl f_pt)), (a_ad, .inl (G.2 0, 1536, .inl k_f))] ∧ va_S A s.heap H locs ∧ (0 ≤ k_i.toInt ∧ k_i.toInt ≤ 200) ∧ (mOK k_f (n_s + 1))) (fun (q : (Int32) × (Nat → Int32)) => match q with | (k_i, k_f) => Int.toNat (200 - k_i.toInt)) (0, f_ad) ⟨lv_sub hl [0, 1, 2] rfl, hP, hD, hS, ⟨by decide, by decide⟩, e_m⟩ ?_
  rintro ⟨k_i, k_f⟩ ls H locs ⟨hl, hP, hD, hS, i_1, i_2⟩ ih_2_3
  have hl : lv_has ls 3 [(2, .int k_i), (0, .ref a_th), (1, .int p_b)] := hl
  have i_1 : 0 ≤ k_i.toInt ∧ k_i.toInt ≤ 200 := i_1
  have i_2 : mOK k_f (n_s + 1) := i_2
  have hP : va_P G.1 vwCl [(a_th, .inr (7, [.ref a_h, .ref a_k, .ref a_ba, .ref a_ad, .int e_fu, .ref a_cn, .ref a_nx, .ref a_hp, .ref a_hl, .ref a_lv])), (a_k, .inr (5, [.ref a_h, .ref a_j, .ref a_pt, .int e_ln, .int e_se, .int e_lh, .int e_br, .int e_we, .int e_me, .int e_ce, .int e_wy, .int e_ho, .int e_ov])), (a_pt, .inl (G.2 0, 200, .inl f_pt)), (a_ad, .inl (G.2 0, 1536, .inl k_f))] H := hP
  have hD : va_D A [(a_th, .inr (7, [.ref a_h, .ref a_k, .ref a_ba, .ref a_ad, .int e_fu, .ref a_cn, .ref a_nx, .ref a_hp, .ref a_hl, .ref a_lv])), (a_k, .inr (5, [.ref a_h, .ref a_j, .ref a_pt, .int e_ln, .int e_se, .int e_lh, .int e_br, .int e_we, .int e_me, .int e_ce, .int e_wy, .int e_ho, .int e_ov])), (a_pt, .inl (G.2 0, 200, .inl f_pt)), (a_ad, .inl (G.2 0, 1536, .inl k_f))] := hD
  refine lv_iload_n hx hb dX7_addPoints_2 rfl (lv_at hl 0 rfl) ?_
  refine lv_aload_n hx hb dX7_addPoints_3 rfl (lv_at hl 1 rfl) ?_
  refine va_get (D := G.1) (ci := 7) (v := .ref a_k) (C := RX7) (T := TX7) (N := 10) hx hb hts inG_X7 hown hK hP 0 rfl rfl 1 (by decide) (hts _ fl_X7_38) (fun _ h9 => h9) rfl dX7_addPoints_4 ?_
  refine va_get (D := G.1) (ci := 5) (v := .int e_ln) (C := RX5) (T := TX5) (N := 13) hx hb hts inG_X5 hown hK hP 1 rfl rfl 3 (by decide) (hts _ fl_X7_92) (fun _ h9 => h9) rfl dX7_addPoints_7 ?_
  refine lv_icmp_ge (tgt := 37) hx hb dX7_addPoints_10 (by decide) (fun c_4 => ?_) (fun c_4 => ?_)
  ·
    have i_4 : k_i.toInt ≥ e_ln.toInt := by have z := g5_ge (a := k_i.toInt) (b := e_ln.toInt) (by rfl) (by rfl) c_4; omega
    exact W.vret hx hb hr (fun t ht hW => ⟨⟨[(a_th, .inr (7, [.ref a_h, .ref a_k, .ref a_ba, .ref a_ad, .int e_fu, .ref a_cn, .ref a_nx, .ref a_hp, .ref a_hl, .ref a_lv])), (a_k, .inr (5, [.ref a_h, .ref a_j, .ref a_pt, .int e_ln, .int e_se, .int e_lh, .int e_br, .int e_we, .int e_me, .int e_ce, .int e_wy, .int e_ho, .int e_ov])), (a_pt, .inl (G.2 0, 200, .inl f_pt)), (a_ad, .inl (G.2 0, 1536, .inl k_f))], rfl, ⟨k_f, i_2, rfl⟩, by rw [ht]; exact hP.sub [0, 1, 2, 3] rfl, hD.sub [0, 1, 2, 3] (by decide) rfl⟩, hS.F ht⟩) hS.2.2 dX7_addPoints_37
  ·
    have i_4 : k_i.toInt < e_ln.toInt := by have z := g5_geN (a := k_i.toInt) (b := e_ln.toInt) (by rfl) (by rfl) c_4; omega
    refine lv_aload_n hx hb dX7_addPoints_13 rfl (lv_at hl 1 rfl) ?_
    refine va_get (D := G.1) (ci := 7) (v := .ref a_ad) (C := RX7) (T := TX7) (N := 10) hx hb hts inG_X7 hown hK hP 0 rfl rfl 3 (by decide) (hts _ fl_X7_15) (fun _ h9 => h9) rfl dX7_addPoints_14 ?_
    refine lv_aload_n hx hb dX7_addPoints_17 rfl (lv_at hl 1 rfl) ?_
    refine va_get (D := G.1) (ci := 7) (v := .ref a_k) (C := RX7) (T := TX7) (N := 10) hx hb hts inG_X7 hown hK hP 0 rfl rfl 1 (by decide) (hts _ fl_X7_38) (fun _ h9 => h9) rfl dX7_addPoints_18 ?_
    refine va_get (D := G.1) (ci := 5) (v := .ref a_pt) (C := RX5) (T := TX5) (N := 13) hx hb hts inG_X5 hown hK hP 1 rfl rfl 2 (by decide) (hts _ fl_X7_95) (fun _ h9 => h9) rfl dX7_addPoints_21 ?_
    refine lv_iload_n hx hb dX7_addPoints_24 rfl (lv_at hl 0 rfl) ?_
    refine va_iald hx hb hK hP 2 0 rfl rfl (i := k_i) (vp_in_iff.mpr ⟨by omega, by omega⟩) dX7_addPoints_25 ?_
    have hp_5 : 0 ≤ (f_pt k_i.toNatClampNeg).toInt ∧ (f_pt k_i.toNatClampNeg).toInt ≤ 1535 := e_q _ (by have zz := g5_clamp k_i; omega)
    refine lv_dup2_11 hx hb dX7_addPoints_26 rfl rfl ?_
    refine va_iald hx hb hK hP 3 0 rfl rfl (i := (f_pt k_i.toNatClampNeg)) (vp_in_iff.mpr ⟨by omega, by omega⟩) dX7_addPoints_27 ?_
    refine lv_iload_n hx hb dX7_addPoints_28 rfl (lv_at hl 2 rfl) ?_
    refine lv_ior hx hb dX7_addPoints_29 ?_
    refine va_iast hx hb hK hP hD hS 3 0 rfl rfl (i := (f_pt k_i.toNatClampNeg)) (x := ((k_f (f_pt k_i.toNatClampNeg).toNatClampNeg) ||| p_b)) (vp_in_iff.mpr ⟨by omega, by omega⟩) dX7_addPoints_30 (fun H locs hP hD hS => ?_)
    have hP : va_P G.1 vwCl [(a_th, .inr (7, [.ref a_h, .ref a_k, .ref a_ba, .ref a_ad, .int e_fu, .ref a_cn, .ref a_nx, .ref a_hp, .ref a_hl, .ref a_lv])), (a_k, .inr (5, [.ref a_h, .ref a_j, .ref a_pt, .int e_ln, .int e_se, .int e_lh, .int e_br, .int e_we, .int e_me, .int e_ce, .int e_wy, .int e_ho, .int e_ov])), (a_pt, .inl (G.2 0, 200, .inl f_pt)), (a_ad, .inl (G.2 0, 1536, .inl (upd k_f (f_pt k_i.toNatClampNeg).toNatClampNeg ((k_f (f_pt k_i.toNatClampNeg).toNatClampNeg) ||| p_b))))] H := hP
    have hD : va_D A [(a_th, .inr (7, [.ref a_h, .ref a_k, .ref a_ba, .ref a_ad, .int e_fu, .ref a_cn, .ref a_nx, .ref a_hp, .ref a_hl, .ref a_lv])), (a_k, .inr (5, [.ref a_h, .ref a_j, .ref a_pt, .int e_ln, .int e_se, .int e_lh, .int e_br, .int e_we, .int e_me, .int e_ce, .int e_wy, .int e_ho, .int e_ov])), (a_pt, .inl (G.2 0, 200, .inl f_pt)), (a_ad, .inl (G.2 0, 1536, .inl (upd k_f (f_pt k_i.toNatClampNeg).toNatClampNeg ((k_f (f_pt k_i.toNatClampNeg).toNatClampNeg) ||| p_b))))] := hD
    refine lv_iinc (v := (k_i + 1)) (lv' := [(2, .int (k_i + 1)), (0, .ref a_th), (1, .int p_b)]) hx hb dX7_addPoints_31 hl (k := 0) rfl rfl (by decide) rfl (fun ls hl => ?_)
    have t_6 : (k_i + 1).toInt = k_i.toInt + 1 := g5_iadd (a := k_i.toInt) (b := 1) rfl (by decide) (by omega) (by omega)
    refine lv_goto (tgt := 2) hx hb dX7_addPoints_34 (by decide) ?_
    exact ih_2_3 ((k_i + 1), (upd k_f (f_pt k_i.toNatClampNeg).toNatClampNeg ((k_f (f_pt k_i.toNatClampNeg).toNatClampNeg) ||| p_b))) ls H locs (show Int.toNat (200 - (k_i + 1).toInt) < Int.toNat (200 - k_i.toInt) from g_up (show k_i.toInt < (k_i + 1).toInt by omega) (show k_i.toInt < 200 by omega)) ⟨lv_sub hl [0, 1, 2] rfl, hP, hD, hS, ⟨by omega, by omega⟩, m_or (x := (f_pt k_i.toNatClampNeg)) e_s e_b i_2 (by omega)⟩
