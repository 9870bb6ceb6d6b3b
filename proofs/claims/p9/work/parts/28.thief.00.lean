theorem dgX7_barPoints_0 : ∀ r ∈ ([(0, (.iconst 0, 1)), (1, (.istore_n 1, 1)), (2, (.iload_n 1, 1)), (3, (.aload_n 0, 1)), (4, (.getfield 38, 3)), (7, (.getfield 92, 3)), (10, (.if_icmp .ge 43, 3)), (13, (.aload_n 0, 1)), (14, (.getfield 9, 3)), (17, (.aload_n 0, 1)), (18, (.getfield 38, 3)), (21, (.getfield 95, 3)), (24, (.iload_n 1, 1)), (25, (.iaload, 1)), (26, (.bipush 64, 2)), (28, (.idiv, 1)), (29, (.dup2, 1)), (30, (.laload, 1)), (31, (.lconst 1, 1)), (32, (.aload_n 0, 1)), (33, (.getfield 38, 3)), (36, (.getfield 95, 3)), (39, (.iload_n 1, 1)), (40, (.iaload, 1)), (41, (.bipush 64, 2)), (43, (.irem, 1)), (44, (.lshl, 1)), (45, (.lor, 1)), (46, (.lastore, 1)), (47, (.iinc 1 1, 3)), (50, (.goto (-48), 3)), (53, (.return_, 1))] : List (Nat × (Instr × Nat))), decode cX7_barPoints r.1 = .ok r.2 := by decide +kernel
theorem dX7_barPoints_0 : decode cX7_barPoints 0 = .ok (.iconst 0, 1) := dgX7_barPoints_0 (0, (.iconst 0, 1)) (List.mem_of_getElem? (i := 0) rfl)
theorem dX7_barPoints_1 : decode cX7_barPoints 1 = .ok (.istore_n 1, 1) := dgX7_barPoints_0 (1, (.istore_n 1, 1)) (List.mem_of_getElem? (i := 1) rfl)
theorem dX7_barPoints_2 : decode cX7_barPoints 2 = .ok (.iload_n 1, 1) := dgX7_barPoints_0 (2, (.iload_n 1, 1)) (List.mem_of_getElem? (i := 2) rfl)
theorem dX7_barPoints_3 : decode cX7_barPoints 3 = .ok (.aload_n 0, 1) := dgX7_barPoints_0 (3, (.aload_n 0, 1)) (List.mem_of_getElem? (i := 3) rfl)
theorem dX7_barPoints_4 : decode cX7_barPoints 4 = .ok (.getfield 38, 3) := dgX7_barPoints_0 (4, (.getfield 38, 3)) (List.mem_of_getElem? (i := 4) rfl)
theorem dX7_barPoints_7 : decode cX7_barPoints 7 = .ok (.getfield 92, 3) := dgX7_barPoints_0 (7, (.getfield 92, 3)) (List.mem_of_getElem? (i := 5) rfl)
theorem dX7_barPoints_10 : decode cX7_barPoints 10 = .ok (.if_icmp .ge 43, 3) := dgX7_barPoints_0 (10, (.if_icmp .ge 43, 3)) (List.mem_of_getElem? (i := 6) rfl)
theorem dX7_barPoints_13 : decode cX7_barPoints 13 = .ok (.aload_n 0, 1) := dgX7_barPoints_0 (13, (.aload_n 0, 1)) (List.mem_of_getElem? (i := 7) rfl)
theorem dX7_barPoints_14 : decode cX7_barPoints 14 = .ok (.getfield 9, 3) := dgX7_barPoints_0 (14, (.getfield 9, 3)) (List.mem_of_getElem? (i := 8) rfl)
theorem dX7_barPoints_17 : decode cX7_barPoints 17 = .ok (.aload_n 0, 1) := dgX7_barPoints_0 (17, (.aload_n 0, 1)) (List.mem_of_getElem? (i := 9) rfl)
theorem dX7_barPoints_18 : decode cX7_barPoints 18 = .ok (.getfield 38, 3) := dgX7_barPoints_0 (18, (.getfield 38, 3)) (List.mem_of_getElem? (i := 10) rfl)
theorem dX7_barPoints_21 : decode cX7_barPoints 21 = .ok (.getfield 95, 3) := dgX7_barPoints_0 (21, (.getfield 95, 3)) (List.mem_of_getElem? (i := 11) rfl)
theorem dX7_barPoints_24 : decode cX7_barPoints 24 = .ok (.iload_n 1, 1) := dgX7_barPoints_0 (24, (.iload_n 1, 1)) (List.mem_of_getElem? (i := 12) rfl)
theorem dX7_barPoints_25 : decode cX7_barPoints 25 = .ok (.iaload, 1) := dgX7_barPoints_0 (25, (.iaload, 1)) (List.mem_of_getElem? (i := 13) rfl)
theorem dX7_barPoints_26 : decode cX7_barPoints 26 = .ok (.bipush 64, 2) := dgX7_barPoints_0 (26, (.bipush 64, 2)) (List.mem_of_getElem? (i := 14) rfl)
theorem dX7_barPoints_28 : decode cX7_barPoints 28 = .ok (.idiv, 1) := dgX7_barPoints_0 (28, (.idiv, 1)) (List.mem_of_getElem? (i := 15) rfl)
theorem dX7_barPoints_29 : decode cX7_barPoints 29 = .ok (.dup2, 1) := dgX7_barPoints_0 (29, (.dup2, 1)) (List.mem_of_getElem? (i := 16) rfl)
theorem dX7_barPoints_30 : decode cX7_barPoints 30 = .ok (.laload, 1) := dgX7_barPoints_0 (30, (.laload, 1)) (List.mem_of_getElem? (i := 17) rfl)
theorem dX7_barPoints_31 : decode cX7_barPoints 31 = .ok (.lconst 1, 1) := dgX7_barPoints_0 (31, (.lconst 1, 1)) (List.mem_of_getElem? (i := 18) rfl)
theorem dX7_barPoints_32 : decode cX7_barPoints 32 = .ok (.aload_n 0, 1) := dgX7_barPoints_0 (32, (.aload_n 0, 1)) (List.mem_of_getElem? (i := 19) rfl)
theorem dX7_barPoints_33 : decode cX7_barPoints 33 = .ok (.getfield 38, 3) := dgX7_barPoints_0 (33, (.getfield 38, 3)) (List.mem_of_getElem? (i := 20) rfl)
theorem dX7_barPoints_36 : decode cX7_barPoints 36 = .ok (.getfield 95, 3) := dgX7_barPoints_0 (36, (.getfield 95, 3)) (List.mem_of_getElem? (i := 21) rfl)
theorem dX7_barPoints_39 : decode cX7_barPoints 39 = .ok (.iload_n 1, 1) := dgX7_barPoints_0 (39, (.iload_n 1, 1)) (List.mem_of_getElem? (i := 22) rfl)
theorem dX7_barPoints_40 : decode cX7_barPoints 40 = .ok (.iaload, 1) := dgX7_barPoints_0 (40, (.iaload, 1)) (List.mem_of_getElem? (i := 23) rfl)
theorem dX7_barPoints_41 : decode cX7_barPoints 41 = .ok (.bipush 64, 2) := dgX7_barPoints_0 (41, (.bipush 64, 2)) (List.mem_of_getElem? (i := 24) rfl)
theorem dX7_barPoints_43 : decode cX7_barPoints 43 = .ok (.irem, 1) := dgX7_barPoints_0 (43, (.irem, 1)) (List.mem_of_getElem? (i := 25) rfl)
theorem dX7_barPoints_44 : decode cX7_barPoints 44 = .ok (.lshl, 1) := dgX7_barPoints_0 (44, (.lshl, 1)) (List.mem_of_getElem? (i := 26) rfl)
theorem dX7_barPoints_45 : decode cX7_barPoints 45 = .ok (.lor, 1) := dgX7_barPoints_0 (45, (.lor, 1)) (List.mem_of_getElem? (i := 27) rfl)
theorem dX7_barPoints_46 : decode cX7_barPoints 46 = .ok (.lastore, 1) := dgX7_barPoints_0 (46, (.lastore, 1)) (List.mem_of_getElem? (i := 28) rfl)
theorem dX7_barPoints_47 : decode cX7_barPoints 47 = .ok (.iinc 1 1, 3) := dgX7_barPoints_0 (47, (.iinc 1 1, 3)) (List.mem_of_getElem? (i := 29) rfl)
theorem dX7_barPoints_50 : decode cX7_barPoints 50 = .ok (.goto (-48), 3) := dgX7_barPoints_0 (50, (.goto (-48), 3)) (List.mem_of_getElem? (i := 30) rfl)
theorem dX7_barPoints_53 : decode cX7_barPoints 53 = .ok (.return_, 1) := dgX7_barPoints_0 (53, (.return_, 1)) (List.mem_of_getElem? (i := 31) rfl)
theorem inG_X7 : ∀ w ∈ wsX70, w ∈ tblG := tgs [328, 330, 332, 334, 336, 338, 340, 342, 344, 346] (by decide +kernel) (by decide +kernel)
theorem fl_X7_38 : Cond.fieldLink RX7 38 "LateGlass$Thief" "eye" "LLateGlass$Look;" ∈ tblG := tg 318 (by decide +kernel) (by decide +kernel)
theorem fl_X7_92 : Cond.fieldLink RX7 92 "LateGlass$Look" "length" "I" ∈ tblG := tg 251 (by decide +kernel) (by decide +kernel)
theorem fl_X7_9 : Cond.fieldLink RX7 9 "LateGlass$Thief" "barred" "[J" ∈ tblG := tg 319 (by decide +kernel) (by decide +kernel)
theorem fl_X7_95 : Cond.fieldLink RX7 95 "LateGlass$Look" "points" "[I" ∈ tblG := tg 247 (by decide +kernel) (by decide +kernel)
set_option maxHeartbeats 4000000 in
set_option maxRecDepth 100000 in
theorem th_bar (l : Launch) (G : g5_G) (a_th a_k a_pt a_ba a_h a_ad a_cn a_nx a_hp a_hl a_lv a_j : Nat) (sz : Nat) (e_fu : Int32) (e_ln : Int32) (e_se : Int32) (e_lh : Int32) (e_br : Int32) (e_we : Int32) (e_me : Int32) (e_ce : Int32) (e_wy : Int32) (e_ho : Int32) (e_ov : Int32) (f_pt : Nat → Int32) (f_ba : Nat → Int64) (h_e_ln : 0 ≤ e_ln.toInt ∧ e_ln.toInt ≤ 200) (h_e_ov : 0 ≤ e_ov.toInt ∧ e_ov.toInt ≤ 1) (e_q : ∀ j : Nat, (j : Int) < e_ln.toInt → 0 ≤ (f_pt j).toInt ∧ (f_pt j).toInt ≤ 1535) : Met l yX7_barPoints (wsG yX7_barPoints cX7_barPoints 2 none) ({ frames := 0, cells := 0, slots := 0, locals := 0 }) (va_Pc [.ref a_th] (g5_P G [(a_th, (oc7 a_h a_k a_ba a_ad e_fu a_cn a_nx a_hp a_hl a_lv)), (a_k, (oc5 a_h a_j a_pt e_ln e_se e_lh e_br e_we e_me e_ce e_wy e_ho e_ov)), (a_pt, (arI G 200 f_pt)), (a_ba, (arJ G 24 f_ba))] sz)) (va_Qv (fun (u : va_W) => (∃ (o_f : Nat → Int64), (u = [(a_th, (oc7 a_h a_k a_ba a_ad e_fu a_cn a_nx a_hp a_hl a_lv)), (a_k, (oc5 a_h a_j a_pt e_ln e_se e_lh e_br e_we e_me e_ce e_wy e_ho e_ov)), (a_pt, (arI G 200 f_pt)), (a_ba, (arJ G 24 o_f))]))) (g5_B G (va_A [(a_th, (oc7 a_h a_k a_ba a_ad e_fu a_cn a_nx a_hp a_hl a_lv)), (a_k, (oc5 a_h a_j a_pt e_ln e_se e_lh e_br e_we e_me e_ce e_wy e_ho e_ov)), (a_pt, (arI G 200 f_pt)), (a_ba, (arJ G 24 f_ba))] sz)) (va_A [(a_th, (oc7 a_h a_k a_ba a_ad e_fu a_cn a_nx a_hp a_hl a_lv)), (a_k, (oc5 a_h a_j a_pt e_ln e_se e_lh e_br e_we e_me e_ce e_wy e_ho e_ov)), (a_pt, (arI G 200 f_pt)), (a_ba, (arJ G 24 f_ba))] sz)) 0 0 (va_A [(a_th, (oc7 a_h a_k a_ba a_ad e_fu a_cn a_nx a_hp a_hl a_lv)), (a_k, (oc5 a_h a_j a_pt e_ln e_se e_lh e_br e_we e_me e_ce e_wy e_ho e_ov)), (a_pt, (arI G 200 f_pt)), (a_ba, (arJ G 24 f_ba))] sz) := by
  refine Met.ofW (cc := cX7_barPoints) (maxL := 2) (ret := none) (by decide) rfl ?_
  intro p e s m args below meth c s₁ B hml hv
  obtain ⟨rfl, hsz, hP, hK, hD0, hN, hT⟩ := hv
  have hx := B.exec
  have hb := B.bytes
  have hr := B.returns
  have hts : ∀ w ∈ tblG, w.before _ s = true := fun w h => atoms_spec (ws := (wsG yX7_barPoints cX7_barPoints 2 none)) B.pre w (List.mem_cons_of_mem _ h)
  have hown : s.vm.findClass RX7 = some m.cls := findClass_of_methodNamed B.named
  have hlocks := B.notSynchronized
  subst hsz
  have hD := hD0.self (sz := s.heap.size)
  generalize hAe : va_A [(a_th, (oc7 a_h a_k a_ba a_ad e_fu a_cn a_nx a_hp a_hl a_lv)), (a_k, (oc5 a_h a_j a_pt e_ln e_se e_lh e_br e_we e_me e_ce e_wy e_ho e_ov)), (a_pt, (arI G 200 f_pt)), (a_ba, (arJ G 24 f_ba))] s.heap.size = A at hD hT ⊢
  have hA : ∀ q : Nat, s.heap.size ≤ q → A q := fun q h => by rw [← hAe]; exact Or.inr h
  have hS : va_S A s.heap s.heap [] := va_S.rf
  have hP : va_P G.1 vwCl [(a_th, (oc7 a_h a_k a_ba a_ad e_fu a_cn a_nx a_hp a_hl a_lv)), (a_k, (oc5 a_h a_j a_pt e_ln e_se e_lh e_br e_we e_me e_ce e_wy e_ho e_ov)), (a_pt, (arI G 200 f_pt)), (a_ba, (arJ G 24 f_ba))] s.heap := hP
  have hl := lv_entry ([.ref a_th]) (n := 2) (Nat.le_of_ble_eq_true rfl)
  rw [lg_entry_eq]
  generalize (lg_sl ([.ref a_th]) ++ List.replicate (2 - (lg_sl ([.ref a_th])).length) Slot.unset).toArray = ls at hl ⊢
  have hl : lv_has ls 2 [(0, .ref a_th)] := hl
  refine lv_iconst (v := 0) hx hb dX7_barPoints_0 (by decide) ?_
  refine lv_istore_n (lv' := [(1, .int 0), (0, .ref a_th)]) hx hb dX7_barPoints_1 rfl hl (by decide) rfl (fun ls hl => ?_)
  refine g5_loop (α := (Int32) × (Nat → Int64)) (fun (q : (Int32) × (Nat → Int64)) (ls : Array Slot) (H : Heap) (locs : List Loc) => match q with | (k_i, k_f) => lv_has ls 2 [(1, .int k_i), (0, .ref a_th)] ∧ va_P G.1 vwCl [(a_th, (oc7 a_h a_k a_ba a_ad e_fu a_cn a_nx a_hp a_hl a_lv)), (a_k, (oc5 a_h a_j a_pt e_ln e_se e_lh e_br e_we e_me e_ce e_wy e_ho e_ov)), (a_pt, (arI G 200 f_pt)), (a_ba, (arJ G 24 k_f))] H ∧ va_D A [(a_th, (oc7 a_h a_k a_ba a_ad e_fu a_cn a_nx a_hp a_hl a_lv)), (a_k, (oc5 a_h a_j a_pt e_ln e_se e_lh e_br e_we e_me e_ce e_wy e_ho e_ov)), (a_pt, (arI G 200 f_pt)), (a_ba, (arJ G 24 k_f))] ∧ va_S A s.heap H locs ∧ (0 ≤ k_i.toInt ∧ k_i.toInt ≤ 200)) (fun (q : (Int32) × (Nat → Int64)) => match q with | (k_i, k_f) => Int.toNat (200 - k_i.toInt)) (0, f_ba) ⟨lv_sub hl [0, 1] rfl, hP, hD, hS, ⟨by decide, by decide⟩⟩ ?_
  rintro ⟨k_i, k_f⟩ ls H locs ⟨hl, hP, hD, hS, i_1⟩ ih_2_2
  have hl : lv_has ls 2 [(1, .int k_i), (0, .ref a_th)] := hl
  have i_1 : 0 ≤ k_i.toInt ∧ k_i.toInt ≤ 200 := i_1
  refine g5_rs [(a_th, (oc7 a_h a_k a_ba a_ad e_fu a_cn a_nx a_hp a_hl a_lv)), (a_k, (oc5 a_h a_j a_pt e_ln e_se e_lh e_br e_we e_me e_ce e_wy e_ho e_ov)), (a_pt, (arI G 200 f_pt)), (a_ba, (arJ G 24 k_f))] hP hD (fun hP hD => ?_)
  refine lv_iload_n hx hb dX7_barPoints_2 rfl (lv_at hl 0 rfl) ?_
  refine lv_aload_n hx hb dX7_barPoints_3 rfl (lv_at hl 1 rfl) ?_
  refine va_get (D := G.1) (ci := 7) (v := .ref a_k) (C := RX7) (T := TX7) (N := 10) hx hb hts inG_X7 hown hK hP 0 rfl rfl 1 (by decide) (hts _ fl_X7_38) (fun _ h9 => h9) rfl dX7_barPoints_4 ?_
  refine va_get (D := G.1) (ci := 5) (v := .int e_ln) (C := RX5) (T := TX5) (N := 13) hx hb hts inG_X5 hown hK hP 1 rfl rfl 3 (by decide) (hts _ fl_X7_92) (fun _ h9 => h9) rfl dX7_barPoints_7 ?_
  refine lv_icmp_ge (tgt := 53) hx hb dX7_barPoints_10 (by decide) (fun c_3 => ?_) (fun c_3 => ?_)
  ·
    have i_3 : k_i.toInt ≥ e_ln.toInt := by have z := g5_ge (a := k_i.toInt) (b := e_ln.toInt) (by rfl) (by rfl) c_3; omega
    exact W.vret hx hb hr (fun t ht hW => ⟨⟨[(a_th, (oc7 a_h a_k a_ba a_ad e_fu a_cn a_nx a_hp a_hl a_lv)), (a_k, (oc5 a_h a_j a_pt e_ln e_se e_lh e_br e_we e_me e_ce e_wy e_ho e_ov)), (a_pt, (arI G 200 f_pt)), (a_ba, (arJ G 24 k_f))], rfl, ⟨k_f, rfl⟩, by rw [ht]; exact hP.sub [0, 1, 2, 3] rfl, hD.sub [0, 1, 2, 3] (by decide) rfl⟩, hS.F ht⟩) hS.2.2 dX7_barPoints_53
  ·
    have i_3 : k_i.toInt < e_ln.toInt := by have z := g5_geN (a := k_i.toInt) (b := e_ln.toInt) (by rfl) (by rfl) c_3; omega
    refine lv_aload_n hx hb dX7_barPoints_13 rfl (lv_at hl 1 rfl) ?_
    refine va_get (D := G.1) (ci := 7) (v := .ref a_ba) (C := RX7) (T := TX7) (N := 10) hx hb hts inG_X7 hown hK hP 0 rfl rfl 2 (by decide) (hts _ fl_X7_9) (fun _ h9 => h9) rfl dX7_barPoints_14 ?_
    refine lv_aload_n hx hb dX7_barPoints_17 rfl (lv_at hl 1 rfl) ?_
    refine va_get (D := G.1) (ci := 7) (v := .ref a_k) (C := RX7) (T := TX7) (N := 10) hx hb hts inG_X7 hown hK hP 0 rfl rfl 1 (by decide) (hts _ fl_X7_38) (fun _ h9 => h9) rfl dX7_barPoints_18 ?_
    refine va_get (D := G.1) (ci := 5) (v := .ref a_pt) (C := RX5) (T := TX5) (N := 13) hx hb hts inG_X5 hown hK hP 1 rfl rfl 2 (by decide) (hts _ fl_X7_95) (fun _ h9 => h9) rfl dX7_barPoints_21 ?_
    refine lv_iload_n hx hb dX7_barPoints_24 rfl (lv_at hl 0 rfl) ?_
    refine va_iald hx hb hK hP 2 0 rfl rfl (i := k_i) (vp_in_iff.mpr ⟨by omega, by omega⟩) dX7_barPoints_25 ?_
    have hp_4 : 0 ≤ (f_pt k_i.toNatClampNeg).toInt ∧ (f_pt k_i.toNatClampNeg).toInt ≤ 1535 := e_q _ (by have zz := g5_clamp k_i; omega)
    refine lv_bipush (v := 64) hx hb dX7_barPoints_26 (by decide) ?_
    refine lv_idiv hx hb dX7_barPoints_28 (by decide) ?_
    have t_5 : ((f_pt k_i.toNatClampNeg) / 64).toInt = (f_pt k_i.toNatClampNeg).toInt / 64 := g5_idiv (a := (f_pt k_i.toNatClampNeg).toInt) (b := 64) rfl (by decide) (by omega) (by decide)
    refine lv_dup2_11 hx hb dX7_barPoints_29 rfl rfl ?_
    refine va_lald hx hb hK hP 3 1 rfl rfl (i := ((f_pt k_i.toNatClampNeg) / 64)) (vp_in_iff.mpr ⟨by omega, by omega⟩) dX7_barPoints_30 ?_
    refine lv_lconst (v := 1) hx hb dX7_barPoints_31 (by decide) ?_
    refine lv_aload_n hx hb dX7_barPoints_32 rfl (lv_at hl 1 rfl) ?_
    refine va_get (D := G.1) (ci := 7) (v := .ref a_k) (C := RX7) (T := TX7) (N := 10) hx hb hts inG_X7 hown hK hP 0 rfl rfl 1 (by decide) (hts _ fl_X7_38) (fun _ h9 => h9) rfl dX7_barPoints_33 ?_
    refine va_get (D := G.1) (ci := 5) (v := .ref a_pt) (C := RX5) (T := TX5) (N := 13) hx hb hts inG_X5 hown hK hP 1 rfl rfl 2 (by decide) (hts _ fl_X7_95) (fun _ h9 => h9) rfl dX7_barPoints_36 ?_
    refine lv_iload_n hx hb dX7_barPoints_39 rfl (lv_at hl 0 rfl) ?_
    refine va_iald hx hb hK hP 2 0 rfl rfl (i := k_i) (vp_in_iff.mpr ⟨by omega, by omega⟩) dX7_barPoints_40 ?_
    have hp_6 : 0 ≤ (f_pt k_i.toNatClampNeg).toInt ∧ (f_pt k_i.toNatClampNeg).toInt ≤ 1535 := e_q _ (by have zz := g5_clamp k_i; omega)
    refine lv_bipush (v := 64) hx hb dX7_barPoints_41 (by decide) ?_
    refine lv_irem hx hb dX7_barPoints_43 (by decide) ?_
    have t_7 : ((f_pt k_i.toNatClampNeg) - (f_pt k_i.toNatClampNeg) / 64 * 64).toInt = (f_pt k_i.toNatClampNeg).toInt % 64 := g5_irem (a := (f_pt k_i.toNatClampNeg).toInt) (b := 64) rfl (by decide) (by omega) (by decide)
    refine lv_lshl (v := ((1 : Int64) <<< (((f_pt k_i.toNatClampNeg) - (f_pt k_i.toNatClampNeg) / 64 * 64).toInt64 &&& 63))) hx hb dX7_barPoints_44 rfl ?_
    refine lv_lor hx hb dX7_barPoints_45 ?_
    refine va_last hx hb hK hP hD hS 3 1 rfl rfl (i := ((f_pt k_i.toNatClampNeg) / 64)) (x := ((k_f ((f_pt k_i.toNatClampNeg) / 64).toNatClampNeg) ||| ((1 : Int64) <<< (((f_pt k_i.toNatClampNeg) - (f_pt k_i.toNatClampNeg) / 64 * 64).toInt64 &&& 63)))) (vp_in_iff.mpr ⟨by omega, by omega⟩) dX7_barPoints_46 (fun H locs hP hD hS => ?_)
    refine g5_rs [(a_th, (oc7 a_h a_k a_ba a_ad e_fu a_cn a_nx a_hp a_hl a_lv)), (a_k, (oc5 a_h a_j a_pt e_ln e_se e_lh e_br e_we e_me e_ce e_wy e_ho e_ov)), (a_pt, (arI G 200 f_pt)), (a_ba, (arJ G 24 (vp_updL k_f ((f_pt k_i.toNatClampNeg) / 64).toNatClampNeg ((k_f ((f_pt k_i.toNatClampNeg) / 64).toNatClampNeg) ||| ((1 : Int64) <<< (((f_pt k_i.toNatClampNeg) - (f_pt k_i.toNatClampNeg) / 64 * 64).toInt64 &&& 63))))))] hP hD (fun hP hD => ?_)
    refine lv_iinc (v := (k_i + 1)) (lv' := [(1, .int (k_i + 1)), (0, .ref a_th)]) hx hb dX7_barPoints_47 hl (k := 0) rfl rfl (by decide) rfl (fun ls hl => ?_)
    have t_8 : (k_i + 1).toInt = k_i.toInt + 1 := g5_iadd (a := k_i.toInt) (b := 1) rfl (by decide) (by omega) (by omega)
    refine lv_goto (tgt := 2) hx hb dX7_barPoints_50 (by decide) ?_
    exact ih_2_2 ((k_i + 1), (vp_updL k_f ((f_pt k_i.toNatClampNeg) / 64).toNatClampNeg ((k_f ((f_pt k_i.toNatClampNeg) / 64).toNatClampNeg) ||| ((1 : Int64) <<< (((f_pt k_i.toNatClampNeg) - (f_pt k_i.toNatClampNeg) / 64 * 64).toInt64 &&& 63))))) ls H locs (show Int.toNat (200 - (k_i + 1).toInt) < Int.toNat (200 - k_i.toInt) from g_up (show k_i.toInt < (k_i + 1).toInt by omega) (show k_i.toInt < 200 by omega)) ⟨lv_sub hl [0, 1] rfl, hP, hD, hS, ⟨by omega, by omega⟩⟩
theorem dgX7_addPoints_0 : ∀ r ∈ ([(0, (.iconst 0, 1)), (1, (.istore_n 2, 1)), (2, (.iload_n 2, 1)), (3, (.aload_n 0, 1)), (4, (.getfield 38, 3)), (7, (.getfield 92, 3)), (10, (.if_icmp .ge 27, 3)), (13, (.aload_n 0, 1)), (14, (.getfield 15, 3)), (17, (.aload_n 0, 1)), (18, (.getfield 38, 3)), (21, (.getfield 95, 3)), (24, (.iload_n 2, 1)), (25, (.iaload, 1)), (26, (.dup2, 1)), (27, (.iaload, 1)), (28, (.iload_n 1, 1)), (29, (.ior, 1)), (30, (.iastore, 1)), (31, (.iinc 2 1, 3)), (34, (.goto (-32), 3)), (37, (.return_, 1))] : List (Nat × (Instr × Nat))), decode cX7_addPoints r.1 = .ok r.2 := by decide +kernel
theorem dX7_addPoints_0 : decode cX7_addPoints 0 = .ok (.iconst 0, 1) := dgX7_addPoints_0 (0, (.iconst 0, 1)) (List.mem_of_getElem? (i := 0) rfl)
theorem dX7_addPoints_1 : decode cX7_addPoints 1 = .ok (.istore_n 2, 1) := dgX7_addPoints_0 (1, (.istore_n 2, 1)) (List.mem_of_getElem? (i := 1) rfl)
theorem dX7_addPoints_2 : decode cX7_addPoints 2 = .ok (.iload_n 2, 1) := dgX7_addPoints_0 (2, (.iload_n 2, 1)) (List.mem_of_getElem? (i := 2) rfl)
theorem dX7_addPoints_3 : decode cX7_addPoints 3 = .ok (.aload_n 0, 1) := dgX7_addPoints_0 (3, (.aload_n 0, 1)) (List.mem_of_getElem? (i := 3) rfl)
theorem dX7_addPoints_4 : decode cX7_addPoints 4 = .ok (.getfield 38, 3) := dgX7_addPoints_0 (4, (.getfield 38, 3)) (List.mem_of_getElem? (i := 4) rfl)
theorem dX7_addPoints_7 : decode cX7_addPoints 7 = .ok (.getfield 92, 3) := dgX7_addPoints_0 (7, (.getfield 92, 3)) (List.mem_of_getElem? (i := 5) rfl)
theorem dX7_addPoints_10 : decode cX7_addPoints 10 = .ok (.if_icmp .ge 27, 3) := dgX7_addPoints_0 (10, (.if_icmp .ge 27, 3)) (List.mem_of_getElem? (i := 6) rfl)
theorem dX7_addPoints_13 : decode cX7_addPoints 13 = .ok (.aload_n 0, 1) := dgX7_addPoints_0 (13, (.aload_n 0, 1)) (List.mem_of_getElem? (i := 7) rfl)
theorem dX7_addPoints_14 : decode cX7_addPoints 14 = .ok (.getfield 15, 3) := dgX7_addPoints_0 (14, (.getfield 15, 3)) (List.mem_of_getElem? (i := 8) rfl)
theorem dX7_addPoints_17 : decode cX7_addPoints 17 = .ok (.aload_n 0, 1) := dgX7_addPoints_0 (17, (.aload_n 0, 1)) (List.mem_of_getElem? (i := 9) rfl)
theorem dX7_addPoints_18 : decode cX7_addPoints 18 = .ok (.getfield 38, 3) := dgX7_addPoints_0 (18, (.getfield 38, 3)) (List.mem_of_getElem? (i := 10) rfl)
theorem dX7_addPoints_21 : decode cX7_addPoints 21 = .ok (.getfield 95, 3) := dgX7_addPoints_0 (21, (.getfield 95, 3)) (List.mem_of_getElem? (i := 11) rfl)
theorem dX7_addPoints_24 : decode cX7_addPoints 24 = .ok (.iload_n 2, 1) := dgX7_addPoints_0 (24, (.iload_n 2, 1)) (List.mem_of_getElem? (i := 12) rfl)
theorem dX7_addPoints_25 : decode cX7_addPoints 25 = .ok (.iaload, 1) := dgX7_addPoints_0 (25, (.iaload, 1)) (List.mem_of_getElem? (i := 13) rfl)
theorem dX7_addPoints_26 : decode cX7_addPoints 26 = .ok (.dup2, 1) := dgX7_addPoints_0 (26, (.dup2, 1)) (List.mem_of_getElem? (i := 14) rfl)
theorem dX7_addPoints_27 : decode cX7_addPoints 27 = .ok (.iaload, 1) := dgX7_addPoints_0 (27, (.iaload, 1)) (List.mem_of_getElem? (i := 15) rfl)
theorem dX7_addPoints_28 : decode cX7_addPoints 28 = .ok (.iload_n 1, 1) := dgX7_addPoints_0 (28, (.iload_n 1, 1)) (List.mem_of_getElem? (i := 16) rfl)
theorem dX7_addPoints_29 : decode cX7_addPoints 29 = .ok (.ior, 1) := dgX7_addPoints_0 (29, (.ior, 1)) (List.mem_of_getElem? (i := 17) rfl)
theorem dX7_addPoints_30 : decode cX7_addPoints 30 = .ok (.iastore, 1) := dgX7_addPoints_0 (30, (.iastore, 1)) (List.mem_of_getElem? (i := 18) rfl)
theorem dX7_addPoints_31 : decode cX7_addPoints 31 = .ok (.iinc 2 1, 3) := dgX7_addPoints_0 (31, (.iinc 2 1, 3)) (List.mem_of_getElem? (i := 19) rfl)
theorem dX7_addPoints_34 : decode cX7_addPoints 34 = .ok (.goto (-32), 3) := dgX7_addPoints_0 (34, (.goto (-32), 3)) (List.mem_of_getElem? (i := 20) rfl)
theorem dX7_addPoints_37 : decode cX7_addPoints 37 = .ok (.return_, 1) := dgX7_addPoints_0 (37, (.return_, 1)) (List.mem_of_getElem? (i := 21) rfl)
theorem fl_X7_15 : Cond.fieldLink RX7 15 "LateGlass$Thief" "adds" "[I" ∈ tblG := tg 321 (by decide +kernel) (by decide +kernel)
set_option maxHeartbeats 4000000 in
set_option maxRecDepth 100000 in
theorem th_add (l : Launch) (G : g5_G) (a_th a_k a_pt a_ad a_h a_ba a_cn a_nx a_hp a_hl a_lv a_j : Nat) (sz : Nat) (e_fu : Int32) (e_ln : Int32) (e_se : Int32) (e_lh : Int32) (e_br : Int32) (e_we : Int32) (e_me : Int32) (e_ce : Int32) (e_wy : Int32) (e_ho : Int32) (e_ov : Int32) (p_b : Int32) (f_pt : Nat → Int32) (f_ad : Nat → Int32) (n_s : Nat) (h_e_ln : 0 ≤ e_ln.toInt ∧ e_ln.toInt ≤ 200) (h_e_ov : 0 ≤ e_ov.toInt ∧ e_ov.toInt ≤ 1) (e_q : ∀ j : Nat, (j : Int) < e_ln.toInt → 0 ≤ (f_pt j).toInt ∧ (f_pt j).toInt ≤ 1535) (e_s : n_s < 5) (e_b : p_b = nI (2 ^ n_s)) (e_m : mOK f_ad (n_s + 1)) : Met l yX7_addPoints (wsG yX7_addPoints cX7_addPoints 3 none) ({ frames := 0, cells := 0, slots := 0, locals := 0 }) (va_Pc [.ref a_th, .int p_b] (g5_P G [(a_th, (oc7 a_h a_k a_ba a_ad e_fu a_cn a_nx a_hp a_hl a_lv)), (a_k, (oc5 a_h a_j a_pt e_ln e_se e_lh e_br e_we e_me e_ce e_wy e_ho e_ov)), (a_pt, (arI G 200 f_pt)), (a_ad, (arI G 1536 f_ad))] sz)) (va_Qv (fun (u : va_W) => (∃ (o_f : Nat → Int32), (mOK o_f (n_s + 1)) ∧ (u = [(a_th, (oc7 a_h a_k a_ba a_ad e_fu a_cn a_nx a_hp a_hl a_lv)), (a_k, (oc5 a_h a_j a_pt e_ln e_se e_lh e_br e_we e_me e_ce e_wy e_ho e_ov)), (a_pt, (arI G 200 f_pt)), (a_ad, (arI G 1536 o_f))]))) (g5_B G (va_A [(a_th, (oc7 a_h a_k a_ba a_ad e_fu a_cn a_nx a_hp a_hl a_lv)), (a_k, (oc5 a_h a_j a_pt e_ln e_se e_lh e_br e_we e_me e_ce e_wy e_ho e_ov)), (a_pt, (arI G 200 f_pt)), (a_ad, (arI G 1536 f_ad))] sz)) (va_A [(a_th, (oc7 a_h a_k a_ba a_ad e_fu a_cn a_nx a_hp a_hl a_lv)), (a_k, (oc5 a_h a_j a_pt e_ln e_se e_lh e_br e_we e_me e_ce e_wy e_ho e_ov)), (a_pt, (arI G 200 f_pt)), (a_ad, (arI G 1536 f_ad))] sz)) 0 0 (va_A [(a_th, (oc7 a_h a_k a_ba a_ad e_fu a_cn a_nx a_hp a_hl a_lv)), (a_k, (oc5 a_h a_j a_pt e_ln e_se e_lh e_br e_we e_me e_ce e_wy e_ho e_ov)), (a_pt, (arI G 200 f_pt)), (a_ad, (arI G 1536 f_ad))] sz) := by
  refine Met.ofW (cc := cX7_addPoints) (maxL := 3) (ret := none) (by decide) rfl ?_
  intro p e s m args below meth c s₁ B hml hv
  obtain ⟨rfl, hsz, hP, hK, hD0, hN, hT⟩ := hv
  have hx := B.exec
  have hb := B.bytes
  have hr := B.returns
  have hts : ∀ w ∈ tblG, w.before _ s = true := fun w h => atoms_spec (ws := (wsG yX7_addPoints cX7_addPoints 3 none)) B.pre w (List.mem_cons_of_mem _ h)
  have hown : s.vm.findClass RX7 = some m.cls := findClass_of_methodNamed B.named
  have hlocks := B.notSynchronized
  subst hsz
  have hD := hD0.self (sz := s.heap.size)
  generalize hAe : va_A [(a_th, (oc7 a_h a_k a_ba a_ad e_fu a_cn a_nx a_hp a_hl a_lv)), (a_k, (oc5 a_h a_j a_pt e_ln e_se e_lh e_br e_we e_me e_ce e_wy e_ho e_ov)), (a_pt, (arI G 200 f_pt)), (a_ad, (arI G 1536 f_ad))] s.heap.size = A at hD hT ⊢
  have hA : ∀ q : Nat, s.heap.size ≤ q → A q := fun q h => by rw [← hAe]; exact Or.inr h
  have hS : va_S A s.heap s.heap [] := va_S.rf
  have hP : va_P G.1 vwCl [(a_th, (oc7 a_h a_k a_ba a_ad e_fu a_cn a_nx a_hp a_hl a_lv)), (a_k, (oc5 a_h a_j a_pt e_ln e_se e_lh e_br e_we e_me e_ce e_wy e_ho e_ov)), (a_pt, (arI G 200 f_pt)), (a_ad, (arI G 1536 f_ad))] s.heap := hP
  have hl := lv_entry ([.ref a_th, .int p_b]) (n := 3) (Nat.le_of_ble_eq_true rfl)
  rw [lg_entry_eq]
  generalize (lg_sl ([.ref a_th, .int p_b]) ++ List.replicate (3 - (lg_sl ([.ref a_th, .int p_b])).length) Slot.unset).toArray = ls at hl ⊢
  have hl : lv_has ls 3 [(0, .ref a_th), (1, .int p_b)] := hl
  refine lv_iconst (v := 0) hx hb dX7_addPoints_0 (by decide) ?_
  refine lv_istore_n (lv' := [(2, .int 0), (0, .ref a_th), (1, .int p_b)]) hx hb dX7_addPoints_1 rfl hl (by decide) rfl (fun ls hl => ?_)
  refine g5_loop (α := (Int32) × (Nat → Int32)) (fun (q : (Int32) × (Nat → Int32)) (ls : Array Slot) (H : Heap) (locs : List Loc) => match q with | (k_i, k_f) => lv_has ls 3 [(2, .int k_i), (0, .ref a_th), (1, .int p_b)] ∧ va_P G.1 vwCl [(a_th, (oc7 a_h a_k a_ba a_ad e_fu a_cn a_nx a_hp a_hl a_lv)), (a_k, (oc5 a_h a_j a_pt e_ln e_se e_lh e_br e_we e_me e_ce e_wy e_ho e_ov)), (a_pt, (arI G 200 f_pt)), (a_ad, (arI G 1536 k_f))] H ∧ va_D A [(a_th, (oc7 a_h a_k a_ba a_ad e_fu a_cn a_nx a_hp a_hl a_lv)), (a_k, (oc5 a_h a_j a_pt e_ln e_se e_lh e_br e_we e_me e_ce e_wy e_ho e_ov)), (a_pt, (arI G 200 f_pt)), (a_ad, (arI G 1536 k_f))] ∧ va_S A s.heap H locs ∧ (0 ≤ k_i.toInt ∧ k_i.toInt ≤ 200) ∧ (mOK k_f (n_s + 1))) (fun (q : (Int32) × (Nat → Int32)) => match q with | (k_i, k_f) => Int.toNat (200 - k_i.toInt)) (0, f_ad) ⟨lv_sub hl [0, 1, 2] rfl, hP, hD, hS, ⟨by decide, by decide⟩, e_m⟩ ?_
  rintro ⟨k_i, k_f⟩ ls H locs ⟨hl, hP, hD, hS, i_1, i_2⟩ ih_2_3
  have hl : lv_has ls 3 [(2, .int k_i), (0, .ref a_th), (1, .int p_b)] := hl
  have i_1 : 0 ≤ k_i.toInt ∧ k_i.toInt ≤ 200 := i_1
  have i_2 : mOK k_f (n_s + 1) := i_2
  refine g5_rs [(a_th, (oc7 a_h a_k a_ba a_ad e_fu a_cn a_nx a_hp a_hl a_lv)), (a_k, (oc5 a_h a_j a_pt e_ln e_se e_lh e_br e_we e_me e_ce e_wy e_ho e_ov)), (a_pt, (arI G 200 f_pt)), (a_ad, (arI G 1536 k_f))] hP hD (fun hP hD => ?_)
  refine lv_iload_n hx hb dX7_addPoints_2 rfl (lv_at hl 0 rfl) ?_
  refine lv_aload_n hx hb dX7_addPoints_3 rfl (lv_at hl 1 rfl) ?_
  refine va_get (D := G.1) (ci := 7) (v := .ref a_k) (C := RX7) (T := TX7) (N := 10) hx hb hts inG_X7 hown hK hP 0 rfl rfl 1 (by decide) (hts _ fl_X7_38) (fun _ h9 => h9) rfl dX7_addPoints_4 ?_
  refine va_get (D := G.1) (ci := 5) (v := .int e_ln) (C := RX5) (T := TX5) (N := 13) hx hb hts inG_X5 hown hK hP 1 rfl rfl 3 (by decide) (hts _ fl_X7_92) (fun _ h9 => h9) rfl dX7_addPoints_7 ?_
  refine lv_icmp_ge (tgt := 37) hx hb dX7_addPoints_10 (by decide) (fun c_4 => ?_) (fun c_4 => ?_)
  ·
    have i_4 : k_i.toInt ≥ e_ln.toInt := by have z := g5_ge (a := k_i.toInt) (b := e_ln.toInt) (by rfl) (by rfl) c_4; omega
    exact W.vret hx hb hr (fun t ht hW => ⟨⟨[(a_th, (oc7 a_h a_k a_ba a_ad e_fu a_cn a_nx a_hp a_hl a_lv)), (a_k, (oc5 a_h a_j a_pt e_ln e_se e_lh e_br e_we e_me e_ce e_wy e_ho e_ov)), (a_pt, (arI G 200 f_pt)), (a_ad, (arI G 1536 k_f))], rfl, ⟨k_f, i_2, rfl⟩, by rw [ht]; exact hP.sub [0, 1, 2, 3] rfl, hD.sub [0, 1, 2, 3] (by decide) rfl⟩, hS.F ht⟩) hS.2.2 dX7_addPoints_37
  ·
    have i_4 : k_i.toInt < e_ln.toInt := by have z := g5_geN (a := k_i.toInt) (b := e_ln.toInt) (by rfl) (by rfl) c_4; omega
    refine lv_aload_n hx hb dX7_addPoints_13 rfl (lv_at hl 1 rfl) ?_
    refine va_get (D := G.1) (ci := 7) (v := .ref a_ad) (C := RX7) (T := TX7) (N := 10) hx hb hts inG_X7 hown hK hP 0 rfl rfl 3 (by decide) (hts _ fl_X7_15) (fun _ h9 => h9) rfl dX7_addPoints_14 ?_
    refine lv_aload_n hx hb dX7_addPoints_17 rfl (lv_at hl 1 rfl) ?_
    refine va_get (D := G.1) (ci := 7) (v := .ref a_k) (C := RX7) (T := TX7) (N := 10) hx hb hts inG_X7 hown hK hP 0 rfl rfl 1 (by decide) (hts _ fl_X7_38) (fun _ h9 => h9) rfl dX7_addPoints_18 ?_
    refine va_get (D := G.1) (ci := 5) (v := .ref a_pt) (C := RX5) (T := TX5) (N := 13) hx hb hts inG_X5 hown hK hP 1 rfl rfl 2 (by decide) (hts _ fl_X7_95) (fun _ h9 => h9) rfl dX7_addPoints_21 ?_
    refine lv_iload_n hx hb dX7_addPoints_24 rfl (lv_at hl 0 rfl) ?_
    refine va_iald hx hb hK hP 2 0 rfl rfl (i := k_i) (vp_in_iff.mpr ⟨by omega, by omega⟩) dX7_addPoints_25 ?_
    have hp_5 : 0 ≤ (f_pt k_i.toNatClampNeg).toInt ∧ (f_pt k_i.toNatClampNeg).toInt ≤ 1535 := e_q _ (by have zz := g5_clamp k_i; omega)
    refine lv_dup2_11 hx hb dX7_addPoints_26 rfl rfl ?_
    refine va_iald hx hb hK hP 3 0 rfl rfl (i := (f_pt k_i.toNatClampNeg)) (vp_in_iff.mpr ⟨by omega, by omega⟩) dX7_addPoints_27 ?_
    refine lv_iload_n hx hb dX7_addPoints_28 rfl (lv_at hl 2 rfl) ?_
    refine lv_ior hx hb dX7_addPoints_29 ?_
    refine va_iast hx hb hK hP hD hS 3 0 rfl rfl (i := (f_pt k_i.toNatClampNeg)) (x := ((k_f (f_pt k_i.toNatClampNeg).toNatClampNeg) ||| p_b)) (vp_in_iff.mpr ⟨by omega, by omega⟩) dX7_addPoints_30 (fun H locs hP hD hS => ?_)
    refine g5_rs [(a_th, (oc7 a_h a_k a_ba a_ad e_fu a_cn a_nx a_hp a_hl a_lv)), (a_k, (oc5 a_h a_j a_pt e_ln e_se e_lh e_br e_we e_me e_ce e_wy e_ho e_ov)), (a_pt, (arI G 200 f_pt)), (a_ad, (arI G 1536 (upd k_f (f_pt k_i.toNatClampNeg).toNatClampNeg ((k_f (f_pt k_i.toNatClampNeg).toNatClampNeg) ||| p_b))))] hP hD (fun hP hD => ?_)
    refine lv_iinc (v := (k_i + 1)) (lv' := [(2, .int (k_i + 1)), (0, .ref a_th), (1, .int p_b)]) hx hb dX7_addPoints_31 hl (k := 0) rfl rfl (by decide) rfl (fun ls hl => ?_)
    have t_6 : (k_i + 1).toInt = k_i.toInt + 1 := g5_iadd (a := k_i.toInt) (b := 1) rfl (by decide) (by omega) (by omega)
    refine lv_goto (tgt := 2) hx hb dX7_addPoints_34 (by decide) ?_
    exact ih_2_3 ((k_i + 1), (upd k_f (f_pt k_i.toNatClampNeg).toNatClampNeg ((k_f (f_pt k_i.toNatClampNeg).toNatClampNeg) ||| p_b))) ls H locs (show Int.toNat (200 - (k_i + 1).toInt) < Int.toNat (200 - k_i.toInt) from g_up (show k_i.toInt < (k_i + 1).toInt by omega) (show k_i.toInt < 200 by omega)) ⟨lv_sub hl [0, 1, 2] rfl, hP, hD, hS, ⟨by omega, by omega⟩, m_or (x := (f_pt k_i.toNatClampNeg)) e_s e_b i_2 (by omega)⟩
theorem dgX7_masksBefore_0 : ∀ r ∈ ([(0, (.iload_n 0, 1)), (1, (.istore_n 2, 1)), (2, (.iconst 0, 1)), (3, (.istore_n 3, 1)), (4, (.iload_n 3, 1)), (5, (.getstatic 114, 3)), (8, (.arraylength, 1)), (9, (.if_icmp .ge 37, 3)), (12, (.iload_n 1, 1)), (13, (.ifCond .eq 33, 3)), (16, (.iload_n 1, 1)), (17, (.iload_n 3, 1)), (18, (.ishr, 1)), (19, (.iconst 1, 1)), (20, (.iand, 1)), (21, (.ifCond .eq 19, 3)), (24, (.iload_n 2, 1)), (25, (.getstatic 114, 3)), (28, (.iload_n 3, 1)), (29, (.iaload, 1)), (30, (.iand, 1)), (31, (.istore_n 2, 1)), (32, (.iload_n 2, 1)), (33, (.iload_n 2, 1)), (34, (.iconst 1, 1)), (35, (.iload_n 3, 1)), (36, (.ishl, 1)), (37, (.iushr, 1)), (38, (.ior, 1)), (39, (.istore_n 2, 1)), (40, (.iinc 3 1, 3)), (43, (.goto (-39), 3)), (46, (.iload_n 2, 1)), (47, (.ireturn, 1))] : List (Nat × (Instr × Nat))), decode cX7_masksBefore r.1 = .ok r.2 := by decide +kernel
theorem dX7_masksBefore_0 : decode cX7_masksBefore 0 = .ok (.iload_n 0, 1) := dgX7_masksBefore_0 (0, (.iload_n 0, 1)) (List.mem_of_getElem? (i := 0) rfl)
theorem dX7_masksBefore_1 : decode cX7_masksBefore 1 = .ok (.istore_n 2, 1) := dgX7_masksBefore_0 (1, (.istore_n 2, 1)) (List.mem_of_getElem? (i := 1) rfl)
theorem dX7_masksBefore_2 : decode cX7_masksBefore 2 = .ok (.iconst 0, 1) := dgX7_masksBefore_0 (2, (.iconst 0, 1)) (List.mem_of_getElem? (i := 2) rfl)
theorem dX7_masksBefore_3 : decode cX7_masksBefore 3 = .ok (.istore_n 3, 1) := dgX7_masksBefore_0 (3, (.istore_n 3, 1)) (List.mem_of_getElem? (i := 3) rfl)
theorem dX7_masksBefore_4 : decode cX7_masksBefore 4 = .ok (.iload_n 3, 1) := dgX7_masksBefore_0 (4, (.iload_n 3, 1)) (List.mem_of_getElem? (i := 4) rfl)
theorem dX7_masksBefore_5 : decode cX7_masksBefore 5 = .ok (.getstatic 114, 3) := dgX7_masksBefore_0 (5, (.getstatic 114, 3)) (List.mem_of_getElem? (i := 5) rfl)
theorem dX7_masksBefore_8 : decode cX7_masksBefore 8 = .ok (.arraylength, 1) := dgX7_masksBefore_0 (8, (.arraylength, 1)) (List.mem_of_getElem? (i := 6) rfl)
theorem dX7_masksBefore_9 : decode cX7_masksBefore 9 = .ok (.if_icmp .ge 37, 3) := dgX7_masksBefore_0 (9, (.if_icmp .ge 37, 3)) (List.mem_of_getElem? (i := 7) rfl)
theorem dX7_masksBefore_12 : decode cX7_masksBefore 12 = .ok (.iload_n 1, 1) := dgX7_masksBefore_0 (12, (.iload_n 1, 1)) (List.mem_of_getElem? (i := 8) rfl)
theorem dX7_masksBefore_13 : decode cX7_masksBefore 13 = .ok (.ifCond .eq 33, 3) := dgX7_masksBefore_0 (13, (.ifCond .eq 33, 3)) (List.mem_of_getElem? (i := 9) rfl)
theorem dX7_masksBefore_16 : decode cX7_masksBefore 16 = .ok (.iload_n 1, 1) := dgX7_masksBefore_0 (16, (.iload_n 1, 1)) (List.mem_of_getElem? (i := 10) rfl)
theorem dX7_masksBefore_17 : decode cX7_masksBefore 17 = .ok (.iload_n 3, 1) := dgX7_masksBefore_0 (17, (.iload_n 3, 1)) (List.mem_of_getElem? (i := 11) rfl)
theorem dX7_masksBefore_18 : decode cX7_masksBefore 18 = .ok (.ishr, 1) := dgX7_masksBefore_0 (18, (.ishr, 1)) (List.mem_of_getElem? (i := 12) rfl)
theorem dX7_masksBefore_19 : decode cX7_masksBefore 19 = .ok (.iconst 1, 1) := dgX7_masksBefore_0 (19, (.iconst 1, 1)) (List.mem_of_getElem? (i := 13) rfl)
theorem dX7_masksBefore_20 : decode cX7_masksBefore 20 = .ok (.iand, 1) := dgX7_masksBefore_0 (20, (.iand, 1)) (List.mem_of_getElem? (i := 14) rfl)
theorem dX7_masksBefore_21 : decode cX7_masksBefore 21 = .ok (.ifCond .eq 19, 3) := dgX7_masksBefore_0 (21, (.ifCond .eq 19, 3)) (List.mem_of_getElem? (i := 15) rfl)
theorem dX7_masksBefore_24 : decode cX7_masksBefore 24 = .ok (.iload_n 2, 1) := dgX7_masksBefore_0 (24, (.iload_n 2, 1)) (List.mem_of_getElem? (i := 16) rfl)
theorem dX7_masksBefore_25 : decode cX7_masksBefore 25 = .ok (.getstatic 114, 3) := dgX7_masksBefore_0 (25, (.getstatic 114, 3)) (List.mem_of_getElem? (i := 17) rfl)
theorem dX7_masksBefore_28 : decode cX7_masksBefore 28 = .ok (.iload_n 3, 1) := dgX7_masksBefore_0 (28, (.iload_n 3, 1)) (List.mem_of_getElem? (i := 18) rfl)
theorem dX7_masksBefore_29 : decode cX7_masksBefore 29 = .ok (.iaload, 1) := dgX7_masksBefore_0 (29, (.iaload, 1)) (List.mem_of_getElem? (i := 19) rfl)
theorem dX7_masksBefore_30 : decode cX7_masksBefore 30 = .ok (.iand, 1) := dgX7_masksBefore_0 (30, (.iand, 1)) (List.mem_of_getElem? (i := 20) rfl)
theorem dX7_masksBefore_31 : decode cX7_masksBefore 31 = .ok (.istore_n 2, 1) := dgX7_masksBefore_0 (31, (.istore_n 2, 1)) (List.mem_of_getElem? (i := 21) rfl)
theorem dX7_masksBefore_32 : decode cX7_masksBefore 32 = .ok (.iload_n 2, 1) := dgX7_masksBefore_0 (32, (.iload_n 2, 1)) (List.mem_of_getElem? (i := 22) rfl)
theorem dX7_masksBefore_33 : decode cX7_masksBefore 33 = .ok (.iload_n 2, 1) := dgX7_masksBefore_0 (33, (.iload_n 2, 1)) (List.mem_of_getElem? (i := 23) rfl)
theorem dX7_masksBefore_34 : decode cX7_masksBefore 34 = .ok (.iconst 1, 1) := dgX7_masksBefore_0 (34, (.iconst 1, 1)) (List.mem_of_getElem? (i := 24) rfl)
theorem dX7_masksBefore_35 : decode cX7_masksBefore 35 = .ok (.iload_n 3, 1) := dgX7_masksBefore_0 (35, (.iload_n 3, 1)) (List.mem_of_getElem? (i := 25) rfl)
theorem dX7_masksBefore_36 : decode cX7_masksBefore 36 = .ok (.ishl, 1) := dgX7_masksBefore_0 (36, (.ishl, 1)) (List.mem_of_getElem? (i := 26) rfl)
theorem dX7_masksBefore_37 : decode cX7_masksBefore 37 = .ok (.iushr, 1) := dgX7_masksBefore_0 (37, (.iushr, 1)) (List.mem_of_getElem? (i := 27) rfl)
theorem dX7_masksBefore_38 : decode cX7_masksBefore 38 = .ok (.ior, 1) := dgX7_masksBefore_0 (38, (.ior, 1)) (List.mem_of_getElem? (i := 28) rfl)
theorem dX7_masksBefore_39 : decode cX7_masksBefore 39 = .ok (.istore_n 2, 1) := dgX7_masksBefore_0 (39, (.istore_n 2, 1)) (List.mem_of_getElem? (i := 29) rfl)
theorem dX7_masksBefore_40 : decode cX7_masksBefore 40 = .ok (.iinc 3 1, 3) := dgX7_masksBefore_0 (40, (.iinc 3 1, 3)) (List.mem_of_getElem? (i := 30) rfl)
theorem dX7_masksBefore_43 : decode cX7_masksBefore 43 = .ok (.goto (-39), 3) := dgX7_masksBefore_0 (43, (.goto (-39), 3)) (List.mem_of_getElem? (i := 31) rfl)
theorem dX7_masksBefore_46 : decode cX7_masksBefore 46 = .ok (.iload_n 2, 1) := dgX7_masksBefore_0 (46, (.iload_n 2, 1)) (List.mem_of_getElem? (i := 32) rfl)
theorem dX7_masksBefore_47 : decode cX7_masksBefore 47 = .ok (.ireturn, 1) := dgX7_masksBefore_0 (47, (.ireturn, 1)) (List.mem_of_getElem? (i := 33) rfl)
set_option maxHeartbeats 4000000 in
set_option maxRecDepth 100000 in
theorem th_masksBefore (l : Launch) (G : g5_G) (sz : Nat) (p_s : Int32) (p_a : Int32) : Met l yX7_masksBefore (wsG yX7_masksBefore cX7_masksBefore 4 (some .int)) ({ frames := 0, cells := 0, slots := 0, locals := 0 }) (va_Pc [.int p_s, .int p_a] (g5_P G [] sz)) (va_Qi (fun (r : Int32) (u : va_W) => (∃ (o_r : Int32), (r = o_r) ∧ (u = []))) (g5_B G (va_A [] sz)) (va_A [] sz)) 0 0 (va_A [] sz) := by
  refine Met.ofW (cc := cX7_masksBefore) (maxL := 4) (ret := (some .int)) (by decide) rfl ?_
  intro p e s m args below meth c s₁ B hml hv
  obtain ⟨rfl, hsz, hP, hK, hD0, hN, hT⟩ := hv
  have hx := B.exec
  have hb := B.bytes
  have hr := B.returns
  have hts : ∀ w ∈ tblG, w.before _ s = true := fun w h => atoms_spec (ws := (wsG yX7_masksBefore cX7_masksBefore 4 (some .int))) B.pre w (List.mem_cons_of_mem _ h)
  have hown : s.vm.findClass RX7 = some m.cls := findClass_of_methodNamed B.named
  have hlocks := B.notSynchronized
  subst hsz
  have hD := hD0.self (sz := s.heap.size)
  generalize hAe : va_A [] s.heap.size = A at hD hT ⊢
  have hA : ∀ q : Nat, s.heap.size ≤ q → A q := fun q h => by rw [← hAe]; exact Or.inr h
  have hS : va_S A s.heap s.heap [] := va_S.rf
  have hP : va_P G.1 vwCl [] s.heap := hP
  have hl := lv_entry ([.int p_s, .int p_a]) (n := 4) (Nat.le_of_ble_eq_true rfl)
  rw [lg_entry_eq]
  generalize (lg_sl ([.int p_s, .int p_a]) ++ List.replicate (4 - (lg_sl ([.int p_s, .int p_a])).length) Slot.unset).toArray = ls at hl ⊢
  have hl : lv_has ls 4 [(0, .int p_s), (1, .int p_a)] := hl
  refine lv_iload_n hx hb dX7_masksBefore_0 rfl (lv_at hl 0 rfl) ?_
  refine lv_istore_n (lv' := [(2, .int p_s), (0, .int p_s), (1, .int p_a)]) hx hb dX7_masksBefore_1 rfl hl (by decide) rfl (fun ls hl => ?_)
  refine lv_iconst (v := 0) hx hb dX7_masksBefore_2 (by decide) ?_
  refine lv_istore_n (lv' := [(3, .int 0), (2, .int p_s), (0, .int p_s), (1, .int p_a)]) hx hb dX7_masksBefore_3 rfl hl (by decide) rfl (fun ls hl => ?_)
  refine g5_loop (α := (Int32) × (Int32)) (fun (q : (Int32) × (Int32)) (ls : Array Slot) (H : Heap) (locs : List Loc) => match q with | (k_k, k_b) => lv_has ls 4 [(2, .int k_b), (3, .int k_k), (0, .int p_s), (1, .int p_a)] ∧ va_P G.1 vwCl [] H ∧ va_D A [] ∧ va_S A s.heap H locs ∧ (0 ≤ k_k.toInt ∧ k_k.toInt ≤ 5)) (fun (q : (Int32) × (Int32)) => match q with | (k_k, k_b) => Int.toNat (5 - k_k.toInt)) (0, p_s) ⟨lv_sub hl [1, 0, 2, 3] rfl, hP, hD, hS, ⟨by decide, by decide⟩⟩ ?_
  rintro ⟨k_k, k_b⟩ ls H locs ⟨hl, hP, hD, hS, i_1⟩ ih_4_2
  have hl : lv_has ls 4 [(2, .int k_b), (3, .int k_k), (0, .int p_s), (1, .int p_a)] := hl
  have i_1 : 0 ≤ k_k.toInt ∧ k_k.toInt ≤ 5 := i_1
  refine g5_rs [] hP hD (fun hP hD => ?_)
  refine lv_iload_n hx hb dX7_masksBefore_4 rfl (lv_at hl 1 rfl) ?_
  obtain ⟨tH, tL, tK, tV, tF, hZH, hTH, hZL, hTL, -⟩ := id hT
  refine va_getsN hx hb hZH hS hown (hN.1 _ g5_nw_X7_114) (fun _ h9 => h9) dX7_masksBefore_5 ?_
  refine va_tlen hx hb hTH hS (v := 5) (by decide) dX7_masksBefore_8 ?_
  refine lv_icmp_ge (tgt := 46) hx hb dX7_masksBefore_9 (by decide) (fun c_3 => ?_) (fun c_3 => ?_)
  ·
    have i_3 : k_k.toInt ≥ 5 := by have z := g5_ge (a := k_k.toInt) (b := 5) (by rfl) (by decide) c_3; omega
    refine lv_iload_n hx hb dX7_masksBefore_46 rfl (lv_at hl 0 rfl) ?_
    exact W.iret (v := k_b) hx hb hr (fun t ht hW => ⟨⟨k_b, [], rfl, ⟨k_b, rfl, rfl⟩, by rw [ht]; exact hP.sub [] rfl, hD.sub [] (by decide) rfl⟩, hS.F ht⟩) hS.2.2 dX7_masksBefore_47
  ·
    have i_3 : k_k.toInt < 5 := by have z := g5_geN (a := k_k.toInt) (b := 5) (by rfl) (by decide) c_3; omega
    refine lv_iload_n hx hb dX7_masksBefore_12 rfl (lv_at hl 3 rfl) ?_
    refine lv_if_eq (tgt := 46) hx hb dX7_masksBefore_13 (by decide) (fun c_4 => ?_) (fun c_4 => ?_)
    ·
      have i_4 : p_a.toInt = 0 := by have z := g5_eq (a := p_a.toInt) (b := 0) (by rfl) (by decide) c_4; omega
      refine lv_iload_n hx hb dX7_masksBefore_46 rfl (lv_at hl 0 rfl) ?_
      exact W.iret (v := k_b) hx hb hr (fun t ht hW => ⟨⟨k_b, [], rfl, ⟨k_b, rfl, rfl⟩, by rw [ht]; exact hP.sub [] rfl, hD.sub [] (by decide) rfl⟩, hS.F ht⟩) hS.2.2 dX7_masksBefore_47
    ·
      have n_4 : gNe (p_a.toInt) (0) := by have z := g5_eqN (a := p_a.toInt) (b := 0) (by rfl) (by decide) c_4; unfold gNe; omega
      refine lv_iload_n hx hb dX7_masksBefore_16 rfl (lv_at hl 3 rfl) ?_
      refine lv_iload_n hx hb dX7_masksBefore_17 rfl (lv_at hl 1 rfl) ?_
      refine lv_ishr hx hb dX7_masksBefore_18 ?_
      refine lv_iconst (v := 1) hx hb dX7_masksBefore_19 (by decide) ?_
      refine lv_iand hx hb dX7_masksBefore_20 ?_
      refine lv_if_eq (tgt := 40) hx hb dX7_masksBefore_21 (by decide) (fun c_5 => ?_) (fun c_5 => ?_)
      ·
        have i_5 : ((p_a >>> (k_k &&& 31)) &&& 1).toInt = 0 := by have z := g5_eq (a := ((p_a >>> (k_k &&& 31)) &&& 1).toInt) (b := 0) (by rfl) (by decide) c_5; omega
        refine lv_iinc (v := (k_k + 1)) (lv' := [(3, .int (k_k + 1)), (2, .int k_b), (0, .int p_s), (1, .int p_a)]) hx hb dX7_masksBefore_40 hl (k := 1) rfl rfl (by decide) rfl (fun ls hl => ?_)
        have t_6 : (k_k + 1).toInt = k_k.toInt + 1 := g5_iadd (a := k_k.toInt) (b := 1) rfl (by decide) (by omega) (by omega)
        refine lv_goto (tgt := 4) hx hb dX7_masksBefore_43 (by decide) ?_
        exact ih_4_2 ((k_k + 1), k_b) ls H locs (show Int.toNat (5 - (k_k + 1).toInt) < Int.toNat (5 - k_k.toInt) from g_up (show k_k.toInt < (k_k + 1).toInt by omega) (show k_k.toInt < 5 by omega)) ⟨lv_sub hl [1, 0, 2, 3] rfl, hP, hD, hS, ⟨by omega, by omega⟩⟩
      ·
        have n_5 : gNe (((p_a >>> (k_k &&& 31)) &&& 1).toInt) (0) := by have z := g5_eqN (a := ((p_a >>> (k_k &&& 31)) &&& 1).toInt) (b := 0) (by rfl) (by decide) c_5; unfold gNe; omega
        refine lv_iload_n hx hb dX7_masksBefore_24 rfl (lv_at hl 0 rfl) ?_
        obtain ⟨tH, tL, tK, tV, tF, hZH, hTH, hZL, hTL, -⟩ := id hT
        refine va_getsN hx hb hZH hS hown (hN.1 _ g5_nw_X7_114) (fun _ h9 => h9) dX7_masksBefore_25 ?_
        refine lv_iload_n hx hb dX7_masksBefore_28 rfl (lv_at hl 1 rfl) ?_
        refine va_ti hx hb hTH hS (i := k_k) (vp_in_iff.mpr ⟨by omega, by omega⟩) (v := .int (g_hav k_k.toNatClampNeg)) (g_hav_eq _) dX7_masksBefore_29 ?_
        refine lv_iand hx hb dX7_masksBefore_30 ?_
        refine lv_istore_n (lv' := [(2, .int (k_b &&& (g_hav k_k.toNatClampNeg))), (3, .int k_k), (0, .int p_s), (1, .int p_a)]) hx hb dX7_masksBefore_31 rfl hl (by decide) rfl (fun ls hl => ?_)
        refine lv_iload_n hx hb dX7_masksBefore_32 rfl (lv_at hl 0 rfl) ?_
        refine lv_iload_n hx hb dX7_masksBefore_33 rfl (lv_at hl 0 rfl) ?_
        refine lv_iconst (v := 1) hx hb dX7_masksBefore_34 (by decide) ?_
        refine lv_iload_n hx hb dX7_masksBefore_35 rfl (lv_at hl 1 rfl) ?_
        refine lv_ishl hx hb dX7_masksBefore_36 ?_
        refine lv_iushr (v := (((k_b &&& (g_hav k_k.toNatClampNeg)).toUInt32 >>> ((1 <<< (k_k &&& 31)).toUInt32 &&& Int32.toUInt32 31)).toInt32)) hx hb dX7_masksBefore_37 rfl ?_
        refine lv_ior hx hb dX7_masksBefore_38 ?_
        refine lv_istore_n (lv' := [(2, .int ((k_b &&& (g_hav k_k.toNatClampNeg)) ||| (((k_b &&& (g_hav k_k.toNatClampNeg)).toUInt32 >>> ((1 <<< (k_k &&& 31)).toUInt32 &&& Int32.toUInt32 31)).toInt32))), (3, .int k_k), (0, .int p_s), (1, .int p_a)]) hx hb dX7_masksBefore_39 rfl hl (by decide) rfl (fun ls hl => ?_)
        refine lv_iinc (v := (k_k + 1)) (lv' := [(3, .int (k_k + 1)), (2, .int ((k_b &&& (g_hav k_k.toNatClampNeg)) ||| (((k_b &&& (g_hav k_k.toNatClampNeg)).toUInt32 >>> ((1 <<< (k_k &&& 31)).toUInt32 &&& Int32.toUInt32 31)).toInt32))), (0, .int p_s), (1, .int p_a)]) hx hb dX7_masksBefore_40 hl (k := 1) rfl rfl (by decide) rfl (fun ls hl => ?_)
        have t_7 : (k_k + 1).toInt = k_k.toInt + 1 := g5_iadd (a := k_k.toInt) (b := 1) rfl (by decide) (by omega) (by omega)
        refine lv_goto (tgt := 4) hx hb dX7_masksBefore_43 (by decide) ?_
        exact ih_4_2 ((k_k + 1), ((k_b &&& (g_hav k_k.toNatClampNeg)) ||| (((k_b &&& (g_hav k_k.toNatClampNeg)).toUInt32 >>> ((1 <<< (k_k &&& 31)).toUInt32 &&& Int32.toUInt32 31)).toInt32))) ls H locs (show Int.toNat (5 - (k_k + 1).toInt) < Int.toNat (5 - k_k.toInt) from g_up (show k_k.toInt < (k_k + 1).toInt by omega) (show k_k.toInt < 5 by omega)) ⟨lv_sub hl [1, 0, 2, 3] rfl, hP, hD, hS, ⟨by omega, by omega⟩⟩
theorem dgX7_masksAfter_0 : ∀ r ∈ ([(0, (.iload_n 0, 1)), (1, (.istore_n 2, 1)), (2, (.iconst 0, 1)), (3, (.istore_n 3, 1)), (4, (.iload_n 3, 1)), (5, (.getstatic 114, 3)), (8, (.arraylength, 1)), (9, (.if_icmp .ge 43, 3)), (12, (.iload_n 1, 1)), (13, (.ifCond .eq 39, 3)), (16, (.iload_n 1, 1)), (17, (.iload_n 3, 1)), (18, (.ishr, 1)), (19, (.iconst 1, 1)), (20, (.iand, 1)), (21, (.ifCond .eq 25, 3)), (24, (.iload_n 2, 1)), (25, (.getstatic 114, 3)), (28, (.iload_n 3, 1)), (29, (.iaload, 1)), (30, (.iand, 1)), (31, (.iload_n 2, 1)), (32, (.getstatic 114, 3)), (35, (.iload_n 3, 1)), (36, (.iaload, 1)), (37, (.iconst (-1), 1)), (38, (.ixor, 1)), (39, (.iand, 1)), (40, (.iconst 1, 1)), (41, (.iload_n 3, 1)), (42, (.ishl, 1)), (43, (.ishl, 1)), (44, (.ior, 1)), (45, (.istore_n 2, 1)), (46, (.iinc 3 1, 3)), (49, (.goto (-45), 3)), (52, (.iload_n 2, 1)), (53, (.ireturn, 1))] : List (Nat × (Instr × Nat))), decode cX7_masksAfter r.1 = .ok r.2 := by decide +kernel
theorem dX7_masksAfter_0 : decode cX7_masksAfter 0 = .ok (.iload_n 0, 1) := dgX7_masksAfter_0 (0, (.iload_n 0, 1)) (List.mem_of_getElem? (i := 0) rfl)
theorem dX7_masksAfter_1 : decode cX7_masksAfter 1 = .ok (.istore_n 2, 1) := dgX7_masksAfter_0 (1, (.istore_n 2, 1)) (List.mem_of_getElem? (i := 1) rfl)
theorem dX7_masksAfter_2 : decode cX7_masksAfter 2 = .ok (.iconst 0, 1) := dgX7_masksAfter_0 (2, (.iconst 0, 1)) (List.mem_of_getElem? (i := 2) rfl)
theorem dX7_masksAfter_3 : decode cX7_masksAfter 3 = .ok (.istore_n 3, 1) := dgX7_masksAfter_0 (3, (.istore_n 3, 1)) (List.mem_of_getElem? (i := 3) rfl)
theorem dX7_masksAfter_4 : decode cX7_masksAfter 4 = .ok (.iload_n 3, 1) := dgX7_masksAfter_0 (4, (.iload_n 3, 1)) (List.mem_of_getElem? (i := 4) rfl)
theorem dX7_masksAfter_5 : decode cX7_masksAfter 5 = .ok (.getstatic 114, 3) := dgX7_masksAfter_0 (5, (.getstatic 114, 3)) (List.mem_of_getElem? (i := 5) rfl)
theorem dX7_masksAfter_8 : decode cX7_masksAfter 8 = .ok (.arraylength, 1) := dgX7_masksAfter_0 (8, (.arraylength, 1)) (List.mem_of_getElem? (i := 6) rfl)
theorem dX7_masksAfter_9 : decode cX7_masksAfter 9 = .ok (.if_icmp .ge 43, 3) := dgX7_masksAfter_0 (9, (.if_icmp .ge 43, 3)) (List.mem_of_getElem? (i := 7) rfl)
theorem dX7_masksAfter_12 : decode cX7_masksAfter 12 = .ok (.iload_n 1, 1) := dgX7_masksAfter_0 (12, (.iload_n 1, 1)) (List.mem_of_getElem? (i := 8) rfl)
theorem dX7_masksAfter_13 : decode cX7_masksAfter 13 = .ok (.ifCond .eq 39, 3) := dgX7_masksAfter_0 (13, (.ifCond .eq 39, 3)) (List.mem_of_getElem? (i := 9) rfl)
theorem dX7_masksAfter_16 : decode cX7_masksAfter 16 = .ok (.iload_n 1, 1) := dgX7_masksAfter_0 (16, (.iload_n 1, 1)) (List.mem_of_getElem? (i := 10) rfl)
theorem dX7_masksAfter_17 : decode cX7_masksAfter 17 = .ok (.iload_n 3, 1) := dgX7_masksAfter_0 (17, (.iload_n 3, 1)) (List.mem_of_getElem? (i := 11) rfl)
theorem dX7_masksAfter_18 : decode cX7_masksAfter 18 = .ok (.ishr, 1) := dgX7_masksAfter_0 (18, (.ishr, 1)) (List.mem_of_getElem? (i := 12) rfl)
theorem dX7_masksAfter_19 : decode cX7_masksAfter 19 = .ok (.iconst 1, 1) := dgX7_masksAfter_0 (19, (.iconst 1, 1)) (List.mem_of_getElem? (i := 13) rfl)
theorem dX7_masksAfter_20 : decode cX7_masksAfter 20 = .ok (.iand, 1) := dgX7_masksAfter_0 (20, (.iand, 1)) (List.mem_of_getElem? (i := 14) rfl)
theorem dX7_masksAfter_21 : decode cX7_masksAfter 21 = .ok (.ifCond .eq 25, 3) := dgX7_masksAfter_0 (21, (.ifCond .eq 25, 3)) (List.mem_of_getElem? (i := 15) rfl)
theorem dX7_masksAfter_24 : decode cX7_masksAfter 24 = .ok (.iload_n 2, 1) := dgX7_masksAfter_0 (24, (.iload_n 2, 1)) (List.mem_of_getElem? (i := 16) rfl)
theorem dX7_masksAfter_25 : decode cX7_masksAfter 25 = .ok (.getstatic 114, 3) := dgX7_masksAfter_0 (25, (.getstatic 114, 3)) (List.mem_of_getElem? (i := 17) rfl)
theorem dX7_masksAfter_28 : decode cX7_masksAfter 28 = .ok (.iload_n 3, 1) := dgX7_masksAfter_0 (28, (.iload_n 3, 1)) (List.mem_of_getElem? (i := 18) rfl)
theorem dX7_masksAfter_29 : decode cX7_masksAfter 29 = .ok (.iaload, 1) := dgX7_masksAfter_0 (29, (.iaload, 1)) (List.mem_of_getElem? (i := 19) rfl)
theorem dX7_masksAfter_30 : decode cX7_masksAfter 30 = .ok (.iand, 1) := dgX7_masksAfter_0 (30, (.iand, 1)) (List.mem_of_getElem? (i := 20) rfl)
theorem dX7_masksAfter_31 : decode cX7_masksAfter 31 = .ok (.iload_n 2, 1) := dgX7_masksAfter_0 (31, (.iload_n 2, 1)) (List.mem_of_getElem? (i := 21) rfl)
theorem dX7_masksAfter_32 : decode cX7_masksAfter 32 = .ok (.getstatic 114, 3) := dgX7_masksAfter_0 (32, (.getstatic 114, 3)) (List.mem_of_getElem? (i := 22) rfl)
theorem dX7_masksAfter_35 : decode cX7_masksAfter 35 = .ok (.iload_n 3, 1) := dgX7_masksAfter_0 (35, (.iload_n 3, 1)) (List.mem_of_getElem? (i := 23) rfl)
theorem dX7_masksAfter_36 : decode cX7_masksAfter 36 = .ok (.iaload, 1) := dgX7_masksAfter_0 (36, (.iaload, 1)) (List.mem_of_getElem? (i := 24) rfl)
theorem dX7_masksAfter_37 : decode cX7_masksAfter 37 = .ok (.iconst (-1), 1) := dgX7_masksAfter_0 (37, (.iconst (-1), 1)) (List.mem_of_getElem? (i := 25) rfl)
theorem dX7_masksAfter_38 : decode cX7_masksAfter 38 = .ok (.ixor, 1) := dgX7_masksAfter_0 (38, (.ixor, 1)) (List.mem_of_getElem? (i := 26) rfl)
theorem dX7_masksAfter_39 : decode cX7_masksAfter 39 = .ok (.iand, 1) := dgX7_masksAfter_0 (39, (.iand, 1)) (List.mem_of_getElem? (i := 27) rfl)
theorem dX7_masksAfter_40 : decode cX7_masksAfter 40 = .ok (.iconst 1, 1) := dgX7_masksAfter_0 (40, (.iconst 1, 1)) (List.mem_of_getElem? (i := 28) rfl)
theorem dX7_masksAfter_41 : decode cX7_masksAfter 41 = .ok (.iload_n 3, 1) := dgX7_masksAfter_0 (41, (.iload_n 3, 1)) (List.mem_of_getElem? (i := 29) rfl)
theorem dX7_masksAfter_42 : decode cX7_masksAfter 42 = .ok (.ishl, 1) := dgX7_masksAfter_0 (42, (.ishl, 1)) (List.mem_of_getElem? (i := 30) rfl)
theorem dX7_masksAfter_43 : decode cX7_masksAfter 43 = .ok (.ishl, 1) := dgX7_masksAfter_0 (43, (.ishl, 1)) (List.mem_of_getElem? (i := 31) rfl)
theorem dX7_masksAfter_44 : decode cX7_masksAfter 44 = .ok (.ior, 1) := dgX7_masksAfter_0 (44, (.ior, 1)) (List.mem_of_getElem? (i := 32) rfl)
theorem dX7_masksAfter_45 : decode cX7_masksAfter 45 = .ok (.istore_n 2, 1) := dgX7_masksAfter_0 (45, (.istore_n 2, 1)) (List.mem_of_getElem? (i := 33) rfl)
theorem dX7_masksAfter_46 : decode cX7_masksAfter 46 = .ok (.iinc 3 1, 3) := dgX7_masksAfter_0 (46, (.iinc 3 1, 3)) (List.mem_of_getElem? (i := 34) rfl)
theorem dX7_masksAfter_49 : decode cX7_masksAfter 49 = .ok (.goto (-45), 3) := dgX7_masksAfter_0 (49, (.goto (-45), 3)) (List.mem_of_getElem? (i := 35) rfl)
theorem dX7_masksAfter_52 : decode cX7_masksAfter 52 = .ok (.iload_n 2, 1) := dgX7_masksAfter_0 (52, (.iload_n 2, 1)) (List.mem_of_getElem? (i := 36) rfl)
theorem dX7_masksAfter_53 : decode cX7_masksAfter 53 = .ok (.ireturn, 1) := dgX7_masksAfter_0 (53, (.ireturn, 1)) (List.mem_of_getElem? (i := 37) rfl)
set_option maxHeartbeats 4000000 in
set_option maxRecDepth 100000 in
theorem th_masksAfter (l : Launch) (G : g5_G) (sz : Nat) (p_s : Int32) (p_a : Int32) : Met l yX7_masksAfter (wsG yX7_masksAfter cX7_masksAfter 4 (some .int)) ({ frames := 0, cells := 0, slots := 0, locals := 0 }) (va_Pc [.int p_s, .int p_a] (g5_P G [] sz)) (va_Qi (fun (r : Int32) (u : va_W) => (∃ (o_r : Int32), (r = o_r) ∧ (u = []))) (g5_B G (va_A [] sz)) (va_A [] sz)) 0 0 (va_A [] sz) := by
  refine Met.ofW (cc := cX7_masksAfter) (maxL := 4) (ret := (some .int)) (by decide) rfl ?_
  intro p e s m args below meth c s₁ B hml hv
  obtain ⟨rfl, hsz, hP, hK, hD0, hN, hT⟩ := hv
  have hx := B.exec
  have hb := B.bytes
  have hr := B.returns
  have hts : ∀ w ∈ tblG, w.before _ s = true := fun w h => atoms_spec (ws := (wsG yX7_masksAfter cX7_masksAfter 4 (some .int))) B.pre w (List.mem_cons_of_mem _ h)
  have hown : s.vm.findClass RX7 = some m.cls := findClass_of_methodNamed B.named
  have hlocks := B.notSynchronized
  subst hsz
  have hD := hD0.self (sz := s.heap.size)
  generalize hAe : va_A [] s.heap.size = A at hD hT ⊢
  have hA : ∀ q : Nat, s.heap.size ≤ q → A q := fun q h => by rw [← hAe]; exact Or.inr h
  have hS : va_S A s.heap s.heap [] := va_S.rf
  have hP : va_P G.1 vwCl [] s.heap := hP
  have hl := lv_entry ([.int p_s, .int p_a]) (n := 4) (Nat.le_of_ble_eq_true rfl)
  rw [lg_entry_eq]
  generalize (lg_sl ([.int p_s, .int p_a]) ++ List.replicate (4 - (lg_sl ([.int p_s, .int p_a])).length) Slot.unset).toArray = ls at hl ⊢
  have hl : lv_has ls 4 [(0, .int p_s), (1, .int p_a)] := hl
  refine lv_iload_n hx hb dX7_masksAfter_0 rfl (lv_at hl 0 rfl) ?_
  refine lv_istore_n (lv' := [(2, .int p_s), (0, .int p_s), (1, .int p_a)]) hx hb dX7_masksAfter_1 rfl hl (by decide) rfl (fun ls hl => ?_)
  refine lv_iconst (v := 0) hx hb dX7_masksAfter_2 (by decide) ?_
  refine lv_istore_n (lv' := [(3, .int 0), (2, .int p_s), (0, .int p_s), (1, .int p_a)]) hx hb dX7_masksAfter_3 rfl hl (by decide) rfl (fun ls hl => ?_)
  refine g5_loop (α := (Int32) × (Int32)) (fun (q : (Int32) × (Int32)) (ls : Array Slot) (H : Heap) (locs : List Loc) => match q with | (k_k, k_b) => lv_has ls 4 [(2, .int k_b), (3, .int k_k), (0, .int p_s), (1, .int p_a)] ∧ va_P G.1 vwCl [] H ∧ va_D A [] ∧ va_S A s.heap H locs ∧ (0 ≤ k_k.toInt ∧ k_k.toInt ≤ 5)) (fun (q : (Int32) × (Int32)) => match q with | (k_k, k_b) => Int.toNat (5 - k_k.toInt)) (0, p_s) ⟨lv_sub hl [1, 0, 2, 3] rfl, hP, hD, hS, ⟨by decide, by decide⟩⟩ ?_
  rintro ⟨k_k, k_b⟩ ls H locs ⟨hl, hP, hD, hS, i_1⟩ ih_4_2
  have hl : lv_has ls 4 [(2, .int k_b), (3, .int k_k), (0, .int p_s), (1, .int p_a)] := hl
  have i_1 : 0 ≤ k_k.toInt ∧ k_k.toInt ≤ 5 := i_1
  refine g5_rs [] hP hD (fun hP hD => ?_)
  refine lv_iload_n hx hb dX7_masksAfter_4 rfl (lv_at hl 1 rfl) ?_
  obtain ⟨tH, tL, tK, tV, tF, hZH, hTH, hZL, hTL, -⟩ := id hT
  refine va_getsN hx hb hZH hS hown (hN.1 _ g5_nw_X7_114) (fun _ h9 => h9) dX7_masksAfter_5 ?_
  refine va_tlen hx hb hTH hS (v := 5) (by decide) dX7_masksAfter_8 ?_
  refine lv_icmp_ge (tgt := 52) hx hb dX7_masksAfter_9 (by decide) (fun c_3 => ?_) (fun c_3 => ?_)
  ·
    have i_3 : k_k.toInt ≥ 5 := by have z := g5_ge (a := k_k.toInt) (b := 5) (by rfl) (by decide) c_3; omega
    refine lv_iload_n hx hb dX7_masksAfter_52 rfl (lv_at hl 0 rfl) ?_
    exact W.iret (v := k_b) hx hb hr (fun t ht hW => ⟨⟨k_b, [], rfl, ⟨k_b, rfl, rfl⟩, by rw [ht]; exact hP.sub [] rfl, hD.sub [] (by decide) rfl⟩, hS.F ht⟩) hS.2.2 dX7_masksAfter_53
  ·
    have i_3 : k_k.toInt < 5 := by have z := g5_geN (a := k_k.toInt) (b := 5) (by rfl) (by decide) c_3; omega
    refine lv_iload_n hx hb dX7_masksAfter_12 rfl (lv_at hl 3 rfl) ?_
    refine lv_if_eq (tgt := 52) hx hb dX7_masksAfter_13 (by decide) (fun c_4 => ?_) (fun c_4 => ?_)
    ·
      have i_4 : p_a.toInt = 0 := by have z := g5_eq (a := p_a.toInt) (b := 0) (by rfl) (by decide) c_4; omega
      refine lv_iload_n hx hb dX7_masksAfter_52 rfl (lv_at hl 0 rfl) ?_
      exact W.iret (v := k_b) hx hb hr (fun t ht hW => ⟨⟨k_b, [], rfl, ⟨k_b, rfl, rfl⟩, by rw [ht]; exact hP.sub [] rfl, hD.sub [] (by decide) rfl⟩, hS.F ht⟩) hS.2.2 dX7_masksAfter_53
    ·
      have n_4 : gNe (p_a.toInt) (0) := by have z := g5_eqN (a := p_a.toInt) (b := 0) (by rfl) (by decide) c_4; unfold gNe; omega
      refine lv_iload_n hx hb dX7_masksAfter_16 rfl (lv_at hl 3 rfl) ?_
      refine lv_iload_n hx hb dX7_masksAfter_17 rfl (lv_at hl 1 rfl) ?_
      refine lv_ishr hx hb dX7_masksAfter_18 ?_
      refine lv_iconst (v := 1) hx hb dX7_masksAfter_19 (by decide) ?_
      refine lv_iand hx hb dX7_masksAfter_20 ?_
      refine lv_if_eq (tgt := 46) hx hb dX7_masksAfter_21 (by decide) (fun c_5 => ?_) (fun c_5 => ?_)
      ·
        have i_5 : ((p_a >>> (k_k &&& 31)) &&& 1).toInt = 0 := by have z := g5_eq (a := ((p_a >>> (k_k &&& 31)) &&& 1).toInt) (b := 0) (by rfl) (by decide) c_5; omega
        refine lv_iinc (v := (k_k + 1)) (lv' := [(3, .int (k_k + 1)), (2, .int k_b), (0, .int p_s), (1, .int p_a)]) hx hb dX7_masksAfter_46 hl (k := 1) rfl rfl (by decide) rfl (fun ls hl => ?_)
        have t_6 : (k_k + 1).toInt = k_k.toInt + 1 := g5_iadd (a := k_k.toInt) (b := 1) rfl (by decide) (by omega) (by omega)
        refine lv_goto (tgt := 4) hx hb dX7_masksAfter_49 (by decide) ?_
        exact ih_4_2 ((k_k + 1), k_b) ls H locs (show Int.toNat (5 - (k_k + 1).toInt) < Int.toNat (5 - k_k.toInt) from g_up (show k_k.toInt < (k_k + 1).toInt by omega) (show k_k.toInt < 5 by omega)) ⟨lv_sub hl [1, 0, 2, 3] rfl, hP, hD, hS, ⟨by omega, by omega⟩⟩
      ·
        have n_5 : gNe (((p_a >>> (k_k &&& 31)) &&& 1).toInt) (0) := by have z := g5_eqN (a := ((p_a >>> (k_k &&& 31)) &&& 1).toInt) (b := 0) (by rfl) (by decide) c_5; unfold gNe; omega
        refine lv_iload_n hx hb dX7_masksAfter_24 rfl (lv_at hl 0 rfl) ?_
        obtain ⟨tH, tL, tK, tV, tF, hZH, hTH, hZL, hTL, -⟩ := id hT
        refine va_getsN hx hb hZH hS hown (hN.1 _ g5_nw_X7_114) (fun _ h9 => h9) dX7_masksAfter_25 ?_
        refine lv_iload_n hx hb dX7_masksAfter_28 rfl (lv_at hl 1 rfl) ?_
        refine va_ti hx hb hTH hS (i := k_k) (vp_in_iff.mpr ⟨by omega, by omega⟩) (v := .int (g_hav k_k.toNatClampNeg)) (g_hav_eq _) dX7_masksAfter_29 ?_
        refine lv_iand hx hb dX7_masksAfter_30 ?_
        refine lv_iload_n hx hb dX7_masksAfter_31 rfl (lv_at hl 0 rfl) ?_
        obtain ⟨tH, tL, tK, tV, tF, hZH, hTH, hZL, hTL, -⟩ := id hT
        refine va_getsN hx hb hZH hS hown (hN.1 _ g5_nw_X7_114) (fun _ h9 => h9) dX7_masksAfter_32 ?_
        refine lv_iload_n hx hb dX7_masksAfter_35 rfl (lv_at hl 1 rfl) ?_
        refine va_ti hx hb hTH hS (i := k_k) (vp_in_iff.mpr ⟨by omega, by omega⟩) (v := .int (g_hav k_k.toNatClampNeg)) (g_hav_eq _) dX7_masksAfter_36 ?_
        refine lv_iconst (v := (-1)) hx hb dX7_masksAfter_37 (by decide) ?_
        refine lv_ixor hx hb dX7_masksAfter_38 ?_
        refine lv_iand hx hb dX7_masksAfter_39 ?_
        refine lv_iconst (v := 1) hx hb dX7_masksAfter_40 (by decide) ?_
        refine lv_iload_n hx hb dX7_masksAfter_41 rfl (lv_at hl 1 rfl) ?_
        refine lv_ishl hx hb dX7_masksAfter_42 ?_
        refine lv_ishl hx hb dX7_masksAfter_43 ?_
        refine lv_ior hx hb dX7_masksAfter_44 ?_
        refine lv_istore_n (lv' := [(2, .int ((k_b &&& (g_hav k_k.toNatClampNeg)) ||| ((k_b &&& ((g_hav k_k.toNatClampNeg) ^^^ (-1))) <<< ((1 <<< (k_k &&& 31)) &&& 31)))), (3, .int k_k), (0, .int p_s), (1, .int p_a)]) hx hb dX7_masksAfter_45 rfl hl (by decide) rfl (fun ls hl => ?_)
        refine lv_iinc (v := (k_k + 1)) (lv' := [(3, .int (k_k + 1)), (2, .int ((k_b &&& (g_hav k_k.toNatClampNeg)) ||| ((k_b &&& ((g_hav k_k.toNatClampNeg) ^^^ (-1))) <<< ((1 <<< (k_k &&& 31)) &&& 31)))), (0, .int p_s), (1, .int p_a)]) hx hb dX7_masksAfter_46 hl (k := 1) rfl rfl (by decide) rfl (fun ls hl => ?_)
        have t_7 : (k_k + 1).toInt = k_k.toInt + 1 := g5_iadd (a := k_k.toInt) (b := 1) rfl (by decide) (by omega) (by omega)
        refine lv_goto (tgt := 4) hx hb dX7_masksAfter_49 (by decide) ?_
        exact ih_4_2 ((k_k + 1), ((k_b &&& (g_hav k_k.toNatClampNeg)) ||| ((k_b &&& ((g_hav k_k.toNatClampNeg) ^^^ (-1))) <<< ((1 <<< (k_k &&& 31)) &&& 31)))) ls H locs (show Int.toNat (5 - (k_k + 1).toInt) < Int.toNat (5 - k_k.toInt) from g_up (show k_k.toInt < (k_k + 1).toInt by omega) (show k_k.toInt < 5 by omega)) ⟨lv_sub hl [1, 0, 2, 3] rfl, hP, hD, hS, ⟨by omega, by omega⟩⟩
theorem dgX7_hopesBehind_0 : ∀ r ∈ ([(0, (.iload_n 1, 1)), (1, (.bipush 23, 2)), (3, (.if_icmp .ne 10, 3)), (6, (.iconst 1, 1)), (7, (.aload_n 0, 1)), (8, (.getfield 89, 3)), (11, (.ishl, 1)), (12, (.ireturn, 1)), (13, (.iconst 0, 1)), (14, (.istore_n 3, 1)), (15, (.iconst 0, 1)), (16, (.istore 4, 2)), (18, (.iload 4, 2)), (20, (.iconst 4, 1)), (21, (.if_icmp .gt 44, 3)), (24, (.iload_n 2, 1)), (25, (.iload 4, 2)), (27, (.invokestatic 105, 3)), (30, (.istore 5, 2)), (32, (.iload_n 3, 1)), (33, (.iload 5, 2)), (35, (.iconst (-1), 1)), (36, (.if_icmp .ne 7, 3)), (39, (.iconst 0, 1)), (40, (.goto 17, 3)), (43, (.aload_n 0, 1)), (44, (.getfield 25, 3)), (47, (.iload_n 1, 1)), (48, (.iconst 1, 1)), (49, (.iadd, 1)), (50, (.bipush 64, 2)), (52, (.imul, 1)), (53, (.iload 5, 2)), (55, (.iadd, 1)), (56, (.iaload, 1)), (57, (.ior, 1)), (58, (.istore_n 3, 1)), (59, (.iinc 4 1, 3)), (62, (.goto (-44), 3)), (65, (.iload_n 3, 1))] : List (Nat × (Instr × Nat))), decode cX7_hopesBehind r.1 = .ok r.2 := by decide +kernel
theorem dX7_hopesBehind_0 : decode cX7_hopesBehind 0 = .ok (.iload_n 1, 1) := dgX7_hopesBehind_0 (0, (.iload_n 1, 1)) (List.mem_of_getElem? (i := 0) rfl)
theorem dX7_hopesBehind_1 : decode cX7_hopesBehind 1 = .ok (.bipush 23, 2) := dgX7_hopesBehind_0 (1, (.bipush 23, 2)) (List.mem_of_getElem? (i := 1) rfl)
theorem dX7_hopesBehind_3 : decode cX7_hopesBehind 3 = .ok (.if_icmp .ne 10, 3) := dgX7_hopesBehind_0 (3, (.if_icmp .ne 10, 3)) (List.mem_of_getElem? (i := 2) rfl)
theorem dX7_hopesBehind_6 : decode cX7_hopesBehind 6 = .ok (.iconst 1, 1) := dgX7_hopesBehind_0 (6, (.iconst 1, 1)) (List.mem_of_getElem? (i := 3) rfl)
theorem dX7_hopesBehind_7 : decode cX7_hopesBehind 7 = .ok (.aload_n 0, 1) := dgX7_hopesBehind_0 (7, (.aload_n 0, 1)) (List.mem_of_getElem? (i := 4) rfl)
theorem dX7_hopesBehind_8 : decode cX7_hopesBehind 8 = .ok (.getfield 89, 3) := dgX7_hopesBehind_0 (8, (.getfield 89, 3)) (List.mem_of_getElem? (i := 5) rfl)
theorem dX7_hopesBehind_11 : decode cX7_hopesBehind 11 = .ok (.ishl, 1) := dgX7_hopesBehind_0 (11, (.ishl, 1)) (List.mem_of_getElem? (i := 6) rfl)
theorem dX7_hopesBehind_12 : decode cX7_hopesBehind 12 = .ok (.ireturn, 1) := dgX7_hopesBehind_0 (12, (.ireturn, 1)) (List.mem_of_getElem? (i := 7) rfl)
theorem dX7_hopesBehind_13 : decode cX7_hopesBehind 13 = .ok (.iconst 0, 1) := dgX7_hopesBehind_0 (13, (.iconst 0, 1)) (List.mem_of_getElem? (i := 8) rfl)
theorem dX7_hopesBehind_14 : decode cX7_hopesBehind 14 = .ok (.istore_n 3, 1) := dgX7_hopesBehind_0 (14, (.istore_n 3, 1)) (List.mem_of_getElem? (i := 9) rfl)
theorem dX7_hopesBehind_15 : decode cX7_hopesBehind 15 = .ok (.iconst 0, 1) := dgX7_hopesBehind_0 (15, (.iconst 0, 1)) (List.mem_of_getElem? (i := 10) rfl)
theorem dX7_hopesBehind_16 : decode cX7_hopesBehind 16 = .ok (.istore 4, 2) := dgX7_hopesBehind_0 (16, (.istore 4, 2)) (List.mem_of_getElem? (i := 11) rfl)
theorem dX7_hopesBehind_18 : decode cX7_hopesBehind 18 = .ok (.iload 4, 2) := dgX7_hopesBehind_0 (18, (.iload 4, 2)) (List.mem_of_getElem? (i := 12) rfl)
theorem dX7_hopesBehind_20 : decode cX7_hopesBehind 20 = .ok (.iconst 4, 1) := dgX7_hopesBehind_0 (20, (.iconst 4, 1)) (List.mem_of_getElem? (i := 13) rfl)
theorem dX7_hopesBehind_21 : decode cX7_hopesBehind 21 = .ok (.if_icmp .gt 44, 3) := dgX7_hopesBehind_0 (21, (.if_icmp .gt 44, 3)) (List.mem_of_getElem? (i := 14) rfl)
theorem dX7_hopesBehind_24 : decode cX7_hopesBehind 24 = .ok (.iload_n 2, 1) := dgX7_hopesBehind_0 (24, (.iload_n 2, 1)) (List.mem_of_getElem? (i := 15) rfl)
theorem dX7_hopesBehind_25 : decode cX7_hopesBehind 25 = .ok (.iload 4, 2) := dgX7_hopesBehind_0 (25, (.iload 4, 2)) (List.mem_of_getElem? (i := 16) rfl)
theorem dX7_hopesBehind_27 : decode cX7_hopesBehind 27 = .ok (.invokestatic 105, 3) := dgX7_hopesBehind_0 (27, (.invokestatic 105, 3)) (List.mem_of_getElem? (i := 17) rfl)
theorem dX7_hopesBehind_30 : decode cX7_hopesBehind 30 = .ok (.istore 5, 2) := dgX7_hopesBehind_0 (30, (.istore 5, 2)) (List.mem_of_getElem? (i := 18) rfl)
theorem dX7_hopesBehind_32 : decode cX7_hopesBehind 32 = .ok (.iload_n 3, 1) := dgX7_hopesBehind_0 (32, (.iload_n 3, 1)) (List.mem_of_getElem? (i := 19) rfl)
theorem dX7_hopesBehind_33 : decode cX7_hopesBehind 33 = .ok (.iload 5, 2) := dgX7_hopesBehind_0 (33, (.iload 5, 2)) (List.mem_of_getElem? (i := 20) rfl)
theorem dX7_hopesBehind_35 : decode cX7_hopesBehind 35 = .ok (.iconst (-1), 1) := dgX7_hopesBehind_0 (35, (.iconst (-1), 1)) (List.mem_of_getElem? (i := 21) rfl)
theorem dX7_hopesBehind_36 : decode cX7_hopesBehind 36 = .ok (.if_icmp .ne 7, 3) := dgX7_hopesBehind_0 (36, (.if_icmp .ne 7, 3)) (List.mem_of_getElem? (i := 22) rfl)
theorem dX7_hopesBehind_39 : decode cX7_hopesBehind 39 = .ok (.iconst 0, 1) := dgX7_hopesBehind_0 (39, (.iconst 0, 1)) (List.mem_of_getElem? (i := 23) rfl)
theorem dX7_hopesBehind_40 : decode cX7_hopesBehind 40 = .ok (.goto 17, 3) := dgX7_hopesBehind_0 (40, (.goto 17, 3)) (List.mem_of_getElem? (i := 24) rfl)
theorem dX7_hopesBehind_43 : decode cX7_hopesBehind 43 = .ok (.aload_n 0, 1) := dgX7_hopesBehind_0 (43, (.aload_n 0, 1)) (List.mem_of_getElem? (i := 25) rfl)
theorem dX7_hopesBehind_44 : decode cX7_hopesBehind 44 = .ok (.getfield 25, 3) := dgX7_hopesBehind_0 (44, (.getfield 25, 3)) (List.mem_of_getElem? (i := 26) rfl)
theorem dX7_hopesBehind_47 : decode cX7_hopesBehind 47 = .ok (.iload_n 1, 1) := dgX7_hopesBehind_0 (47, (.iload_n 1, 1)) (List.mem_of_getElem? (i := 27) rfl)
theorem dX7_hopesBehind_48 : decode cX7_hopesBehind 48 = .ok (.iconst 1, 1) := dgX7_hopesBehind_0 (48, (.iconst 1, 1)) (List.mem_of_getElem? (i := 28) rfl)
theorem dX7_hopesBehind_49 : decode cX7_hopesBehind 49 = .ok (.iadd, 1) := dgX7_hopesBehind_0 (49, (.iadd, 1)) (List.mem_of_getElem? (i := 29) rfl)
theorem dX7_hopesBehind_50 : decode cX7_hopesBehind 50 = .ok (.bipush 64, 2) := dgX7_hopesBehind_0 (50, (.bipush 64, 2)) (List.mem_of_getElem? (i := 30) rfl)
theorem dX7_hopesBehind_52 : decode cX7_hopesBehind 52 = .ok (.imul, 1) := dgX7_hopesBehind_0 (52, (.imul, 1)) (List.mem_of_getElem? (i := 31) rfl)
theorem dX7_hopesBehind_53 : decode cX7_hopesBehind 53 = .ok (.iload 5, 2) := dgX7_hopesBehind_0 (53, (.iload 5, 2)) (List.mem_of_getElem? (i := 32) rfl)
theorem dX7_hopesBehind_55 : decode cX7_hopesBehind 55 = .ok (.iadd, 1) := dgX7_hopesBehind_0 (55, (.iadd, 1)) (List.mem_of_getElem? (i := 33) rfl)
theorem dX7_hopesBehind_56 : decode cX7_hopesBehind 56 = .ok (.iaload, 1) := dgX7_hopesBehind_0 (56, (.iaload, 1)) (List.mem_of_getElem? (i := 34) rfl)
theorem dX7_hopesBehind_57 : decode cX7_hopesBehind 57 = .ok (.ior, 1) := dgX7_hopesBehind_0 (57, (.ior, 1)) (List.mem_of_getElem? (i := 35) rfl)
theorem dX7_hopesBehind_58 : decode cX7_hopesBehind 58 = .ok (.istore_n 3, 1) := dgX7_hopesBehind_0 (58, (.istore_n 3, 1)) (List.mem_of_getElem? (i := 36) rfl)
theorem dX7_hopesBehind_59 : decode cX7_hopesBehind 59 = .ok (.iinc 4 1, 3) := dgX7_hopesBehind_0 (59, (.iinc 4 1, 3)) (List.mem_of_getElem? (i := 37) rfl)
theorem dX7_hopesBehind_62 : decode cX7_hopesBehind 62 = .ok (.goto (-44), 3) := dgX7_hopesBehind_0 (62, (.goto (-44), 3)) (List.mem_of_getElem? (i := 38) rfl)
theorem dX7_hopesBehind_65 : decode cX7_hopesBehind 65 = .ok (.iload_n 3, 1) := dgX7_hopesBehind_0 (65, (.iload_n 3, 1)) (List.mem_of_getElem? (i := 39) rfl)
theorem dgX7_hopesBehind_1 : ∀ r ∈ ([(66, (.ireturn, 1))] : List (Nat × (Instr × Nat))), decode cX7_hopesBehind r.1 = .ok r.2 := by decide +kernel
theorem dX7_hopesBehind_66 : decode cX7_hopesBehind 66 = .ok (.ireturn, 1) := dgX7_hopesBehind_1 (66, (.ireturn, 1)) (List.mem_of_getElem? (i := 0) rfl)
theorem fl_X7_25 : Cond.fieldLink RX7 25 "LateGlass$Thief" "hopes" "[I" ∈ tblG := tg 325 (by decide +kernel) (by decide +kernel)
theorem fl_X7_89 : Cond.fieldLink RX7 89 "LateGlass$Thief" "full" "I" ∈ tblG := tg 322 (by decide +kernel) (by decide +kernel)
set_option maxHeartbeats 4000000 in
set_option maxRecDepth 100000 in
theorem th_behind (l : Launch) (G : g5_G) (a_th a_hp a_h a_k a_ba a_ad a_cn a_nx a_hl a_lv : Nat) (sz : Nat) (e_fu : Int32) (p_h : Int32) (p_c : Int32) (f_hp : Nat → Int32) (h_p_h : 0 ≤ p_h.toInt ∧ p_h.toInt ≤ 23) (h_p_c : 0 ≤ p_c.toInt ∧ p_c.toInt ≤ 63) : Met l yX7_hopesBehind (wsG yX7_hopesBehind cX7_hopesBehind 6 (some .int)) ({ frames := 1, cells := 0, slots := 0, locals := 21 }) (va_Pc [.ref a_th, .int p_h, .int p_c] (g5_P G [(a_th, (oc7 a_h a_k a_ba a_ad e_fu a_cn a_nx a_hp a_hl a_lv)), (a_hp, (arI G 1536 f_hp))] sz)) (va_Qi (fun (r : Int32) (u : va_W) => (∃ (o_r : Int32), (r = o_r) ∧ (u = [(a_th, (oc7 a_h a_k a_ba a_ad e_fu a_cn a_nx a_hp a_hl a_lv)), (a_hp, (arI G 1536 f_hp))]))) (g5_B G (va_A [(a_th, (oc7 a_h a_k a_ba a_ad e_fu a_cn a_nx a_hp a_hl a_lv)), (a_hp, (arI G 1536 f_hp))] sz)) (va_A [(a_th, (oc7 a_h a_k a_ba a_ad e_fu a_cn a_nx a_hp a_hl a_lv)), (a_hp, (arI G 1536 f_hp))] sz)) 0 0 (va_A [(a_th, (oc7 a_h a_k a_ba a_ad e_fu a_cn a_nx a_hp a_hl a_lv)), (a_hp, (arI G 1536 f_hp))] sz) := by
  refine Met.ofW (cc := cX7_hopesBehind) (maxL := 6) (ret := (some .int)) (by decide) rfl ?_
  intro p e s m args below meth c s₁ B hml hv
  obtain ⟨rfl, hsz, hP, hK, hD0, hN, hT⟩ := hv
  have hx := B.exec
  have hb := B.bytes
  have hr := B.returns
  have hts : ∀ w ∈ tblG, w.before _ s = true := fun w h => atoms_spec (ws := (wsG yX7_hopesBehind cX7_hopesBehind 6 (some .int))) B.pre w (List.mem_cons_of_mem _ h)
  have hown : s.vm.findClass RX7 = some m.cls := findClass_of_methodNamed B.named
  have hlocks := B.notSynchronized
  subst hsz
  have hD := hD0.self (sz := s.heap.size)
  generalize hAe : va_A [(a_th, (oc7 a_h a_k a_ba a_ad e_fu a_cn a_nx a_hp a_hl a_lv)), (a_hp, (arI G 1536 f_hp))] s.heap.size = A at hD hT ⊢
  have hA : ∀ q : Nat, s.heap.size ≤ q → A q := fun q h => by rw [← hAe]; exact Or.inr h
  have hS : va_S A s.heap s.heap [] := va_S.rf
  have hP : va_P G.1 vwCl [(a_th, (oc7 a_h a_k a_ba a_ad e_fu a_cn a_nx a_hp a_hl a_lv)), (a_hp, (arI G 1536 f_hp))] s.heap := hP
  have hl := lv_entry ([.ref a_th, .int p_h, .int p_c]) (n := 6) (Nat.le_of_ble_eq_true rfl)
  rw [lg_entry_eq]
  generalize (lg_sl ([.ref a_th, .int p_h, .int p_c]) ++ List.replicate (6 - (lg_sl ([.ref a_th, .int p_h, .int p_c])).length) Slot.unset).toArray = ls at hl ⊢
  have hl : lv_has ls 6 [(0, .ref a_th), (1, .int p_h), (2, .int p_c)] := hl
  refine lv_iload_n hx hb dX7_hopesBehind_0 rfl (lv_at hl 1 rfl) ?_
  refine lv_bipush (v := 23) hx hb dX7_hopesBehind_1 (by decide) ?_
  refine lv_icmp_ne (tgt := 13) hx hb dX7_hopesBehind_3 (by decide) (fun c_1 => ?_) (fun c_1 => ?_)
  ·
    have n_1 : gNe (p_h.toInt) (23) := by have z := g5_ne (a := p_h.toInt) (b := 23) (by rfl) (by decide) c_1; unfold gNe; omega
    have i_1 : p_h.toInt ≤ 22 := by have z := g5_ne (a := p_h.toInt) (b := 23) (by rfl) (by decide) c_1; omega
    refine lv_iconst (v := 0) hx hb dX7_hopesBehind_13 (by decide) ?_
    refine lv_istore_n (lv' := [(3, .int 0), (0, .ref a_th), (1, .int p_h), (2, .int p_c)]) hx hb dX7_hopesBehind_14 rfl hl (by decide) rfl (fun ls hl => ?_)
    refine lv_iconst (v := 0) hx hb dX7_hopesBehind_15 (by decide) ?_
    refine lv_istore (lv' := [(4, .int 0), (3, .int 0), (0, .ref a_th), (1, .int p_h), (2, .int p_c)]) hx hb dX7_hopesBehind_16 hl (by decide) rfl (fun ls hl => ?_)
    refine g5_loop (α := (Int32) × (Int32)) (fun (q : (Int32) × (Int32)) (ls : Array Slot) (H : Heap) (locs : List Loc) => match q with | (k_w, k_s) => lv_has ls 6 [(3, .int k_s), (4, .int k_w), (0, .ref a_th), (1, .int p_h), (2, .int p_c)] ∧ va_P G.1 vwCl [(a_th, (oc7 a_h a_k a_ba a_ad e_fu a_cn a_nx a_hp a_hl a_lv)), (a_hp, (arI G 1536 f_hp))] H ∧ va_D A [(a_th, (oc7 a_h a_k a_ba a_ad e_fu a_cn a_nx a_hp a_hl a_lv)), (a_hp, (arI G 1536 f_hp))] ∧ va_S A s.heap H locs ∧ (0 ≤ k_w.toInt ∧ k_w.toInt ≤ 5)) (fun (q : (Int32) × (Int32)) => match q with | (k_w, k_s) => Int.toNat (5 - k_w.toInt)) (0, 0) ⟨lv_sub hl [1, 0, 2, 3, 4] rfl, hP, hD, hS, ⟨by decide, by decide⟩⟩ ?_
    rintro ⟨k_w, k_s⟩ ls H locs ⟨hl, hP, hD, hS, i_2⟩ ih_18_3
    have hl : lv_has ls 6 [(3, .int k_s), (4, .int k_w), (0, .ref a_th), (1, .int p_h), (2, .int p_c)] := hl
    have i_2 : 0 ≤ k_w.toInt ∧ k_w.toInt ≤ 5 := i_2
    refine g5_rs [(a_th, (oc7 a_h a_k a_ba a_ad e_fu a_cn a_nx a_hp a_hl a_lv)), (a_hp, (arI G 1536 f_hp))] hP hD (fun hP hD => ?_)
    refine lv_iload hx hb dX7_hopesBehind_18 (lv_at hl 1 rfl) ?_
    refine lv_iconst (v := 4) hx hb dX7_hopesBehind_20 (by decide) ?_
    refine lv_icmp_gt (tgt := 65) hx hb dX7_hopesBehind_21 (by decide) (fun c_4 => ?_) (fun c_4 => ?_)
    ·
      have i_4 : k_w.toInt > 4 := by have z := g5_gt (a := k_w.toInt) (b := 4) (by rfl) (by decide) c_4; omega
      refine lv_iload_n hx hb dX7_hopesBehind_65 rfl (lv_at hl 0 rfl) ?_
      exact W.iret (v := k_s) hx hb hr (fun t ht hW => ⟨⟨k_s, [(a_th, (oc7 a_h a_k a_ba a_ad e_fu a_cn a_nx a_hp a_hl a_lv)), (a_hp, (arI G 1536 f_hp))], rfl, ⟨k_s, rfl, rfl⟩, by rw [ht]; exact hP.sub [0, 1] rfl, hD.sub [0, 1] (by decide) rfl⟩, hS.F ht⟩) hS.2.2 dX7_hopesBehind_66
    ·
      have i_4 : k_w.toInt ≤ 4 := by have z := g5_gtN (a := k_w.toInt) (b := 4) (by rfl) (by decide) c_4; omega
      refine lv_iload_n hx hb dX7_hopesBehind_24 rfl (lv_at hl 4 rfl) ?_
      refine lv_iload hx hb dX7_hopesBehind_25 (lv_at hl 1 rfl) ?_
      obtain ⟨hPc, hDc, hFc⟩ := g5_sub3 (wc := []) hP hD hS hA [] (by decide) rfl
      refine va_calli (va_runSN (As := [.int p_c, .int k_w]) (rest := []) ⟨hx, hb, hml, hown, hts⟩ (k_beside l G H.size p_c k_w h_p_c) ⟨va_cnB 2 hts gW_X11_beside rfl rfl rfl (hN.1 _ g5_nw_X7_105) (hts _ ini_X11) hs_X11_beside ⟨Nat.le_of_ble_eq_true rfl, Nat.le_of_ble_eq_true rfl⟩, hts _ st_X11_beside, trivial⟩ (g5_preS hPc hK hDc hN hT hS hFc) rfl rfl hl.1 rfl (lv_room (Nat.le_of_ble_eq_true rfl)) dX7_hopesBehind_27 ⟨Nat.le_of_ble_eq_true rfl, Nat.le_of_ble_eq_true rfl⟩) hS (fun q _ h => hFc q h) hFc (fun r u t H1 locs ht hvm hw hB hz1 hk1 hS => ?_)
      obtain ⟨hP1, hD1⟩ := hB
      rw [ht] at hP1
      obtain ⟨z7, i_5, i_6, y8, rfl⟩ := hw
      have i_5 : z7.toInt = bs p_c.toInt k_w.toInt := i_5
      have i_6 : -1 ≤ z7.toInt ∧ z7.toInt ≤ 63 := i_6
      have hP := g5_same hP hk1
      generalize H1 = H at hP hS ⊢
      refine g5_ti (v := z7) y8 ?_
      refine lv_istore (lv' := [(5, .int z7), (3, .int k_s), (4, .int k_w), (0, .ref a_th), (1, .int p_h), (2, .int p_c)]) hx hb dX7_hopesBehind_30 hl (by decide) rfl (fun ls hl => ?_)
      refine lv_iload_n hx hb dX7_hopesBehind_32 rfl (lv_at hl 1 rfl) ?_
      refine lv_iload hx hb dX7_hopesBehind_33 (lv_at hl 0 rfl) ?_
      refine lv_iconst (v := (-1)) hx hb dX7_hopesBehind_35 (by decide) ?_
      refine lv_icmp_ne (tgt := 43) hx hb dX7_hopesBehind_36 (by decide) (fun c_9 => ?_) (fun c_9 => ?_)
      ·
        have n_9 : gNe (z7.toInt) ((-1)) := by have z := g5_ne (a := z7.toInt) (b := (-1)) (by rfl) (by decide) c_9; unfold gNe; omega
        have i_9 : z7.toInt ≥ 0 := by have z := g5_ne (a := z7.toInt) (b := (-1)) (by rfl) (by decide) c_9; omega
        refine lv_aload_n hx hb dX7_hopesBehind_43 rfl (lv_at hl 3 rfl) ?_
        refine va_get (D := G.1) (ci := 7) (v := .ref a_hp) (C := RX7) (T := TX7) (N := 10) hx hb hts inG_X7 hown hK hP 0 rfl rfl 7 (by decide) (hts _ fl_X7_25) (fun _ h9 => h9) rfl dX7_hopesBehind_44 ?_
        refine lv_iload_n hx hb dX7_hopesBehind_47 rfl (lv_at hl 4 rfl) ?_
        refine lv_iconst (v := 1) hx hb dX7_hopesBehind_48 (by decide) ?_
        refine lv_iadd hx hb dX7_hopesBehind_49 ?_
        have t_10 : (p_h + 1).toInt = p_h.toInt + 1 := g5_iadd (a := p_h.toInt) (b := 1) (by rfl) (by decide) (by omega) (by omega)
        refine lv_bipush (v := 64) hx hb dX7_hopesBehind_50 (by decide) ?_
        refine lv_imul hx hb dX7_hopesBehind_52 ?_
        have t_11 : ((p_h + 1) * 64).toInt = (p_h + 1).toInt * 64 := g5_imul (a := (p_h + 1).toInt) (b := 64) (by rfl) (by decide) (by omega) (by omega)
        refine lv_iload hx hb dX7_hopesBehind_53 (lv_at hl 0 rfl) ?_
        refine lv_iadd hx hb dX7_hopesBehind_55 ?_
        have t_12 : (((p_h + 1) * 64) + z7).toInt = ((p_h + 1) * 64).toInt + z7.toInt := g5_iadd (a := ((p_h + 1) * 64).toInt) (b := z7.toInt) (by rfl) (by rfl) (by omega) (by omega)
        refine va_iald hx hb hK hP 1 0 rfl rfl (i := (((p_h + 1) * 64) + z7)) (vp_in_iff.mpr ⟨by omega, by omega⟩) dX7_hopesBehind_56 ?_
        refine lv_ior hx hb dX7_hopesBehind_57 ?_
        refine lv_istore_n (lv' := [(3, .int (k_s ||| (f_hp (((p_h + 1) * 64) + z7).toNatClampNeg))), (5, .int z7), (4, .int k_w), (0, .ref a_th), (1, .int p_h), (2, .int p_c)]) hx hb dX7_hopesBehind_58 rfl hl (by decide) rfl (fun ls hl => ?_)
        refine lv_iinc (v := (k_w + 1)) (lv' := [(4, .int (k_w + 1)), (3, .int (k_s ||| (f_hp (((p_h + 1) * 64) + z7).toNatClampNeg))), (5, .int z7), (0, .ref a_th), (1, .int p_h), (2, .int p_c)]) hx hb dX7_hopesBehind_59 hl (k := 2) rfl rfl (by decide) rfl (fun ls hl => ?_)
        have t_13 : (k_w + 1).toInt = k_w.toInt + 1 := g5_iadd (a := k_w.toInt) (b := 1) rfl (by decide) (by omega) (by omega)
        refine lv_goto (tgt := 18) hx hb dX7_hopesBehind_62 (by decide) ?_
        exact ih_18_3 ((k_w + 1), (k_s ||| (f_hp (((p_h + 1) * 64) + z7).toNatClampNeg))) ls H locs (show Int.toNat (5 - (k_w + 1).toInt) < Int.toNat (5 - k_w.toInt) from g_up (show k_w.toInt < (k_w + 1).toInt by omega) (show k_w.toInt < 5 by omega)) ⟨lv_sub hl [1, 0, 3, 4, 5] rfl, hP, hD, hS, ⟨by omega, by omega⟩⟩
      ·
        have i_9 : z7.toInt = (-1) := by have z := g5_neN (a := z7.toInt) (b := (-1)) (by rfl) (by decide) c_9; omega
        refine lv_iconst (v := 0) hx hb dX7_hopesBehind_39 (by decide) ?_
        refine lv_goto (tgt := 57) hx hb dX7_hopesBehind_40 (by decide) ?_
        refine lv_ior hx hb dX7_hopesBehind_57 ?_
        refine g5_ti (v := k_s) (by simp) ?_
        refine lv_istore_n (lv' := [(3, .int k_s), (5, .int z7), (4, .int k_w), (0, .ref a_th), (1, .int p_h), (2, .int p_c)]) hx hb dX7_hopesBehind_58 rfl hl (by decide) rfl (fun ls hl => ?_)
        refine lv_iinc (v := (k_w + 1)) (lv' := [(4, .int (k_w + 1)), (3, .int k_s), (5, .int z7), (0, .ref a_th), (1, .int p_h), (2, .int p_c)]) hx hb dX7_hopesBehind_59 hl (k := 2) rfl rfl (by decide) rfl (fun ls hl => ?_)
        have t_14 : (k_w + 1).toInt = k_w.toInt + 1 := g5_iadd (a := k_w.toInt) (b := 1) rfl (by decide) (by omega) (by omega)
        refine lv_goto (tgt := 18) hx hb dX7_hopesBehind_62 (by decide) ?_
        exact ih_18_3 ((k_w + 1), k_s) ls H locs (show Int.toNat (5 - (k_w + 1).toInt) < Int.toNat (5 - k_w.toInt) from g_up (show k_w.toInt < (k_w + 1).toInt by omega) (show k_w.toInt < 5 by omega)) ⟨lv_sub hl [1, 0, 3, 4, 5] rfl, hP, hD, hS, ⟨by omega, by omega⟩⟩
  ·
    have i_1 : p_h.toInt = 23 := by have z := g5_neN (a := p_h.toInt) (b := 23) (by rfl) (by decide) c_1; omega
    refine lv_iconst (v := 1) hx hb dX7_hopesBehind_6 (by decide) ?_
    refine lv_aload_n hx hb dX7_hopesBehind_7 rfl (lv_at hl 0 rfl) ?_
    refine va_get (D := G.1) (ci := 7) (v := .int e_fu) (C := RX7) (T := TX7) (N := 10) hx hb hts inG_X7 hown hK hP 0 rfl rfl 4 (by decide) (hts _ fl_X7_89) (fun _ h9 => h9) rfl dX7_hopesBehind_8 ?_
    refine lv_ishl hx hb dX7_hopesBehind_11 ?_
    exact W.iret (v := (1 <<< (e_fu &&& 31))) hx hb hr (fun t ht hW => ⟨⟨(1 <<< (e_fu &&& 31)), [(a_th, (oc7 a_h a_k a_ba a_ad e_fu a_cn a_nx a_hp a_hl a_lv)), (a_hp, (arI G 1536 f_hp))], rfl, ⟨(1 <<< (e_fu &&& 31)), rfl, rfl⟩, by rw [ht]; exact hP.sub [0, 1] rfl, hD.sub [0, 1] (by decide) rfl⟩, hS.F ht⟩) hS.2.2 dX7_hopesBehind_12
