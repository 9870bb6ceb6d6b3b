theorem dgX7_barPoints_0 : ∀ r ∈ ([(0, (.iconst 0, 1)), (1, (.istore_n 1, 1)), (2, (.iload_n 1, 1)), (3, (.aload_n 0, 1)), (4, (.getfield 38, 3)), (7, (.getfield 92, 3)), (10, (.if_icmp .ge 43, 3)), (13, (.aload_n 0, 1)), (14, (.getfield 9, 3)), (17, (.aload_n 0, 1)), (18, (.getfield 38, 3)), (21, (.getfield 95, 3)), (24, (.iload_n 1, 1)), (25, (.iaload, 1)), (26, (.bipush 64, 2)), (28, (.idiv, 1)), (29, (.dup2, 1)), (30, (.laload, 1)), (31, (.lconst 1, 1)), (32, (.aload_n 0, 1)), (33, (.getfield 38, 3)), (36, (.getfield 95, 3)), (39, (.iload_n 1, 1)), (40, (.iaload, 1)), (41, (.bipush 64, 2)), (43, (.irem, 1)), (44, (.lshl, 1)), (45, (.lor, 1)), (46, (.lastore, 1)), (47, (.iinc 1 1, 3)), (50, (.goto (-48), 3)), (53, (.return_, 1))] : List (Nat × (Instr × Nat))), decode cX7_barPoints r.1 = .ok r.2 := by decide +kernel
theorem dX7_barPoints_0 : decode cX7_barPoints 0 = .ok (.iconst 0, 1) := dgX7_barPoints_0 (0, (.iconst 0, 1)) (List.mem_of_getElem? (i := 0) rfl)
theorem dX7_barPoints_1 : decode cX7_barPoints 1 = .ok (.istore_n 1, 1) := dgX7_barPoints_0 (1, (.istore_n 1, 1)) (List.mem_of_getElem? (i := 1) rfl)
theorem dX7_barPoints_2 : decode cX7_barPoints 2 = .ok (.iload_n 1, 1) := dgX7_barPoints_0 (2, (.iload_n 1, 1)) (List.mem_of_getElem? (i := 2) rfl)
theorem dX7_barPoints_3 : decode cX7_barPoints 3 = .ok (.aload_n 0, 1) := dgX7_barPoints_0 (3, (.aload_n 0, 1)) (List.mem_of_getElem? (i := 3) rfl)
theorem dX7_barPoints_4 : decode cX7_barPoints 4 = .ok (.getfield 38, 3) := dgX7_barPoints_0 (4, (.getfield 38, 3)) (List.mem_of_getElem? (i := 4) rfl)
theorem dX7_barPoints_7 : decode cX7_barPoints 7 = .ok (.getfield 92, 3) := dgX7_barPoints_0 (7, (.getfield 92, 3)) (List.mem_of_getElem? (i := 5) rfl)
theorem dX7_barPoints_10 : decode cX7_barPoints 10 = .ok (.if_icmp .ge 43, 3) := dgX7_barPoints_0 (10, (.if_icmp .ge 43, 3)) (List.mem_of_getElem? (i := 6) rfl)
theorem dX7_barPoints_13 : decode cX7_barPoints 13 = .ok (.aload_n 0, 1) := dgX7_barPoints_0 (13, (.aload_n 0, 1)) (List.mem_of_getElem? (i := 7) rfl)
theorem dX7_barPoints_14 : decode cX7_barPoints 14 = .ok (.getfield 9, 3) := dgX7_barPoints_0 (14, (.getfield 9, 3)) (List.mem_of_getElem? (i := 8) rfl)
theorem dX7_barPoints_17 : decode cX7_barPoints 17 = .ok (.aload_n 0, 1) := dgX7_barPoints_0 (17, (.aload_n 0, 1)) (List.mem_of_getElem? (i := 9) rfl)
theorem dX7_barPoints_18 : decode cX7_barPoints 18 = .ok (.getfield 38, 3) := dgX7_barPoints_0 (18, (.getfield 38, 3)) (List.mem_of_getElem? (i := 10) rfl)
theorem dX7_barPoints_21 : decode cX7_barPoints 21 = .ok (.getfield 95, 3) := dgX7_barPoints_0 (21, (.getfield 95, 3)) (List.mem_of_getElem? (i := 11) rfl)
theorem dX7_barPoints_24 : decode cX7_barPoints 24 = .ok (.iload_n 1, 1) := dgX7_barPoints_0 (24, (.iload_n 1, 1)) (List.mem_of_getElem? (i := 12) rfl)
theorem dX7_barPoints_25 : decode cX7_barPoints 25 = .ok (.iaload, 1) := dgX7_barPoints_0 (25, (.iaload, 1)) (List.mem_of_getElem? (i := 13) rfl)
theorem dX7_barPoints_26 : decode cX7_barPoints 26 = .ok (.bipush 64, 2) := dgX7_barPoints_0 (26, (.bipush 64, 2)) (List.mem_of_getElem? (i := 14) rfl)
theorem dX7_barPoints_28 : decode cX7_barPoints 28 = .ok (.idiv, 1) := dgX7_barPoints_0 (28, (.idiv, 1)) (List.mem_of_getElem? (i := 15) rfl)
theorem dX7_barPoints_29 : decode cX7_barPoints 29 = .ok (.dup2, 1) := dgX7_barPoints_0 (29, (.dup2, 1)) (List.mem_of_getElem? (i := 16) rfl)
theorem dX7_barPoints_30 : decode cX7_barPoints 30 = .ok (.laload, 1) := dgX7_barPoints_0 (30, (.laload, 1)) (List.mem_of_getElem? (i := 17) rfl)
theorem dX7_barPoints_31 : decode cX7_barPoints 31 = .ok (.lconst 1, 1) := dgX7_barPoints_0 (31, (.lconst 1, 1)) (List.mem_of_getElem? (i := 18) rfl)
theorem dX7_barPoints_32 : decode cX7_barPoints 32 = .ok (.aload_n 0, 1) := dgX7_barPoints_0 (32, (.aload_n 0, 1)) (List.mem_of_getElem? (i := 19) rfl)
theorem dX7_barPoints_33 : decode cX7_barPoints 33 = .ok (.getfield 38, 3) := dgX7_barPoints_0 (33, (.getfield 38, 3)) (List.mem_of_getElem? (i := 20) rfl)
theorem dX7_barPoints_36 : decode cX7_barPoints 36 = .ok (.getfield 95, 3) := dgX7_barPoints_0 (36, (.getfield 95, 3)) (List.mem_of_getElem? (i := 21) rfl)
theorem dX7_barPoints_39 : decode cX7_barPoints 39 = .ok (.iload_n 1, 1) := dgX7_barPoints_0 (39, (.iload_n 1, 1)) (List.mem_of_getElem? (i := 22) rfl)
theorem dX7_barPoints_40 : decode cX7_barPoints 40 = .ok (.iaload, 1) := dgX7_barPoints_0 (40, (.iaload, 1)) (List.mem_of_getElem? (i := 23) rfl)
theorem dX7_barPoints_41 : decode cX7_barPoints 41 = .ok (.bipush 64, 2) := dgX7_barPoints_0 (41, (.bipush 64, 2)) (List.mem_of_getElem? (i := 24) rfl)
theorem dX7_barPoints_43 : decode cX7_barPoints 43 = .ok (.irem, 1) := dgX7_barPoints_0 (43, (.irem, 1)) (List.mem_of_getElem? (i := 25) rfl)
theorem dX7_barPoints_44 : decode cX7_barPoints 44 = .ok (.lshl, 1) := dgX7_barPoints_0 (44, (.lshl, 1)) (List.mem_of_getElem? (i := 26) rfl)
theorem dX7_barPoints_45 : decode cX7_barPoints 45 = .ok (.lor, 1) := dgX7_barPoints_0 (45, (.lor, 1)) (List.mem_of_getElem? (i := 27) rfl)
theorem dX7_barPoints_46 : decode cX7_barPoints 46 = .ok (.lastore, 1) := dgX7_barPoints_0 (46, (.lastore, 1)) (List.mem_of_getElem? (i := 28) rfl)
theorem dX7_barPoints_47 : decode cX7_barPoints 47 = .ok (.iinc 1 1, 3) := dgX7_barPoints_0 (47, (.iinc 1 1, 3)) (List.mem_of_getElem? (i := 29) rfl)
theorem dX7_barPoints_50 : decode cX7_barPoints 50 = .ok (.goto (-48), 3) := dgX7_barPoints_0 (50, (.goto (-48), 3)) (List.mem_of_getElem? (i := 30) rfl)
theorem dX7_barPoints_53 : decode cX7_barPoints 53 = .ok (.return_, 1) := dgX7_barPoints_0 (53, (.return_, 1)) (List.mem_of_getElem? (i := 31) rfl)
theorem inG_X7 : ∀ w ∈ wsX70, w ∈ tblG := tgs [328, 330, 332, 334, 336, 338, 340, 342, 344, 346] (by decide +kernel) (by decide +kernel)
theorem fl_X7_38 : Cond.fieldLink RX7 38 "LateGlass$Thief" "eye" "LLateGlass$Look;" ∈ tblG := tg 318 (by decide +kernel) (by decide +kernel)
theorem fl_X7_92 : Cond.fieldLink RX7 92 "LateGlass$Look" "length" "I" ∈ tblG := tg 251 (by decide +kernel) (by decide +kernel)
theorem fl_X7_9 : Cond.fieldLink RX7 9 "LateGlass$Thief" "barred" "[J" ∈ tblG := tg 319 (by decide +kernel) (by decide +kernel)
theorem fl_X7_95 : Cond.fieldLink RX7 95 "LateGlass$Look" "points" "[I" ∈ tblG := tg 247 (by decide +kernel) (by decide +kernel)
set_option maxHeartbeats 4000000 in
set_option maxRecDepth 100000 in
theorem th_bar (l : Launch) (G : g5_G) (a_th a_k a_pt a_ba a_h a_ad a_cn a_nx a_hp a_hl a_lv a_j : Nat) (sz : Nat) (e_fu : Int32) (e_ln : Int32) (e_se : Int32) (e_lh : Int32) (e_br : Int32) (e_we : Int32) (e_me : Int32) (e_ce : Int32) (e_wy : Int32) (e_ho : Int32) (e_ov : Int32) (f_pt : Nat → Int32) (f_ba : Nat → Int64) (h_e_ln : 0 ≤ e_ln.toInt ∧ e_ln.toInt ≤ 200) (h_e_ov : 0 ≤ e_ov.toInt ∧ e_ov.toInt ≤ 1) (e_q : ∀ j : Nat, (j : Int) < e_ln.toInt → 0 ≤ (f_pt j).toInt ∧ (f_pt j).toInt ≤ 1535) : Met l yX7_barPoints (wsG yX7_barPoints cX7_barPoints 2 none) ({ frames := 0, cells := 0, slots := 0, locals := 0 }) (va_Pc [.ref a_th] (g5_P G [(a_th, (oc7 a_h a_k a_ba a_ad e_fu a_cn a_nx a_hp a_hl a_lv)), (a_k, (oc5 a_h a_j a_pt e_ln e_se e_lh e_br e_we e_me e_ce e_wy e_ho e_ov)), (a_pt, (arI G 200 f_pt)), (a_ba, (arJ G 24 f_ba))] sz)) (va_Qv (fun (u : va_W) => (∃ (o_f : Nat → Int64), (u = [(a_th, (oc7 a_h a_k a_ba a_ad e_fu a_cn a_nx a_hp a_hl a_lv)), (a_k, (oc5 a_h a_j a_pt e_ln e_se e_lh e_br e_we e_me e_ce e_wy e_ho e_ov)), (a_pt, (arI G 200 f_pt)), (a_ba, (arJ G 24 o_f))]))) (g5_B G (va_A [(a_th, (oc7 a_h a_k a_ba a_ad e_fu a_cn a_nx a_hp a_hl a_lv)), (a_k, (oc5 a_h a_j a_pt e_ln e_se e_lh e_br e_we e_me e_ce e_wy e_ho e_ov)), (a_pt, (arI G 200 f_pt)), (a_ba, (arJ G 24 f_ba))] sz)) (va_A [(a_th, (oc7 a_h a_k a_ba a_ad e_fu a_cn a_nx a_hp a_hl a_lv)), (a_k, (oc5 a_h a_j a_pt e_ln e_se e_lh e_br e_we e_me e_ce e_wy e_ho e_ov)), (a_pt, (arI G 200 f_pt)), (a_ba, (arJ G 24 f_ba))] sz)) 0 0 (va_A [(a_th, (oc7 a_h a_k a_ba a_ad e_fu a_cn a_nx a_hp a_hl a_lv)), (a_k, (oc5 a_h a_j a_pt e_ln e_se e_lh e_br e_we e_me e_ce e_wy e_ho e_ov)), (a_pt, (arI G 200 f_pt)), (a_ba, (arJ G 24 f_ba))] sz) := by
  refine Met.ofW (cc := cX7_barPoints) (maxL := 2) (ret := none) (by decide +kernel) rfl ?_
  intro p e s m args below meth c s₁ B hml hv
  obtain ⟨rfl, hsz, hP, hK, hD0, hN, hT⟩ := hv
  have hx := B.exec
  have hb := B.bytes
  have hr := B.returns
  have hts : ∀ w ∈ tblG, w.before _ s = true := fun w h => atoms_spec (ws := (wsG yX7_barPoints cX7_barPoints 2 none)) B.pre w (List.mem_cons_of_mem _ h)
  have hown : s.vm.findClass RX7 = some m.cls := findClass_of_methodNamed B.named
  have hlocks := B.notSynchronized
  subst hsz
  have hD := hD0.self (sz := s.heap.size)
  generalize hAe : va_A [(a_th, (oc7 a_h a_k a_ba a_ad e_fu a_cn a_nx a_hp a_hl a_lv)), (a_k, (oc5 a_h a_j a_pt e_ln e_se e_lh e_br e_we e_me e_ce e_wy e_ho e_ov)), (a_pt, (arI G 200 f_pt)), (a_ba, (arJ G 24 f_ba))] s.heap.size = A at hD hT ⊢
  have hA : ∀ q : Nat, s.heap.size ≤ q → A q := fun q h => by rw [← hAe]; exact Or.inr h
  have hS : va_S A s.heap s.heap [] := va_S.rf
  replace hP : va_P G.1 vwCl [(a_th, (oc7 a_h a_k a_ba a_ad e_fu a_cn a_nx a_hp a_hl a_lv)), (a_k, (oc5 a_h a_j a_pt e_ln e_se e_lh e_br e_we e_me e_ce e_wy e_ho e_ov)), (a_pt, (arI G 200 f_pt)), (a_ba, (arJ G 24 f_ba))] s.heap := hP
  have hl := lv_entry ([.ref a_th]) (n := 2) (Nat.le_of_ble_eq_true rfl)
  rw [lg_entry_eq]
  generalize (lg_sl ([.ref a_th]) ++ List.replicate (2 - (lg_sl ([.ref a_th])).length) Slot.unset).toArray = ls at hl ⊢
  replace hl : lv_has ls 2 [(0, .ref a_th)] := hl
  refine lv_iconst (v := 0) hx hb dX7_barPoints_0 (by decide +kernel) ?_
  refine lv_istore_n (lv' := [(1, .int 0), (0, .ref a_th)]) hx hb dX7_barPoints_1 rfl hl (by decide +kernel) rfl ?_
  clear hl
  intro ls hl
  refine g5_loop (α := (Int32) × (Nat → Int64)) (fun (q : (Int32) × (Nat → Int64)) (ls : Array Slot) (H : Heap) (locs : List Loc) => match q with | (k_i, k_f) => lv_has ls 2 [(1, .int k_i), (0, .ref a_th)] ∧ va_P G.1 vwCl [(a_th, (oc7 a_h a_k a_ba a_ad e_fu a_cn a_nx a_hp a_hl a_lv)), (a_k, (oc5 a_h a_j a_pt e_ln e_se e_lh e_br e_we e_me e_ce e_wy e_ho e_ov)), (a_pt, (arI G 200 f_pt)), (a_ba, (arJ G 24 k_f))] H ∧ va_D A [(a_th, (oc7 a_h a_k a_ba a_ad e_fu a_cn a_nx a_hp a_hl a_lv)), (a_k, (oc5 a_h a_j a_pt e_ln e_se e_lh e_br e_we e_me e_ce e_wy e_ho e_ov)), (a_pt, (arI G 200 f_pt)), (a_ba, (arJ G 24 k_f))] ∧ va_S A s.heap H locs ∧ (0 ≤ k_i.toInt ∧ k_i.toInt ≤ 200)) (fun (q : (Int32) × (Nat → Int64)) => match q with | (k_i, k_f) => Int.toNat (200 - k_i.toInt)) (0, f_ba) ⟨lv_sub hl [0, 1] rfl, hP, hD, hS, ⟨by decide, by decide⟩⟩ ?_
  rintro ⟨k_i, k_f⟩ ls H locs ⟨hl, hP, hD, hS, (i_1 : 0 ≤ k_i.toInt ∧ k_i.toInt ≤ 200)⟩ ih_2_2
  replace hl : lv_has ls 2 [(1, .int k_i), (0, .ref a_th)] := hl
  refine g5_rs [(a_th, (oc7 a_h a_k a_ba a_ad e_fu a_cn a_nx a_hp a_hl a_lv)), (a_k, (oc5 a_h a_j a_pt e_ln e_se e_lh e_br e_we e_me e_ce e_wy e_ho e_ov)), (a_pt, (arI G 200 f_pt)), (a_ba, (arJ G 24 k_f))] hP hD ?_
  clear hP hD
  intro hP hD
  refine lv_iload_n hx hb dX7_barPoints_2 rfl (lv_at hl 0 rfl) ?_
  refine lv_aload_n hx hb dX7_barPoints_3 rfl (lv_at hl 1 rfl) ?_
  refine va_get (D := G.1) (ci := 7) (v := .ref a_k) (C := RX7) (T := TX7) (N := 10) hx hb hts inG_X7 hown hK hP 0 rfl rfl 1 (by decide +kernel) (hts _ fl_X7_38) (fun _ h9 => h9) rfl dX7_barPoints_4 ?_
  refine va_get (D := G.1) (ci := 5) (v := .int e_ln) (C := RX5) (T := TX5) (N := 13) hx hb hts inG_X5 hown hK hP 1 rfl rfl 3 (by decide +kernel) (hts _ fl_X7_92) (fun _ h9 => h9) rfl dX7_barPoints_7 ?_
  refine W.eq (g2 := F0 m 10 ls [.int e_ln, .int k_i]) rfl ?_
  refine lv_icmp_ge (tgt := 53) hx hb dX7_barPoints_10 (by decide +kernel) (fun c_3 => ?_) (fun c_3 => ?_)
  ·
    have i_3 : k_i.toInt ≥ e_ln.toInt := g5_ge (a := k_i.toInt) (b := e_ln.toInt) rfl rfl c_3
    exact W.vret hx hb hr (fun t ht hW => ⟨⟨[(a_th, (oc7 a_h a_k a_ba a_ad e_fu a_cn a_nx a_hp a_hl a_lv)), (a_k, (oc5 a_h a_j a_pt e_ln e_se e_lh e_br e_we e_me e_ce e_wy e_ho e_ov)), (a_pt, (arI G 200 f_pt)), (a_ba, (arJ G 24 k_f))], rfl, ⟨k_f, rfl⟩, by rw [ht]; exact hP.sub [0, 1, 2, 3] rfl, hD.sub [0, 1, 2, 3] (by decide +kernel) rfl⟩, hS.F ht⟩) hS.2.2 dX7_barPoints_53
  ·
    have i_3 : k_i.toInt < e_ln.toInt := g5_geN (a := k_i.toInt) (b := e_ln.toInt) rfl rfl c_3
    refine lv_aload_n hx hb dX7_barPoints_13 rfl (lv_at hl 1 rfl) ?_
    refine va_get (D := G.1) (ci := 7) (v := .ref a_ba) (C := RX7) (T := TX7) (N := 10) hx hb hts inG_X7 hown hK hP 0 rfl rfl 2 (by decide +kernel) (hts _ fl_X7_9) (fun _ h9 => h9) rfl dX7_barPoints_14 ?_
    refine lv_aload_n hx hb dX7_barPoints_17 rfl (lv_at hl 1 rfl) ?_
    refine va_get (D := G.1) (ci := 7) (v := .ref a_k) (C := RX7) (T := TX7) (N := 10) hx hb hts inG_X7 hown hK hP 0 rfl rfl 1 (by decide +kernel) (hts _ fl_X7_38) (fun _ h9 => h9) rfl dX7_barPoints_18 ?_
    refine W.eq (g2 := F0 m 21 ls [.ref a_k, .ref a_ba]) rfl ?_
    refine va_get (D := G.1) (ci := 5) (v := .ref a_pt) (C := RX5) (T := TX5) (N := 13) hx hb hts inG_X5 hown hK hP 1 rfl rfl 2 (by decide +kernel) (hts _ fl_X7_95) (fun _ h9 => h9) rfl dX7_barPoints_21 ?_
    refine lv_iload_n hx hb dX7_barPoints_24 rfl (lv_at hl 0 rfl) ?_
    refine va_iald hx hb hK hP 2 0 rfl rfl (i := k_i) (vp_in_iff.mpr ⟨by omega, by omega⟩) dX7_barPoints_25 ?_
    have hp_4 : 0 ≤ (f_pt k_i.toNatClampNeg).toInt ∧ (f_pt k_i.toNatClampNeg).toInt ≤ 1535 := e_q _ (by have zz := g5_clamp k_i; omega)
    refine lv_bipush (v := 64) hx hb dX7_barPoints_26 (by decide +kernel) ?_
    refine lv_idiv hx hb dX7_barPoints_28 (by decide +kernel) ?_
    have t_5 : ((f_pt k_i.toNatClampNeg) / 64).toInt = (f_pt k_i.toNatClampNeg).toInt / 64 := g5_idiv (a := (f_pt k_i.toNatClampNeg).toInt) (b := 64) rfl (by decide +kernel) (by omega) (by decide +kernel)
    refine W.eq (g2 := F0 m 29 ls [.int ((f_pt k_i.toNatClampNeg) / 64), .ref a_ba]) rfl ?_
    refine lv_dup2_11 hx hb dX7_barPoints_29 rfl rfl ?_
    refine va_lald hx hb hK hP 3 1 rfl rfl (i := ((f_pt k_i.toNatClampNeg) / 64)) (vp_in_iff.mpr ⟨by omega, by omega⟩) dX7_barPoints_30 ?_
    refine lv_lconst (v := 1) hx hb dX7_barPoints_31 (by decide +kernel) ?_
    refine lv_aload_n hx hb dX7_barPoints_32 rfl (lv_at hl 1 rfl) ?_
    refine va_get (D := G.1) (ci := 7) (v := .ref a_k) (C := RX7) (T := TX7) (N := 10) hx hb hts inG_X7 hown hK hP 0 rfl rfl 1 (by decide +kernel) (hts _ fl_X7_38) (fun _ h9 => h9) rfl dX7_barPoints_33 ?_
    refine W.eq (g2 := F0 m 36 ls [.ref a_k, .long 1, .long (k_f ((f_pt k_i.toNatClampNeg) / 64).toNatClampNeg), .int ((f_pt k_i.toNatClampNeg) / 64), .ref a_ba]) rfl ?_
    refine va_get (D := G.1) (ci := 5) (v := .ref a_pt) (C := RX5) (T := TX5) (N := 13) hx hb hts inG_X5 hown hK hP 1 rfl rfl 2 (by decide +kernel) (hts _ fl_X7_95) (fun _ h9 => h9) rfl dX7_barPoints_36 ?_
    refine lv_iload_n hx hb dX7_barPoints_39 rfl (lv_at hl 0 rfl) ?_
    refine va_iald hx hb hK hP 2 0 rfl rfl (i := k_i) (vp_in_iff.mpr ⟨by omega, by omega⟩) dX7_barPoints_40 ?_
    have hp_6 : 0 ≤ (f_pt k_i.toNatClampNeg).toInt ∧ (f_pt k_i.toNatClampNeg).toInt ≤ 1535 := e_q _ (by have zz := g5_clamp k_i; omega)
    refine lv_bipush (v := 64) hx hb dX7_barPoints_41 (by decide +kernel) ?_
    refine lv_irem hx hb dX7_barPoints_43 (by decide +kernel) ?_
    have t_7 : ((f_pt k_i.toNatClampNeg) - (f_pt k_i.toNatClampNeg) / 64 * 64).toInt = (f_pt k_i.toNatClampNeg).toInt % 64 := g5_irem (a := (f_pt k_i.toNatClampNeg).toInt) (b := 64) rfl (by decide +kernel) (by omega) (by decide +kernel)
    refine W.eq (g2 := F0 m 44 ls [.int ((f_pt k_i.toNatClampNeg) - (f_pt k_i.toNatClampNeg) / 64 * 64), .long 1, .long (k_f ((f_pt k_i.toNatClampNeg) / 64).toNatClampNeg), .int ((f_pt k_i.toNatClampNeg) / 64), .ref a_ba]) rfl ?_
    refine lv_lshl (v := ((1 : Int64) <<< (((f_pt k_i.toNatClampNeg) - (f_pt k_i.toNatClampNeg) / 64 * 64).toInt64 &&& 63))) hx hb dX7_barPoints_44 rfl ?_
    refine lv_lor hx hb dX7_barPoints_45 ?_
    refine va_last hx hb hK hP hD hS 3 1 rfl rfl (i := ((f_pt k_i.toNatClampNeg) / 64)) (x := ((k_f ((f_pt k_i.toNatClampNeg) / 64).toNatClampNeg) ||| ((1 : Int64) <<< (((f_pt k_i.toNatClampNeg) - (f_pt k_i.toNatClampNeg) / 64 * 64).toInt64 &&& 63)))) (vp_in_iff.mpr ⟨by omega, by omega⟩) dX7_barPoints_46 ?_
    clear hP hD hS
    intro H locs hP hD hS
    refine g5_rs [(a_th, (oc7 a_h a_k a_ba a_ad e_fu a_cn a_nx a_hp a_hl a_lv)), (a_k, (oc5 a_h a_j a_pt e_ln e_se e_lh e_br e_we e_me e_ce e_wy e_ho e_ov)), (a_pt, (arI G 200 f_pt)), (a_ba, (arJ G 24 (vp_updL k_f ((f_pt k_i.toNatClampNeg) / 64).toNatClampNeg ((k_f ((f_pt k_i.toNatClampNeg) / 64).toNatClampNeg) ||| ((1 : Int64) <<< (((f_pt k_i.toNatClampNeg) - (f_pt k_i.toNatClampNeg) / 64 * 64).toInt64 &&& 63))))))] hP hD ?_
    clear hP hD
    intro hP hD
    refine lv_iinc (v := (k_i + 1)) (lv' := [(1, .int (k_i + 1)), (0, .ref a_th)]) hx hb dX7_barPoints_47 hl (k := 0) rfl rfl (by decide +kernel) rfl ?_
    clear hl
    intro ls hl
    have t_8 : (k_i + 1).toInt = k_i.toInt + 1 := g5_iadd (a := k_i.toInt) (b := 1) rfl (by decide +kernel) (by omega) (by omega)
    refine lv_goto (tgt := 2) hx hb dX7_barPoints_50 (by decide +kernel) ?_
    exact ih_2_2 ((k_i + 1), (vp_updL k_f ((f_pt k_i.toNatClampNeg) / 64).toNatClampNeg ((k_f ((f_pt k_i.toNatClampNeg) / 64).toNatClampNeg) ||| ((1 : Int64) <<< (((f_pt k_i.toNatClampNeg) - (f_pt k_i.toNatClampNeg) / 64 * 64).toInt64 &&& 63))))) ls H locs (show Int.toNat (200 - (k_i + 1).toInt) < Int.toNat (200 - k_i.toInt) from g_up (show k_i.toInt < (k_i + 1).toInt by omega) (show k_i.toInt < 200 by omega)) ⟨lv_sub hl [0, 1] rfl, hP, hD, hS, ⟨by omega, by omega⟩⟩
theorem dgX7_addPoints_0 : ∀ r ∈ ([(0, (.iconst 0, 1)), (1, (.istore_n 2, 1)), (2, (.iload_n 2, 1)), (3, (.aload_n 0, 1)), (4, (.getfield 38, 3)), (7, (.getfield 92, 3)), (10, (.if_icmp .ge 27, 3)), (13, (.aload_n 0, 1)), (14, (.getfield 15, 3)), (17, (.aload_n 0, 1)), (18, (.getfield 38, 3)), (21, (.getfield 95, 3)), (24, (.iload_n 2, 1)), (25, (.iaload, 1)), (26, (.dup2, 1)), (27, (.iaload, 1)), (28, (.iload_n 1, 1)), (29, (.ior, 1)), (30, (.iastore, 1)), (31, (.iinc 2 1, 3)), (34, (.goto (-32), 3)), (37, (.return_, 1))] : List (Nat × (Instr × Nat))), decode cX7_addPoints r.1 = .ok r.2 := by decide +kernel
theorem dX7_addPoints_0 : decode cX7_addPoints 0 = .ok (.iconst 0, 1) := dgX7_addPoints_0 (0, (.iconst 0, 1)) (List.mem_of_getElem? (i := 0) rfl)
theorem dX7_addPoints_1 : decode cX7_addPoints 1 = .ok (.istore_n 2, 1) := dgX7_addPoints_0 (1, (.istore_n 2, 1)) (List.mem_of_getElem? (i := 1) rfl)
theorem dX7_addPoints_2 : decode cX7_addPoints 2 = .ok (.iload_n 2, 1) := dgX7_addPoints_0 (2, (.iload_n 2, 1)) (List.mem_of_getElem? (i := 2) rfl)
theorem dX7_addPoints_3 : decode cX7_addPoints 3 = .ok (.aload_n 0, 1) := dgX7_addPoints_0 (3, (.aload_n 0, 1)) (List.mem_of_getElem? (i := 3) rfl)
theorem dX7_addPoints_4 : decode cX7_addPoints 4 = .ok (.getfield 38, 3) := dgX7_addPoints_0 (4, (.getfield 38, 3)) (List.mem_of_getElem? (i := 4) rfl)
theorem dX7_addPoints_7 : decode cX7_addPoints 7 = .ok (.getfield 92, 3) := dgX7_addPoints_0 (7, (.getfield 92, 3)) (List.mem_of_getElem? (i := 5) rfl)
theorem dX7_addPoints_10 : decode cX7_addPoints 10 = .ok (.if_icmp .ge 27, 3) := dgX7_addPoints_0 (10, (.if_icmp .ge 27, 3)) (List.mem_of_getElem? (i := 6) rfl)
theorem dX7_addPoints_13 : decode cX7_addPoints 13 = .ok (.aload_n 0, 1) := dgX7_addPoints_0 (13, (.aload_n 0, 1)) (List.mem_of_getElem? (i := 7) rfl)
theorem dX7_addPoints_14 : decode cX7_addPoints 14 = .ok (.getfield 15, 3) := dgX7_addPoints_0 (14, (.getfield 15, 3)) (List.mem_of_getElem? (i := 8) rfl)
theorem dX7_addPoints_17 : decode cX7_addPoints 17 = .ok (.aload_n 0, 1) := dgX7_addPoints_0 (17, (.aload_n 0, 1)) (List.mem_of_getElem? (i := 9) rfl)
theorem dX7_addPoints_18 : decode cX7_addPoints 18 = .ok (.getfield 38, 3) := dgX7_addPoints_0 (18, (.getfield 38, 3)) (List.mem_of_getElem? (i := 10) rfl)
theorem dX7_addPoints_21 : decode cX7_addPoints 21 = .ok (.getfield 95, 3) := dgX7_addPoints_0 (21, (.getfield 95, 3)) (List.mem_of_getElem? (i := 11) rfl)
theorem dX7_addPoints_24 : decode cX7_addPoints 24 = .ok (.iload_n 2, 1) := dgX7_addPoints_0 (24, (.iload_n 2, 1)) (List.mem_of_getElem? (i := 12) rfl)
theorem dX7_addPoints_25 : decode cX7_addPoints 25 = .ok (.iaload, 1) := dgX7_addPoints_0 (25, (.iaload, 1)) (List.mem_of_getElem? (i := 13) rfl)
theorem dX7_addPoints_26 : decode cX7_addPoints 26 = .ok (.dup2, 1) := dgX7_addPoints_0 (26, (.dup2, 1)) (List.mem_of_getElem? (i := 14) rfl)
theorem dX7_addPoints_27 : decode cX7_addPoints 27 = .ok (.iaload, 1) := dgX7_addPoints_0 (27, (.iaload, 1)) (List.mem_of_getElem? (i := 15) rfl)
theorem dX7_addPoints_28 : decode cX7_addPoints 28 = .ok (.iload_n 1, 1) := dgX7_addPoints_0 (28, (.iload_n 1, 1)) (List.mem_of_getElem? (i := 16) rfl)
theorem dX7_addPoints_29 : decode cX7_addPoints 29 = .ok (.ior, 1) := dgX7_addPoints_0 (29, (.ior, 1)) (List.mem_of_getElem? (i := 17) rfl)
theorem dX7_addPoints_30 : decode cX7_addPoints 30 = .ok (.iastore, 1) := dgX7_addPoints_0 (30, (.iastore, 1)) (List.mem_of_getElem? (i := 18) rfl)
theorem dX7_addPoints_31 : decode cX7_addPoints 31 = .ok (.iinc 2 1, 3) := dgX7_addPoints_0 (31, (.iinc 2 1, 3)) (List.mem_of_getElem? (i := 19) rfl)
theorem dX7_addPoints_34 : decode cX7_addPoints 34 = .ok (.goto (-32), 3) := dgX7_addPoints_0 (34, (.goto (-32), 3)) (List.mem_of_getElem? (i := 20) rfl)
theorem dX7_addPoints_37 : decode cX7_addPoints 37 = .ok (.return_, 1) := dgX7_addPoints_0 (37, (.return_, 1)) (List.mem_of_getElem? (i := 21) rfl)
theorem fl_X7_15 : Cond.fieldLink RX7 15 "LateGlass$Thief" "adds" "[I" ∈ tblG := tg 321 (by decide +kernel) (by decide +kernel)
set_option maxHeartbeats 4000000 in
set_option maxRecDepth 100000 in
theorem th_add (l : Launch) (G : g5_G) (a_th a_k a_pt a_ad a_h a_ba a_cn a_nx a_hp a_hl a_lv a_j : Nat) (sz : Nat) (e_fu : Int32) (e_ln : Int32) (e_se : Int32) (e_lh : Int32) (e_br : Int32) (e_we : Int32) (e_me : Int32) (e_ce : Int32) (e_wy : Int32) (e_ho : Int32) (e_ov : Int32) (p_b : Int32) (f_pt : Nat → Int32) (f_ad : Nat → Int32) (n_s : Nat) (h_e_ln : 0 ≤ e_ln.toInt ∧ e_ln.toInt ≤ 200) (h_e_ov : 0 ≤ e_ov.toInt ∧ e_ov.toInt ≤ 1) (e_q : ∀ j : Nat, (j : Int) < e_ln.toInt → 0 ≤ (f_pt j).toInt ∧ (f_pt j).toInt ≤ 1535) (e_s : n_s < 5) (e_b : p_b = nI (2 ^ n_s)) (e_m : mOK f_ad (n_s + 1)) : Met l yX7_addPoints (wsG yX7_addPoints cX7_addPoints 3 none) ({ frames := 0, cells := 0, slots := 0, locals := 0 }) (va_Pc [.ref a_th, .int p_b] (g5_P G [(a_th, (oc7 a_h a_k a_ba a_ad e_fu a_cn a_nx a_hp a_hl a_lv)), (a_k, (oc5 a_h a_j a_pt e_ln e_se e_lh e_br e_we e_me e_ce e_wy e_ho e_ov)), (a_pt, (arI G 200 f_pt)), (a_ad, (arI G 1536 f_ad))] sz)) (va_Qv (fun (u : va_W) => (∃ (o_f : Nat → Int32), (mOK o_f (n_s + 1)) ∧ (u = [(a_th, (oc7 a_h a_k a_ba a_ad e_fu a_cn a_nx a_hp a_hl a_lv)), (a_k, (oc5 a_h a_j a_pt e_ln e_se e_lh e_br e_we e_me e_ce e_wy e_ho e_ov)), (a_pt, (arI G 200 f_pt)), (a_ad, (arI G 1536 o_f))]))) (g5_B G (va_A [(a_th, (oc7 a_h a_k a_ba a_ad e_fu a_cn a_nx a_hp a_hl a_lv)), (a_k, (oc5 a_h a_j a_pt e_ln e_se e_lh e_br e_we e_me e_ce e_wy e_ho e_ov)), (a_pt, (arI G 200 f_pt)), (a_ad, (arI G 1536 f_ad))] sz)) (va_A [(a_th, (oc7 a_h a_k a_ba a_ad e_fu a_cn a_nx a_hp a_hl a_lv)), (a_k, (oc5 a_h a_j a_pt e_ln e_se e_lh e_br e_we e_me e_ce e_wy e_ho e_ov)), (a_pt, (arI G 200 f_pt)), (a_ad, (arI G 1536 f_ad))] sz)) 0 0 (va_A [(a_th, (oc7 a_h a_k a_ba a_ad e_fu a_cn a_nx a_hp a_hl a_lv)), (a_k, (oc5 a_h a_j a_pt e_ln e_se e_lh e_br e_we e_me e_ce e_wy e_ho e_ov)), (a_pt, (arI G 200 f_pt)), (a_ad, (arI G 1536 f_ad))] sz) := by
  refine Met.ofW (cc := cX7_addPoints) (maxL := 3) (ret := none) (by decide +kernel) rfl ?_
  intro p e s m args below meth c s₁ B hml hv
  obtain ⟨rfl, hsz, hP, hK, hD0, hN, hT⟩ := hv
  have hx := B.exec
  have hb := B.bytes
  have hr := B.returns
  have hts : ∀ w ∈ tblG, w.before _ s = true := fun w h => atoms_spec (ws := (wsG yX7_addPoints cX7_addPoints 3 none)) B.pre w (List.mem_cons_of_mem _ h)
  have hown : s.vm.findClass RX7 = some m.cls := findClass_of_methodNamed B.named
  have hlocks := B.notSynchronized
  subst hsz
  have hD := hD0.self (sz := s.heap.size)
  generalize hAe : va_A [(a_th, (oc7 a_h a_k a_ba a_ad e_fu a_cn a_nx a_hp a_hl a_lv)), (a_k, (oc5 a_h a_j a_pt e_ln e_se e_lh e_br e_we e_me e_ce e_wy e_ho e_ov)), (a_pt, (arI G 200 f_pt)), (a_ad, (arI G 1536 f_ad))] s.heap.size = A at hD hT ⊢
  have hA : ∀ q : Nat, s.heap.size ≤ q → A q := fun q h => by rw [← hAe]; exact Or.inr h
  have hS : va_S A s.heap s.heap [] := va_S.rf
  replace hP : va_P G.1 vwCl [(a_th, (oc7 a_h a_k a_ba a_ad e_fu a_cn a_nx a_hp a_hl a_lv)), (a_k, (oc5 a_h a_j a_pt e_ln e_se e_lh e_br e_we e_me e_ce e_wy e_ho e_ov)), (a_pt, (arI G 200 f_pt)), (a_ad, (arI G 1536 f_ad))] s.heap := hP
  have hl := lv_entry ([.ref a_th, .int p_b]) (n := 3) (Nat.le_of_ble_eq_true rfl)
  rw [lg_entry_eq]
  generalize (lg_sl ([.ref a_th, .int p_b]) ++ List.replicate (3 - (lg_sl ([.ref a_th, .int p_b])).length) Slot.unset).toArray = ls at hl ⊢
  replace hl : lv_has ls 3 [(0, .ref a_th), (1, .int p_b)] := hl
  refine lv_iconst (v := 0) hx hb dX7_addPoints_0 (by decide +kernel) ?_
  refine lv_istore_n (lv' := [(2, .int 0), (0, .ref a_th), (1, .int p_b)]) hx hb dX7_addPoints_1 rfl hl (by decide +kernel) rfl ?_
  clear hl
  intro ls hl
  refine g5_loop (α := (Int32) × (Nat → Int32)) (fun (q : (Int32) × (Nat → Int32)) (ls : Array Slot) (H : Heap) (locs : List Loc) => match q with | (k_i, k_f) => lv_has ls 3 [(2, .int k_i), (0, .ref a_th), (1, .int p_b)] ∧ va_P G.1 vwCl [(a_th, (oc7 a_h a_k a_ba a_ad e_fu a_cn a_nx a_hp a_hl a_lv)), (a_k, (oc5 a_h a_j a_pt e_ln e_se e_lh e_br e_we e_me e_ce e_wy e_ho e_ov)), (a_pt, (arI G 200 f_pt)), (a_ad, (arI G 1536 k_f))] H ∧ va_D A [(a_th, (oc7 a_h a_k a_ba a_ad e_fu a_cn a_nx a_hp a_hl a_lv)), (a_k, (oc5 a_h a_j a_pt e_ln e_se e_lh e_br e_we e_me e_ce e_wy e_ho e_ov)), (a_pt, (arI G 200 f_pt)), (a_ad, (arI G 1536 k_f))] ∧ va_S A s.heap H locs ∧ (0 ≤ k_i.toInt ∧ k_i.toInt ≤ 200) ∧ (mOK k_f (n_s + 1))) (fun (q : (Int32) × (Nat → Int32)) => match q with | (k_i, k_f) => Int.toNat (200 - k_i.toInt)) (0, f_ad) ⟨lv_sub hl [0, 1, 2] rfl, hP, hD, hS, ⟨by decide, by decide⟩, e_m⟩ ?_
  rintro ⟨k_i, k_f⟩ ls H locs ⟨hl, hP, hD, hS, (i_1 : 0 ≤ k_i.toInt ∧ k_i.toInt ≤ 200), (i_2 : mOK k_f (n_s + 1))⟩ ih_2_3
  replace hl : lv_has ls 3 [(2, .int k_i), (0, .ref a_th), (1, .int p_b)] := hl
  refine g5_rs [(a_th, (oc7 a_h a_k a_ba a_ad e_fu a_cn a_nx a_hp a_hl a_lv)), (a_k, (oc5 a_h a_j a_pt e_ln e_se e_lh e_br e_we e_me e_ce e_wy e_ho e_ov)), (a_pt, (arI G 200 f_pt)), (a_ad, (arI G 1536 k_f))] hP hD ?_
  clear hP hD
  intro hP hD
  refine lv_iload_n hx hb dX7_addPoints_2 rfl (lv_at hl 0 rfl) ?_
  refine lv_aload_n hx hb dX7_addPoints_3 rfl (lv_at hl 1 rfl) ?_
  refine va_get (D := G.1) (ci := 7) (v := .ref a_k) (C := RX7) (T := TX7) (N := 10) hx hb hts inG_X7 hown hK hP 0 rfl rfl 1 (by decide +kernel) (hts _ fl_X7_38) (fun _ h9 => h9) rfl dX7_addPoints_4 ?_
  refine va_get (D := G.1) (ci := 5) (v := .int e_ln) (C := RX5) (T := TX5) (N := 13) hx hb hts inG_X5 hown hK hP 1 rfl rfl 3 (by decide +kernel) (hts _ fl_X7_92) (fun _ h9 => h9) rfl dX7_addPoints_7 ?_
  refine W.eq (g2 := F0 m 10 ls [.int e_ln, .int k_i]) rfl ?_
  refine lv_icmp_ge (tgt := 37) hx hb dX7_addPoints_10 (by decide +kernel) (fun c_4 => ?_) (fun c_4 => ?_)
  ·
    have i_4 : k_i.toInt ≥ e_ln.toInt := g5_ge (a := k_i.toInt) (b := e_ln.toInt) rfl rfl c_4
    exact W.vret hx hb hr (fun t ht hW => ⟨⟨[(a_th, (oc7 a_h a_k a_ba a_ad e_fu a_cn a_nx a_hp a_hl a_lv)), (a_k, (oc5 a_h a_j a_pt e_ln e_se e_lh e_br e_we e_me e_ce e_wy e_ho e_ov)), (a_pt, (arI G 200 f_pt)), (a_ad, (arI G 1536 k_f))], rfl, ⟨k_f, i_2, rfl⟩, by rw [ht]; exact hP.sub [0, 1, 2, 3] rfl, hD.sub [0, 1, 2, 3] (by decide +kernel) rfl⟩, hS.F ht⟩) hS.2.2 dX7_addPoints_37
  ·
    have i_4 : k_i.toInt < e_ln.toInt := g5_geN (a := k_i.toInt) (b := e_ln.toInt) rfl rfl c_4
    refine lv_aload_n hx hb dX7_addPoints_13 rfl (lv_at hl 1 rfl) ?_
    refine va_get (D := G.1) (ci := 7) (v := .ref a_ad) (C := RX7) (T := TX7) (N := 10) hx hb hts inG_X7 hown hK hP 0 rfl rfl 3 (by decide +kernel) (hts _ fl_X7_15) (fun _ h9 => h9) rfl dX7_addPoints_14 ?_
    refine lv_aload_n hx hb dX7_addPoints_17 rfl (lv_at hl 1 rfl) ?_
    refine va_get (D := G.1) (ci := 7) (v := .ref a_k) (C := RX7) (T := TX7) (N := 10) hx hb hts inG_X7 hown hK hP 0 rfl rfl 1 (by decide +kernel) (hts _ fl_X7_38) (fun _ h9 => h9) rfl dX7_addPoints_18 ?_
    refine W.eq (g2 := F0 m 21 ls [.ref a_k, .ref a_ad]) rfl ?_
    refine va_get (D := G.1) (ci := 5) (v := .ref a_pt) (C := RX5) (T := TX5) (N := 13) hx hb hts inG_X5 hown hK hP 1 rfl rfl 2 (by decide +kernel) (hts _ fl_X7_95) (fun _ h9 => h9) rfl dX7_addPoints_21 ?_
    refine lv_iload_n hx hb dX7_addPoints_24 rfl (lv_at hl 0 rfl) ?_
    refine va_iald hx hb hK hP 2 0 rfl rfl (i := k_i) (vp_in_iff.mpr ⟨by omega, by omega⟩) dX7_addPoints_25 ?_
    have hp_5 : 0 ≤ (f_pt k_i.toNatClampNeg).toInt ∧ (f_pt k_i.toNatClampNeg).toInt ≤ 1535 := e_q _ (by have zz := g5_clamp k_i; omega)
    refine lv_dup2_11 hx hb dX7_addPoints_26 rfl rfl ?_
    refine va_iald hx hb hK hP 3 0 rfl rfl (i := (f_pt k_i.toNatClampNeg)) (vp_in_iff.mpr ⟨by omega, by omega⟩) dX7_addPoints_27 ?_
    refine W.eq (g2 := F0 m 28 ls [.int (k_f (f_pt k_i.toNatClampNeg).toNatClampNeg), .int (f_pt k_i.toNatClampNeg), .ref a_ad]) rfl ?_
    refine lv_iload_n hx hb dX7_addPoints_28 rfl (lv_at hl 2 rfl) ?_
    refine lv_ior hx hb dX7_addPoints_29 ?_
    refine va_iast hx hb hK hP hD hS 3 0 rfl rfl (i := (f_pt k_i.toNatClampNeg)) (x := ((k_f (f_pt k_i.toNatClampNeg).toNatClampNeg) ||| p_b)) (vp_in_iff.mpr ⟨by omega, by omega⟩) dX7_addPoints_30 ?_
    clear hP hD hS
    intro H locs hP hD hS
    refine g5_rs [(a_th, (oc7 a_h a_k a_ba a_ad e_fu a_cn a_nx a_hp a_hl a_lv)), (a_k, (oc5 a_h a_j a_pt e_ln e_se e_lh e_br e_we e_me e_ce e_wy e_ho e_ov)), (a_pt, (arI G 200 f_pt)), (a_ad, (arI G 1536 (upd k_f (f_pt k_i.toNatClampNeg).toNatClampNeg ((k_f (f_pt k_i.toNatClampNeg).toNatClampNeg) ||| p_b))))] hP hD ?_
    clear hP hD
    intro hP hD
    refine lv_iinc (v := (k_i + 1)) (lv' := [(2, .int (k_i + 1)), (0, .ref a_th), (1, .int p_b)]) hx hb dX7_addPoints_31 hl (k := 0) rfl rfl (by decide +kernel) rfl ?_
    clear hl
    intro ls hl
    have t_6 : (k_i + 1).toInt = k_i.toInt + 1 := g5_iadd (a := k_i.toInt) (b := 1) rfl (by decide +kernel) (by omega) (by omega)
    refine lv_goto (tgt := 2) hx hb dX7_addPoints_34 (by decide +kernel) ?_
    exact ih_2_3 ((k_i + 1), (upd k_f (f_pt k_i.toNatClampNeg).toNatClampNeg ((k_f (f_pt k_i.toNatClampNeg).toNatClampNeg) ||| p_b))) ls H locs (show Int.toNat (200 - (k_i + 1).toInt) < Int.toNat (200 - k_i.toInt) from g_up (show k_i.toInt < (k_i + 1).toInt by omega) (show k_i.toInt < 200 by omega)) ⟨lv_sub hl [0, 1, 2] rfl, hP, hD, hS, ⟨by omega, by omega⟩, m_or (x := (f_pt k_i.toNatClampNeg)) e_s e_b i_2 (by omega)⟩
theorem dgX7_masksBefore_0 : ∀ r ∈ ([(0, (.iload_n 0, 1)), (1, (.istore_n 2, 1)), (2, (.iconst 0, 1)), (3, (.istore_n 3, 1)), (4, (.iload_n 3, 1)), (5, (.getstatic 114, 3)), (8, (.arraylength, 1)), (9, (.if_icmp .ge 37, 3)), (12, (.iload_n 1, 1)), (13, (.ifCond .eq 33, 3)), (16, (.iload_n 1, 1)), (17, (.iload_n 3, 1)), (18, (.ishr, 1)), (19, (.iconst 1, 1)), (20, (.iand, 1)), (21, (.ifCond .eq 19, 3)), (24, (.iload_n 2, 1)), (25, (.getstatic 114, 3)), (28, (.iload_n 3, 1)), (29, (.iaload, 1)), (30, (.iand, 1)), (31, (.istore_n 2, 1)), (32, (.iload_n 2, 1)), (33, (.iload_n 2, 1)), (34, (.iconst 1, 1)), (35, (.iload_n 3, 1)), (36, (.ishl, 1)), (37, (.iushr, 1)), (38, (.ior, 1)), (39, (.istore_n 2, 1)), (40, (.iinc 3 1, 3)), (43, (.goto (-39), 3)), (46, (.iload_n 2, 1)), (47, (.ireturn, 1))] : List (Nat × (Instr × Nat))), decode cX7_masksBefore r.1 = .ok r.2 := by decide +kernel
theorem dX7_masksBefore_0 : decode cX7_masksBefore 0 = .ok (.iload_n 0, 1) := dgX7_masksBefore_0 (0, (.iload_n 0, 1)) (List.mem_of_getElem? (i := 0) rfl)
theorem dX7_masksBefore_1 : decode cX7_masksBefore 1 = .ok (.istore_n 2, 1) := dgX7_masksBefore_0 (1, (.istore_n 2, 1)) (List.mem_of_getElem? (i := 1) rfl)
theorem dX7_masksBefore_2 : decode cX7_masksBefore 2 = .ok (.iconst 0, 1) := dgX7_masksBefore_0 (2, (.iconst 0, 1)) (List.mem_of_getElem? (i := 2) rfl)
theorem dX7_masksBefore_3 : decode cX7_masksBefore 3 = .ok (.istore_n 3, 1) := dgX7_masksBefore_0 (3, (.istore_n 3, 1)) (List.mem_of_getElem? (i := 3) rfl)
theorem dX7_masksBefore_4 : decode cX7_masksBefore 4 = .ok (.iload_n 3, 1) := dgX7_masksBefore_0 (4, (.iload_n 3, 1)) (List.mem_of_getElem? (i := 4) rfl)
theorem dX7_masksBefore_5 : decode cX7_masksBefore 5 = .ok (.getstatic 114, 3) := dgX7_masksBefore_0 (5, (.getstatic 114, 3)) (List.mem_of_getElem? (i := 5) rfl)
theorem dX7_masksBefore_8 : decode cX7_masksBefore 8 = .ok (.arraylength, 1) := dgX7_masksBefore_0 (8, (.arraylength, 1)) (List.mem_of_getElem? (i := 6) rfl)
theorem dX7_masksBefore_9 : decode cX7_masksBefore 9 = .ok (.if_icmp .ge 37, 3) := dgX7_masksBefore_0 (9, (.if_icmp .ge 37, 3)) (List.mem_of_getElem? (i := 7) rfl)
theorem dX7_masksBefore_12 : decode cX7_masksBefore 12 = .ok (.iload_n 1, 1) := dgX7_masksBefore_0 (12, (.iload_n 1, 1)) (List.mem_of_getElem? (i := 8) rfl)
theorem dX7_masksBefore_13 : decode cX7_masksBefore 13 = .ok (.ifCond .eq 33, 3) := dgX7_masksBefore_0 (13, (.ifCond .eq 33, 3)) (List.mem_of_getElem? (i := 9) rfl)
theorem dX7_masksBefore_16 : decode cX7_masksBefore 16 = .ok (.iload_n 1, 1) := dgX7_masksBefore_0 (16, (.iload_n 1, 1)) (List.mem_of_getElem? (i := 10) rfl)
theorem dX7_masksBefore_17 : decode cX7_masksBefore 17 = .ok (.iload_n 3, 1) := dgX7_masksBefore_0 (17, (.iload_n 3, 1)) (List.mem_of_getElem? (i := 11) rfl)
theorem dX7_masksBefore_18 : decode cX7_masksBefore 18 = .ok (.ishr, 1) := dgX7_masksBefore_0 (18, (.ishr, 1)) (List.mem_of_getElem? (i := 12) rfl)
theorem dX7_masksBefore_19 : decode cX7_masksBefore 19 = .ok (.iconst 1, 1) := dgX7_masksBefore_0 (19, (.iconst 1, 1)) (List.mem_of_getElem? (i := 13) rfl)
theorem dX7_masksBefore_20 : decode cX7_masksBefore 20 = .ok (.iand, 1) := dgX7_masksBefore_0 (20, (.iand, 1)) (List.mem_of_getElem? (i := 14) rfl)
theorem dX7_masksBefore_21 : decode cX7_masksBefore 21 = .ok (.ifCond .eq 19, 3) := dgX7_masksBefore_0 (21, (.ifCond .eq 19, 3)) (List.mem_of_getElem? (i := 15) rfl)
theorem dX7_masksBefore_24 : decode cX7_masksBefore 24 = .ok (.iload_n 2, 1) := dgX7_masksBefore_0 (24, (.iload_n 2, 1)) (List.mem_of_getElem? (i := 16) rfl)
theorem dX7_masksBefore_25 : decode cX7_masksBefore 25 = .ok (.getstatic 114, 3) := dgX7_masksBefore_0 (25, (.getstatic 114, 3)) (List.mem_of_getElem? (i := 17) rfl)
theorem dX7_masksBefore_28 : decode cX7_masksBefore 28 = .ok (.iload_n 3, 1) := dgX7_masksBefore_0 (28, (.iload_n 3, 1)) (List.mem_of_getElem? (i := 18) rfl)
theorem dX7_masksBefore_29 : decode cX7_masksBefore 29 = .ok (.iaload, 1) := dgX7_masksBefore_0 (29, (.iaload, 1)) (List.mem_of_getElem? (i := 19) rfl)
theorem dX7_masksBefore_30 : decode cX7_masksBefore 30 = .ok (.iand, 1) := dgX7_masksBefore_0 (30, (.iand, 1)) (List.mem_of_getElem? (i := 20) rfl)
theorem dX7_masksBefore_31 : decode cX7_masksBefore 31 = .ok (.istore_n 2, 1) := dgX7_masksBefore_0 (31, (.istore_n 2, 1)) (List.mem_of_getElem? (i := 21) rfl)
theorem dX7_masksBefore_32 : decode cX7_masksBefore 32 = .ok (.iload_n 2, 1) := dgX7_masksBefore_0 (32, (.iload_n 2, 1)) (List.mem_of_getElem? (i := 22) rfl)
theorem dX7_masksBefore_33 : decode cX7_masksBefore 33 = .ok (.iload_n 2, 1) := dgX7_masksBefore_0 (33, (.iload_n 2, 1)) (List.mem_of_getElem? (i := 23) rfl)
theorem dX7_masksBefore_34 : decode cX7_masksBefore 34 = .ok (.iconst 1, 1) := dgX7_masksBefore_0 (34, (.iconst 1, 1)) (List.mem_of_getElem? (i := 24) rfl)
theorem dX7_masksBefore_35 : decode cX7_masksBefore 35 = .ok (.iload_n 3, 1) := dgX7_masksBefore_0 (35, (.iload_n 3, 1)) (List.mem_of_getElem? (i := 25) rfl)
theorem dX7_masksBefore_36 : decode cX7_masksBefore 36 = .ok (.ishl, 1) := dgX7_masksBefore_0 (36, (.ishl, 1)) (List.mem_of_getElem? (i := 26) rfl)
theorem dX7_masksBefore_37 : decode cX7_masksBefore 37 = .ok (.iushr, 1) := dgX7_masksBefore_0 (37, (.iushr, 1)) (List.mem_of_getElem? (i := 27) rfl)
theorem dX7_masksBefore_38 : decode cX7_masksBefore 38 = .ok (.ior, 1) := dgX7_masksBefore_0 (38, (.ior, 1)) (List.mem_of_getElem? (i := 28) rfl)
theorem dX7_masksBefore_39 : decode cX7_masksBefore 39 = .ok (.istore_n 2, 1) := dgX7_masksBefore_0 (39, (.istore_n 2, 1)) (List.mem_of_getElem? (i := 29) rfl)
theorem dX7_masksBefore_40 : decode cX7_masksBefore 40 = .ok (.iinc 3 1, 3) := dgX7_masksBefore_0 (40, (.iinc 3 1, 3)) (List.mem_of_getElem? (i := 30) rfl)
theorem dX7_masksBefore_43 : decode cX7_masksBefore 43 = .ok (.goto (-39), 3) := dgX7_masksBefore_0 (43, (.goto (-39), 3)) (List.mem_of_getElem? (i := 31) rfl)
theorem dX7_masksBefore_46 : decode cX7_masksBefore 46 = .ok (.iload_n 2, 1) := dgX7_masksBefore_0 (46, (.iload_n 2, 1)) (List.mem_of_getElem? (i := 32) rfl)
theorem dX7_masksBefore_47 : decode cX7_masksBefore 47 = .ok (.ireturn, 1) := dgX7_masksBefore_0 (47, (.ireturn, 1)) (List.mem_of_getElem? (i := 33) rfl)
set_option maxHeartbeats 4000000 in
set_option maxRecDepth 100000 in
theorem th_masksBefore (l : Launch) (G : g5_G) (sz : Nat) (p_s : Int32) (p_a : Int32) : Met l yX7_masksBefore (wsG yX7_masksBefore cX7_masksBefore 4 (some .int)) ({ frames := 0, cells := 0, slots := 0, locals := 0 }) (va_Pc [.int p_s, .int p_a] (g5_P G [] sz)) (va_Qi (fun (r : Int32) (u : va_W) => (∃ (o_r : Int32), (r = o_r) ∧ (u = []))) (g5_B G (va_A [] sz)) (va_A [] sz)) 0 0 (va_A [] sz) := by
  refine Met.ofW (cc := cX7_masksBefore) (maxL := 4) (ret := (some .int)) (by decide +kernel) rfl ?_
  intro p e s m args below meth c s₁ B hml hv
  obtain ⟨rfl, hsz, hP, hK, hD0, hN, hT⟩ := hv
  have hx := B.exec
  have hb := B.bytes
  have hr := B.returns
  have hts : ∀ w ∈ tblG, w.before _ s = true := fun w h => atoms_spec (ws := (wsG yX7_masksBefore cX7_masksBefore 4 (some .int))) B.pre w (List.mem_cons_of_mem _ h)
  have hown : s.vm.findClass RX7 = some m.cls := findClass_of_methodNamed B.named
  have hlocks := B.notSynchronized
  subst hsz
  have hD := hD0.self (sz := s.heap.size)
  generalize hAe : va_A [] s.heap.size = A at hD hT ⊢
  have hA : ∀ q : Nat, s.heap.size ≤ q → A q := fun q h => by rw [← hAe]; exact Or.inr h
  have hS : va_S A s.heap s.heap [] := va_S.rf
  replace hP : va_P G.1 vwCl [] s.heap := hP
  have hl := lv_entry ([.int p_s, .int p_a]) (n := 4) (Nat.le_of_ble_eq_true rfl)
  rw [lg_entry_eq]
  generalize (lg_sl ([.int p_s, .int p_a]) ++ List.replicate (4 - (lg_sl ([.int p_s, .int p_a])).length) Slot.unset).toArray = ls at hl ⊢
  replace hl : lv_has ls 4 [(0, .int p_s), (1, .int p_a)] := hl
  refine lv_iload_n hx hb dX7_masksBefore_0 rfl (lv_at hl 0 rfl) ?_
  refine lv_istore_n (lv' := [(2, .int p_s), (0, .int p_s), (1, .int p_a)]) hx hb dX7_masksBefore_1 rfl hl (by decide +kernel) rfl ?_
  clear hl
  intro ls hl
  refine lv_iconst (v := 0) hx hb dX7_masksBefore_2 (by decide +kernel) ?_
  refine lv_istore_n (lv' := [(3, .int 0), (2, .int p_s), (0, .int p_s), (1, .int p_a)]) hx hb dX7_masksBefore_3 rfl hl (by decide +kernel) rfl ?_
  clear hl
  intro ls hl
  refine g5_loop (α := (Int32) × (Int32)) (fun (q : (Int32) × (Int32)) (ls : Array Slot) (H : Heap) (locs : List Loc) => match q with | (k_k, k_b) => lv_has ls 4 [(2, .int k_b), (3, .int k_k), (0, .int p_s), (1, .int p_a)] ∧ va_P G.1 vwCl [] H ∧ va_D A [] ∧ va_S A s.heap H locs ∧ (0 ≤ k_k.toInt ∧ k_k.toInt ≤ 5)) (fun (q : (Int32) × (Int32)) => match q with | (k_k, k_b) => Int.toNat (5 - k_k.toInt)) (0, p_s) ⟨lv_sub hl [1, 0, 2, 3] rfl, hP, hD, hS, ⟨by decide, by decide⟩⟩ ?_
  rintro ⟨k_k, k_b⟩ ls H locs ⟨hl, hP, hD, hS, (i_1 : 0 ≤ k_k.toInt ∧ k_k.toInt ≤ 5)⟩ ih_4_2
  replace hl : lv_has ls 4 [(2, .int k_b), (3, .int k_k), (0, .int p_s), (1, .int p_a)] := hl
  refine g5_rs [] hP hD ?_
  clear hP hD
  intro hP hD
  refine lv_iload_n hx hb dX7_masksBefore_4 rfl (lv_at hl 1 rfl) ?_
  obtain ⟨tH, tL, tK, tV, tF, hZH, hTH, hZL, hTL, -⟩ := id hT
  refine va_getsN hx hb hZH hS hown (hN.1 _ g5_nw_X7_114) (fun _ h9 => h9) dX7_masksBefore_5 ?_
  refine va_tlen hx hb hTH hS (v := 5) (by decide +kernel) dX7_masksBefore_8 ?_
  refine lv_icmp_ge (tgt := 46) hx hb dX7_masksBefore_9 (by decide +kernel) (fun c_3 => ?_) (fun c_3 => ?_)
  ·
    have i_3 : k_k.toInt ≥ 5 := g5_ge (a := k_k.toInt) (b := 5) rfl (by decide +kernel) c_3
    refine lv_iload_n hx hb dX7_masksBefore_46 rfl (lv_at hl 0 rfl) ?_
    exact W.iret (v := k_b) hx hb hr (fun t ht hW => ⟨⟨k_b, [], rfl, ⟨k_b, rfl, rfl⟩, by rw [ht]; exact hP.sub [] rfl, hD.sub [] (by decide +kernel) rfl⟩, hS.F ht⟩) hS.2.2 dX7_masksBefore_47
  ·
    have i_3 : k_k.toInt < 5 := g5_geN (a := k_k.toInt) (b := 5) rfl (by decide +kernel) c_3
    refine lv_iload_n hx hb dX7_masksBefore_12 rfl (lv_at hl 3 rfl) ?_
    refine lv_if_eq (tgt := 46) hx hb dX7_masksBefore_13 (by decide +kernel) (fun c_4 => ?_) (fun c_4 => ?_)
    ·
      have i_4 : p_a.toInt = 0 := g5_eq (a := p_a.toInt) (b := 0) rfl (by decide +kernel) c_4
      refine lv_iload_n hx hb dX7_masksBefore_46 rfl (lv_at hl 0 rfl) ?_
      exact W.iret (v := k_b) hx hb hr (fun t ht hW => ⟨⟨k_b, [], rfl, ⟨k_b, rfl, rfl⟩, by rw [ht]; exact hP.sub [] rfl, hD.sub [] (by decide +kernel) rfl⟩, hS.F ht⟩) hS.2.2 dX7_masksBefore_47
    ·
      have n_4 : gNe (p_a.toInt) (0) := g5_eqN (a := p_a.toInt) (b := 0) rfl (by decide +kernel) c_4
      refine lv_iload_n hx hb dX7_masksBefore_16 rfl (lv_at hl 3 rfl) ?_
      refine lv_iload_n hx hb dX7_masksBefore_17 rfl (lv_at hl 1 rfl) ?_
      refine lv_ishr hx hb dX7_masksBefore_18 ?_
      refine lv_iconst (v := 1) hx hb dX7_masksBefore_19 (by decide +kernel) ?_
      refine W.eq (g2 := F0 m 20 ls [.int 1, .int (p_a >>> (k_k &&& 31))]) rfl ?_
      refine lv_iand hx hb dX7_masksBefore_20 ?_
      refine lv_if_eq (tgt := 40) hx hb dX7_masksBefore_21 (by decide +kernel) (fun c_5 => ?_) (fun c_5 => ?_)
      ·
        have i_5 : ((p_a >>> (k_k &&& 31)) &&& 1).toInt = 0 := g5_eq (a := ((p_a >>> (k_k &&& 31)) &&& 1).toInt) (b := 0) rfl (by decide +kernel) c_5
        refine lv_iinc (v := (k_k + 1)) (lv' := [(3, .int (k_k + 1)), (2, .int k_b), (0, .int p_s), (1, .int p_a)]) hx hb dX7_masksBefore_40 hl (k := 1) rfl rfl (by decide +kernel) rfl ?_
        clear hl
        intro ls hl
        have t_6 : (k_k + 1).toInt = k_k.toInt + 1 := g5_iadd (a := k_k.toInt) (b := 1) rfl (by decide +kernel) (by omega) (by omega)
        refine lv_goto (tgt := 4) hx hb dX7_masksBefore_43 (by decide +kernel) ?_
        exact ih_4_2 ((k_k + 1), k_b) ls H locs (show Int.toNat (5 - (k_k + 1).toInt) < Int.toNat (5 - k_k.toInt) from g_up (show k_k.toInt < (k_k + 1).toInt by omega) (show k_k.toInt < 5 by omega)) ⟨lv_sub hl [1, 0, 2, 3] rfl, hP, hD, hS, ⟨by omega, by omega⟩⟩
      ·
        have n_5 : gNe (((p_a >>> (k_k &&& 31)) &&& 1).toInt) (0) := g5_eqN (a := ((p_a >>> (k_k &&& 31)) &&& 1).toInt) (b := 0) rfl (by decide +kernel) c_5
        refine lv_iload_n hx hb dX7_masksBefore_24 rfl (lv_at hl 0 rfl) ?_
        obtain ⟨tH, tL, tK, tV, tF, hZH, hTH, hZL, hTL, -⟩ := id hT
        refine va_getsN hx hb hZH hS hown (hN.1 _ g5_nw_X7_114) (fun _ h9 => h9) dX7_masksBefore_25 ?_
        refine lv_iload_n hx hb dX7_masksBefore_28 rfl (lv_at hl 1 rfl) ?_
        refine va_ti hx hb hTH hS (i := k_k) (vp_in_iff.mpr ⟨by omega, by omega⟩) (v := .int (g_hav k_k.toNatClampNeg)) (g_hav_eq _) dX7_masksBefore_29 ?_
        refine W.eq (g2 := F0 m 30 ls [.int (g_hav k_k.toNatClampNeg), .int k_b]) rfl ?_
        refine lv_iand hx hb dX7_masksBefore_30 ?_
        refine lv_istore_n (lv' := [(2, .int (k_b &&& (g_hav k_k.toNatClampNeg))), (3, .int k_k), (0, .int p_s), (1, .int p_a)]) hx hb dX7_masksBefore_31 rfl hl (by decide +kernel) rfl ?_
        clear hl
        intro ls hl
        refine lv_iload_n hx hb dX7_masksBefore_32 rfl (lv_at hl 0 rfl) ?_
        refine lv_iload_n hx hb dX7_masksBefore_33 rfl (lv_at hl 0 rfl) ?_
        refine lv_iconst (v := 1) hx hb dX7_masksBefore_34 (by decide +kernel) ?_
        refine W.eq (g2 := F0 m 35 ls [.int 1, .int (k_b &&& (g_hav k_k.toNatClampNeg)), .int (k_b &&& (g_hav k_k.toNatClampNeg))]) rfl ?_
        refine lv_iload_n hx hb dX7_masksBefore_35 rfl (lv_at hl 1 rfl) ?_
        refine lv_ishl hx hb dX7_masksBefore_36 ?_
        refine lv_iushr (v := (((k_b &&& (g_hav k_k.toNatClampNeg)).toUInt32 >>> ((1 <<< (k_k &&& 31)).toUInt32 &&& Int32.toUInt32 31)).toInt32)) hx hb dX7_masksBefore_37 rfl ?_
        refine lv_ior hx hb dX7_masksBefore_38 ?_
        refine lv_istore_n (lv' := [(2, .int ((k_b &&& (g_hav k_k.toNatClampNeg)) ||| (((k_b &&& (g_hav k_k.toNatClampNeg)).toUInt32 >>> ((1 <<< (k_k &&& 31)).toUInt32 &&& Int32.toUInt32 31)).toInt32))), (3, .int k_k), (0, .int p_s), (1, .int p_a)]) hx hb dX7_masksBefore_39 rfl hl (by decide +kernel) rfl ?_
        clear hl
        intro ls hl
        refine W.eq (g2 := F0 m 40 ls []) rfl ?_
        refine lv_iinc (v := (k_k + 1)) (lv' := [(3, .int (k_k + 1)), (2, .int ((k_b &&& (g_hav k_k.toNatClampNeg)) ||| (((k_b &&& (g_hav k_k.toNatClampNeg)).toUInt32 >>> ((1 <<< (k_k &&& 31)).toUInt32 &&& Int32.toUInt32 31)).toInt32))), (0, .int p_s), (1, .int p_a)]) hx hb dX7_masksBefore_40 hl (k := 1) rfl rfl (by decide +kernel) rfl ?_
        clear hl
        intro ls hl
        have t_7 : (k_k + 1).toInt = k_k.toInt + 1 := g5_iadd (a := k_k.toInt) (b := 1) rfl (by decide +kernel) (by omega) (by omega)
        refine lv_goto (tgt := 4) hx hb dX7_masksBefore_43 (by decide +kernel) ?_
        exact ih_4_2 ((k_k + 1), ((k_b &&& (g_hav k_k.toNatClampNeg)) ||| (((k_b &&& (g_hav k_k.toNatClampNeg)).toUInt32 >>> ((1 <<< (k_k &&& 31)).toUInt32 &&& Int32.toUInt32 31)).toInt32))) ls H locs (show Int.toNat (5 - (k_k + 1).toInt) < Int.toNat (5 - k_k.toInt) from g_up (show k_k.toInt < (k_k + 1).toInt by omega) (show k_k.toInt < 5 by omega)) ⟨lv_sub hl [1, 0, 2, 3] rfl, hP, hD, hS, ⟨by omega, by omega⟩⟩
theorem dgX7_masksAfter_0 : ∀ r ∈ ([(0, (.iload_n 0, 1)), (1, (.istore_n 2, 1)), (2, (.iconst 0, 1)), (3, (.istore_n 3, 1)), (4, (.iload_n 3, 1)), (5, (.getstatic 114, 3)), (8, (.arraylength, 1)), (9, (.if_icmp .ge 43, 3)), (12, (.iload_n 1, 1)), (13, (.ifCond .eq 39, 3)), (16, (.iload_n 1, 1)), (17, (.iload_n 3, 1)), (18, (.ishr, 1)), (19, (.iconst 1, 1)), (20, (.iand, 1)), (21, (.ifCond .eq 25, 3)), (24, (.iload_n 2, 1)), (25, (.getstatic 114, 3)), (28, (.iload_n 3, 1)), (29, (.iaload, 1)), (30, (.iand, 1)), (31, (.iload_n 2, 1)), (32, (.getstatic 114, 3)), (35, (.iload_n 3, 1)), (36, (.iaload, 1)), (37, (.iconst (-1), 1)), (38, (.ixor, 1)), (39, (.iand, 1)), (40, (.iconst 1, 1)), (41, (.iload_n 3, 1)), (42, (.ishl, 1)), (43, (.ishl, 1)), (44, (.ior, 1)), (45, (.istore_n 2, 1)), (46, (.iinc 3 1, 3)), (49, (.goto (-45), 3)), (52, (.iload_n 2, 1)), (53, (.ireturn, 1))] : List (Nat × (Instr × Nat))), decode cX7_masksAfter r.1 = .ok r.2 := by decide +kernel
theorem dX7_masksAfter_0 : decode cX7_masksAfter 0 = .ok (.iload_n 0, 1) := dgX7_masksAfter_0 (0, (.iload_n 0, 1)) (List.mem_of_getElem? (i := 0) rfl)
theorem dX7_masksAfter_1 : decode cX7_masksAfter 1 = .ok (.istore_n 2, 1) := dgX7_masksAfter_0 (1, (.istore_n 2, 1)) (List.mem_of_getElem? (i := 1) rfl)
theorem dX7_masksAfter_2 : decode cX7_masksAfter 2 = .ok (.iconst 0, 1) := dgX7_masksAfter_0 (2, (.iconst 0, 1)) (List.mem_of_getElem? (i := 2) rfl)
theorem dX7_masksAfter_3 : decode cX7_masksAfter 3 = .ok (.istore_n 3, 1) := dgX7_masksAfter_0 (3, (.istore_n 3, 1)) (List.mem_of_getElem? (i := 3) rfl)
theorem dX7_masksAfter_4 : decode cX7_masksAfter 4 = .ok (.iload_n 3, 1) := dgX7_masksAfter_0 (4, (.iload_n 3, 1)) (List.mem_of_getElem? (i := 4) rfl)
theorem dX7_masksAfter_5 : decode cX7_masksAfter 5 = .ok (.getstatic 114, 3) := dgX7_masksAfter_0 (5, (.getstatic 114, 3)) (List.mem_of_getElem? (i := 5) rfl)
theorem dX7_masksAfter_8 : decode cX7_masksAfter 8 = .ok (.arraylength, 1) := dgX7_masksAfter_0 (8, (.arraylength, 1)) (List.mem_of_getElem? (i := 6) rfl)
theorem dX7_masksAfter_9 : decode cX7_masksAfter 9 = .ok (.if_icmp .ge 43, 3) := dgX7_masksAfter_0 (9, (.if_icmp .ge 43, 3)) (List.mem_of_getElem? (i := 7) rfl)
theorem dX7_masksAfter_12 : decode cX7_masksAfter 12 = .ok (.iload_n 1, 1) := dgX7_masksAfter_0 (12, (.iload_n 1, 1)) (List.mem_of_getElem? (i := 8) rfl)
theorem dX7_masksAfter_13 : decode cX7_masksAfter 13 = .ok (.ifCond .eq 39, 3) := dgX7_masksAfter_0 (13, (.ifCond .eq 39, 3)) (List.mem_of_getElem? (i := 9) rfl)
theorem dX7_masksAfter_16 : decode cX7_masksAfter 16 = .ok (.iload_n 1, 1) := dgX7_masksAfter_0 (16, (.iload_n 1, 1)) (List.mem_of_getElem? (i := 10) rfl)
theorem dX7_masksAfter_17 : decode cX7_masksAfter 17 = .ok (.iload_n 3, 1) := dgX7_masksAfter_0 (17, (.iload_n 3, 1)) (List.mem_of_getElem? (i := 11) rfl)
theorem dX7_masksAfter_18 : decode cX7_masksAfter 18 = .ok (.ishr, 1) := dgX7_masksAfter_0 (18, (.ishr, 1)) (List.mem_of_getElem? (i := 12) rfl)
theorem dX7_masksAfter_19 : decode cX7_masksAfter 19 = .ok (.iconst 1, 1) := dgX7_masksAfter_0 (19, (.iconst 1, 1)) (List.mem_of_getElem? (i := 13) rfl)
theorem dX7_masksAfter_20 : decode cX7_masksAfter 20 = .ok (.iand, 1) := dgX7_masksAfter_0 (20, (.iand, 1)) (List.mem_of_getElem? (i := 14) rfl)
theorem dX7_masksAfter_21 : decode cX7_masksAfter 21 = .ok (.ifCond .eq 25, 3) := dgX7_masksAfter_0 (21, (.ifCond .eq 25, 3)) (List.mem_of_getElem? (i := 15) rfl)
theorem dX7_masksAfter_24 : decode cX7_masksAfter 24 = .ok (.iload_n 2, 1) := dgX7_masksAfter_0 (24, (.iload_n 2, 1)) (List.mem_of_getElem? (i := 16) rfl)
theorem dX7_masksAfter_25 : decode cX7_masksAfter 25 = .ok (.getstatic 114, 3) := dgX7_masksAfter_0 (25, (.getstatic 114, 3)) (List.mem_of_getElem? (i := 17) rfl)
theorem dX7_masksAfter_28 : decode cX7_masksAfter 28 = .ok (.iload_n 3, 1) := dgX7_masksAfter_0 (28, (.iload_n 3, 1)) (List.mem_of_getElem? (i := 18) rfl)
theorem dX7_masksAfter_29 : decode cX7_masksAfter 29 = .ok (.iaload, 1) := dgX7_masksAfter_0 (29, (.iaload, 1)) (List.mem_of_getElem? (i := 19) rfl)
theorem dX7_masksAfter_30 : decode cX7_masksAfter 30 = .ok (.iand, 1) := dgX7_masksAfter_0 (30, (.iand, 1)) (List.mem_of_getElem? (i := 20) rfl)
theorem dX7_masksAfter_31 : decode cX7_masksAfter 31 = .ok (.iload_n 2, 1) := dgX7_masksAfter_0 (31, (.iload_n 2, 1)) (List.mem_of_getElem? (i := 21) rfl)
theorem dX7_masksAfter_32 : decode cX7_masksAfter 32 = .ok (.getstatic 114, 3) := dgX7_masksAfter_0 (32, (.getstatic 114, 3)) (List.mem_of_getElem? (i := 22) rfl)
theorem dX7_masksAfter_35 : decode cX7_masksAfter 35 = .ok (.iload_n 3, 1) := dgX7_masksAfter_0 (35, (.iload_n 3, 1)) (List.mem_of_getElem? (i := 23) rfl)
theorem dX7_masksAfter_36 : decode cX7_masksAfter 36 = .ok (.iaload, 1) := dgX7_masksAfter_0 (36, (.iaload, 1)) (List.mem_of_getElem? (i := 24) rfl)
theorem dX7_masksAfter_37 : decode cX7_masksAfter 37 = .ok (.iconst (-1), 1) := dgX7_masksAfter_0 (37, (.iconst (-1), 1)) (List.mem_of_getElem? (i := 25) rfl)
theorem dX7_masksAfter_38 : decode cX7_masksAfter 38 = .ok (.ixor, 1) := dgX7_masksAfter_0 (38, (.ixor, 1)) (List.mem_of_getElem? (i := 26) rfl)
theorem dX7_masksAfter_39 : decode cX7_masksAfter 39 = .ok (.iand, 1) := dgX7_masksAfter_0 (39, (.iand, 1)) (List.mem_of_getElem? (i := 27) rfl)
theorem dX7_masksAfter_40 : decode cX7_masksAfter 40 = .ok (.iconst 1, 1) := dgX7_masksAfter_0 (40, (.iconst 1, 1)) (List.mem_of_getElem? (i := 28) rfl)
theorem dX7_masksAfter_41 : decode cX7_masksAfter 41 = .ok (.iload_n 3, 1) := dgX7_masksAfter_0 (41, (.iload_n 3, 1)) (List.mem_of_getElem? (i := 29) rfl)
theorem dX7_masksAfter_42 : decode cX7_masksAfter 42 = .ok (.ishl, 1) := dgX7_masksAfter_0 (42, (.ishl, 1)) (List.mem_of_getElem? (i := 30) rfl)
theorem dX7_masksAfter_43 : decode cX7_masksAfter 43 = .ok (.ishl, 1) := dgX7_masksAfter_0 (43, (.ishl, 1)) (List.mem_of_getElem? (i := 31) rfl)
theorem dX7_masksAfter_44 : decode cX7_masksAfter 44 = .ok (.ior, 1) := dgX7_masksAfter_0 (44, (.ior, 1)) (List.mem_of_getElem? (i := 32) rfl)
theorem dX7_masksAfter_45 : decode cX7_masksAfter 45 = .ok (.istore_n 2, 1) := dgX7_masksAfter_0 (45, (.istore_n 2, 1)) (List.mem_of_getElem? (i := 33) rfl)
theorem dX7_masksAfter_46 : decode cX7_masksAfter 46 = .ok (.iinc 3 1, 3) := dgX7_masksAfter_0 (46, (.iinc 3 1, 3)) (List.mem_of_getElem? (i := 34) rfl)
theorem dX7_masksAfter_49 : decode cX7_masksAfter 49 = .ok (.goto (-45), 3) := dgX7_masksAfter_0 (49, (.goto (-45), 3)) (List.mem_of_getElem? (i := 35) rfl)
theorem dX7_masksAfter_52 : decode cX7_masksAfter 52 = .ok (.iload_n 2, 1) := dgX7_masksAfter_0 (52, (.iload_n 2, 1)) (List.mem_of_getElem? (i := 36) rfl)
theorem dX7_masksAfter_53 : decode cX7_masksAfter 53 = .ok (.ireturn, 1) := dgX7_masksAfter_0 (53, (.ireturn, 1)) (List.mem_of_getElem? (i := 37) rfl)
set_option maxHeartbeats 4000000 in
set_option maxRecDepth 100000 in
theorem th_masksAfter (l : Launch) (G : g5_G) (sz : Nat) (p_s : Int32) (p_a : Int32) : Met l yX7_masksAfter (wsG yX7_masksAfter cX7_masksAfter 4 (some .int)) ({ frames := 0, cells := 0, slots := 0, locals := 0 }) (va_Pc [.int p_s, .int p_a] (g5_P G [] sz)) (va_Qi (fun (r : Int32) (u : va_W) => (∃ (o_r : Int32), (r = o_r) ∧ (u = []))) (g5_B G (va_A [] sz)) (va_A [] sz)) 0 0 (va_A [] sz) := by
  refine Met.ofW (cc := cX7_masksAfter) (maxL := 4) (ret := (some .int)) (by decide +kernel) rfl ?_
  intro p e s m args below meth c s₁ B hml hv
  obtain ⟨rfl, hsz, hP, hK, hD0, hN, hT⟩ := hv
  have hx := B.exec
  have hb := B.bytes
  have hr := B.returns
  have hts : ∀ w ∈ tblG, w.before _ s = true := fun w h => atoms_spec (ws := (wsG yX7_masksAfter cX7_masksAfter 4 (some .int))) B.pre w (List.mem_cons_of_mem _ h)
  have hown : s.vm.findClass RX7 = some m.cls := findClass_of_methodNamed B.named
  have hlocks := B.notSynchronized
  subst hsz
  have hD := hD0.self (sz := s.heap.size)
  generalize hAe : va_A [] s.heap.size = A at hD hT ⊢
  have hA : ∀ q : Nat, s.heap.size ≤ q → A q := fun q h => by rw [← hAe]; exact Or.inr h
  have hS : va_S A s.heap s.heap [] := va_S.rf
  replace hP : va_P G.1 vwCl [] s.heap := hP
  have hl := lv_entry ([.int p_s, .int p_a]) (n := 4) (Nat.le_of_ble_eq_true rfl)
  rw [lg_entry_eq]
  generalize (lg_sl ([.int p_s, .int p_a]) ++ List.replicate (4 - (lg_sl ([.int p_s, .int p_a])).length) Slot.unset).toArray = ls at hl ⊢
  replace hl : lv_has ls 4 [(0, .int p_s), (1, .int p_a)] := hl
  refine lv_iload_n hx hb dX7_masksAfter_0 rfl (lv_at hl 0 rfl) ?_
  refine lv_istore_n (lv' := [(2, .int p_s), (0, .int p_s), (1, .int p_a)]) hx hb dX7_masksAfter_1 rfl hl (by decide +kernel) rfl ?_
  clear hl
  intro ls hl
  refine lv_iconst (v := 0) hx hb dX7_masksAfter_2 (by decide +kernel) ?_
  refine lv_istore_n (lv' := [(3, .int 0), (2, .int p_s), (0, .int p_s), (1, .int p_a)]) hx hb dX7_masksAfter_3 rfl hl (by decide +kernel) rfl ?_
  clear hl
  intro ls hl
  refine g5_loop (α := (Int32) × (Int32)) (fun (q : (Int32) × (Int32)) (ls : Array Slot) (H : Heap) (locs : List Loc) => match q with | (k_k, k_b) => lv_has ls 4 [(2, .int k_b), (3, .int k_k), (0, .int p_s), (1, .int p_a)] ∧ va_P G.1 vwCl [] H ∧ va_D A [] ∧ va_S A s.heap H locs ∧ (0 ≤ k_k.toInt ∧ k_k.toInt ≤ 5)) (fun (q : (Int32) × (Int32)) => match q with | (k_k, k_b) => Int.toNat (5 - k_k.toInt)) (0, p_s) ⟨lv_sub hl [1, 0, 2, 3] rfl, hP, hD, hS, ⟨by decide, by decide⟩⟩ ?_
  rintro ⟨k_k, k_b⟩ ls H locs ⟨hl, hP, hD, hS, (i_1 : 0 ≤ k_k.toInt ∧ k_k.toInt ≤ 5)⟩ ih_4_2
  replace hl : lv_has ls 4 [(2, .int k_b), (3, .int k_k), (0, .int p_s), (1, .int p_a)] := hl
  refine g5_rs [] hP hD ?_
  clear hP hD
  intro hP hD
  refine lv_iload_n hx hb dX7_masksAfter_4 rfl (lv_at hl 1 rfl) ?_
  obtain ⟨tH, tL, tK, tV, tF, hZH, hTH, hZL, hTL, -⟩ := id hT
  refine va_getsN hx hb hZH hS hown (hN.1 _ g5_nw_X7_114) (fun _ h9 => h9) dX7_masksAfter_5 ?_
  refine va_tlen hx hb hTH hS (v := 5) (by decide +kernel) dX7_masksAfter_8 ?_
  refine lv_icmp_ge (tgt := 52) hx hb dX7_masksAfter_9 (by decide +kernel) (fun c_3 => ?_) (fun c_3 => ?_)
  ·
    have i_3 : k_k.toInt ≥ 5 := g5_ge (a := k_k.toInt) (b := 5) rfl (by decide +kernel) c_3
    refine lv_iload_n hx hb dX7_masksAfter_52 rfl (lv_at hl 0 rfl) ?_
    exact W.iret (v := k_b) hx hb hr (fun t ht hW => ⟨⟨k_b, [], rfl, ⟨k_b, rfl, rfl⟩, by rw [ht]; exact hP.sub [] rfl, hD.sub [] (by decide +kernel) rfl⟩, hS.F ht⟩) hS.2.2 dX7_masksAfter_53
  ·
    have i_3 : k_k.toInt < 5 := g5_geN (a := k_k.toInt) (b := 5) rfl (by decide +kernel) c_3
    refine lv_iload_n hx hb dX7_masksAfter_12 rfl (lv_at hl 3 rfl) ?_
    refine lv_if_eq (tgt := 52) hx hb dX7_masksAfter_13 (by decide +kernel) (fun c_4 => ?_) (fun c_4 => ?_)
    ·
      have i_4 : p_a.toInt = 0 := g5_eq (a := p_a.toInt) (b := 0) rfl (by decide +kernel) c_4
      refine lv_iload_n hx hb dX7_masksAfter_52 rfl (lv_at hl 0 rfl) ?_
      exact W.iret (v := k_b) hx hb hr (fun t ht hW => ⟨⟨k_b, [], rfl, ⟨k_b, rfl, rfl⟩, by rw [ht]; exact hP.sub [] rfl, hD.sub [] (by decide +kernel) rfl⟩, hS.F ht⟩) hS.2.2 dX7_masksAfter_53
    ·
      have n_4 : gNe (p_a.toInt) (0) := g5_eqN (a := p_a.toInt) (b := 0) rfl (by decide +kernel) c_4
      refine lv_iload_n hx hb dX7_masksAfter_16 rfl (lv_at hl 3 rfl) ?_
      refine lv_iload_n hx hb dX7_masksAfter_17 rfl (lv_at hl 1 rfl) ?_
      refine lv_ishr hx hb dX7_masksAfter_18 ?_
      refine lv_iconst (v := 1) hx hb dX7_masksAfter_19 (by decide +kernel) ?_
      refine W.eq (g2 := F0 m 20 ls [.int 1, .int (p_a >>> (k_k &&& 31))]) rfl ?_
      refine lv_iand hx hb dX7_masksAfter_20 ?_
      refine lv_if_eq (tgt := 46) hx hb dX7_masksAfter_21 (by decide +kernel) (fun c_5 => ?_) (fun c_5 => ?_)
      ·
        have i_5 : ((p_a >>> (k_k &&& 31)) &&& 1).toInt = 0 := g5_eq (a := ((p_a >>> (k_k &&& 31)) &&& 1).toInt) (b := 0) rfl (by decide +kernel) c_5
        refine lv_iinc (v := (k_k + 1)) (lv' := [(3, .int (k_k + 1)), (2, .int k_b), (0, .int p_s), (1, .int p_a)]) hx hb dX7_masksAfter_46 hl (k := 1) rfl rfl (by decide +kernel) rfl ?_
        clear hl
        intro ls hl
        have t_6 : (k_k + 1).toInt = k_k.toInt + 1 := g5_iadd (a := k_k.toInt) (b := 1) rfl (by decide +kernel) (by omega) (by omega)
        refine lv_goto (tgt := 4) hx hb dX7_masksAfter_49 (by decide +kernel) ?_
        exact ih_4_2 ((k_k + 1), k_b) ls H locs (show Int.toNat (5 - (k_k + 1).toInt) < Int.toNat (5 - k_k.toInt) from g_up (show k_k.toInt < (k_k + 1).toInt by omega) (show k_k.toInt < 5 by omega)) ⟨lv_sub hl [1, 0, 2, 3] rfl, hP, hD, hS, ⟨by omega, by omega⟩⟩
      ·
        have n_5 : gNe (((p_a >>> (k_k &&& 31)) &&& 1).toInt) (0) := g5_eqN (a := ((p_a >>> (k_k &&& 31)) &&& 1).toInt) (b := 0) rfl (by decide +kernel) c_5
        refine lv_iload_n hx hb dX7_masksAfter_24 rfl (lv_at hl 0 rfl) ?_
        obtain ⟨tH, tL, tK, tV, tF, hZH, hTH, hZL, hTL, -⟩ := id hT
        refine va_getsN hx hb hZH hS hown (hN.1 _ g5_nw_X7_114) (fun _ h9 => h9) dX7_masksAfter_25 ?_
        refine lv_iload_n hx hb dX7_masksAfter_28 rfl (lv_at hl 1 rfl) ?_
        refine va_ti hx hb hTH hS (i := k_k) (vp_in_iff.mpr ⟨by omega, by omega⟩) (v := .int (g_hav k_k.toNatClampNeg)) (g_hav_eq _) dX7_masksAfter_29 ?_
        refine W.eq (g2 := F0 m 30 ls [.int (g_hav k_k.toNatClampNeg), .int k_b]) rfl ?_
        refine lv_iand hx hb dX7_masksAfter_30 ?_
        refine lv_iload_n hx hb dX7_masksAfter_31 rfl (lv_at hl 0 rfl) ?_
        obtain ⟨tH, tL, tK, tV, tF, hZH, hTH, hZL, hTL, -⟩ := id hT
        refine va_getsN hx hb hZH hS hown (hN.1 _ g5_nw_X7_114) (fun _ h9 => h9) dX7_masksAfter_32 ?_
        refine lv_iload_n hx hb dX7_masksAfter_35 rfl (lv_at hl 1 rfl) ?_
        refine va_ti hx hb hTH hS (i := k_k) (vp_in_iff.mpr ⟨by omega, by omega⟩) (v := .int (g_hav k_k.toNatClampNeg)) (g_hav_eq _) dX7_masksAfter_36 ?_
        refine W.eq (g2 := F0 m 37 ls [.int (g_hav k_k.toNatClampNeg), .int k_b, .int (k_b &&& (g_hav k_k.toNatClampNeg))]) rfl ?_
        refine lv_iconst (v := (-1)) hx hb dX7_masksAfter_37 (by decide +kernel) ?_
        refine lv_ixor hx hb dX7_masksAfter_38 ?_
        refine lv_iand hx hb dX7_masksAfter_39 ?_
        refine lv_iconst (v := 1) hx hb dX7_masksAfter_40 (by decide +kernel) ?_
        refine lv_iload_n hx hb dX7_masksAfter_41 rfl (lv_at hl 1 rfl) ?_
        refine W.eq (g2 := F0 m 42 ls [.int k_k, .int 1, .int (k_b &&& ((g_hav k_k.toNatClampNeg) ^^^ (-1))), .int (k_b &&& (g_hav k_k.toNatClampNeg))]) rfl ?_
        refine lv_ishl hx hb dX7_masksAfter_42 ?_
        refine lv_ishl hx hb dX7_masksAfter_43 ?_
        refine lv_ior hx hb dX7_masksAfter_44 ?_
        refine lv_istore_n (lv' := [(2, .int ((k_b &&& (g_hav k_k.toNatClampNeg)) ||| ((k_b &&& ((g_hav k_k.toNatClampNeg) ^^^ (-1))) <<< ((1 <<< (k_k &&& 31)) &&& 31)))), (3, .int k_k), (0, .int p_s), (1, .int p_a)]) hx hb dX7_masksAfter_45 rfl hl (by decide +kernel) rfl ?_
        clear hl
        intro ls hl
        refine lv_iinc (v := (k_k + 1)) (lv' := [(3, .int (k_k + 1)), (2, .int ((k_b &&& (g_hav k_k.toNatClampNeg)) ||| ((k_b &&& ((g_hav k_k.toNatClampNeg) ^^^ (-1))) <<< ((1 <<< (k_k &&& 31)) &&& 31)))), (0, .int p_s), (1, .int p_a)]) hx hb dX7_masksAfter_46 hl (k := 1) rfl rfl (by decide +kernel) rfl ?_
        clear hl
        intro ls hl
        have t_7 : (k_k + 1).toInt = k_k.toInt + 1 := g5_iadd (a := k_k.toInt) (b := 1) rfl (by decide +kernel) (by omega) (by omega)
        refine W.eq (g2 := F0 m 49 ls []) rfl ?_
        refine lv_goto (tgt := 4) hx hb dX7_masksAfter_49 (by decide +kernel) ?_
        exact ih_4_2 ((k_k + 1), ((k_b &&& (g_hav k_k.toNatClampNeg)) ||| ((k_b &&& ((g_hav k_k.toNatClampNeg) ^^^ (-1))) <<< ((1 <<< (k_k &&& 31)) &&& 31)))) ls H locs (show Int.toNat (5 - (k_k + 1).toInt) < Int.toNat (5 - k_k.toInt) from g_up (show k_k.toInt < (k_k + 1).toInt by omega) (show k_k.toInt < 5 by omega)) ⟨lv_sub hl [1, 0, 2, 3] rfl, hP, hD, hS, ⟨by omega, by omega⟩⟩
theorem dgX7_hopesBehind_0 : ∀ r ∈ ([(0, (.iload_n 1, 1)), (1, (.bipush 23, 2)), (3, (.if_icmp .ne 10, 3)), (6, (.iconst 1, 1)), (7, (.aload_n 0, 1)), (8, (.getfield 89, 3)), (11, (.ishl, 1)), (12, (.ireturn, 1)), (13, (.iconst 0, 1)), (14, (.istore_n 3, 1)), (15, (.iconst 0, 1)), (16, (.istore 4, 2)), (18, (.iload 4, 2)), (20, (.iconst 4, 1)), (21, (.if_icmp .gt 44, 3)), (24, (.iload_n 2, 1)), (25, (.iload 4, 2)), (27, (.invokestatic 105, 3)), (30, (.istore 5, 2)), (32, (.iload_n 3, 1)), (33, (.iload 5, 2)), (35, (.iconst (-1), 1)), (36, (.if_icmp .ne 7, 3)), (39, (.iconst 0, 1)), (40, (.goto 17, 3)), (43, (.aload_n 0, 1)), (44, (.getfield 25, 3)), (47, (.iload_n 1, 1)), (48, (.iconst 1, 1)), (49, (.iadd, 1)), (50, (.bipush 64, 2)), (52, (.imul, 1)), (53, (.iload 5, 2)), (55, (.iadd, 1)), (56, (.iaload, 1)), (57, (.ior, 1)), (58, (.istore_n 3, 1)), (59, (.iinc 4 1, 3)), (62, (.goto (-44), 3)), (65, (.iload_n 3, 1))] : List (Nat × (Instr × Nat))), decode cX7_hopesBehind r.1 = .ok r.2 := by decide +kernel
theorem dX7_hopesBehind_0 : decode cX7_hopesBehind 0 = .ok (.iload_n 1, 1) := dgX7_hopesBehind_0 (0, (.iload_n 1, 1)) (List.mem_of_getElem? (i := 0) rfl)
theorem dX7_hopesBehind_1 : decode cX7_hopesBehind 1 = .ok (.bipush 23, 2) := dgX7_hopesBehind_0 (1, (.bipush 23, 2)) (List.mem_of_getElem? (i := 1) rfl)
theorem dX7_hopesBehind_3 : decode cX7_hopesBehind 3 = .ok (.if_icmp .ne 10, 3) := dgX7_hopesBehind_0 (3, (.if_icmp .ne 10, 3)) (List.mem_of_getElem? (i := 2) rfl)
theorem dX7_hopesBehind_6 : decode cX7_hopesBehind 6 = .ok (.iconst 1, 1) := dgX7_hopesBehind_0 (6, (.iconst 1, 1)) (List.mem_of_getElem? (i := 3) rfl)
theorem dX7_hopesBehind_7 : decode cX7_hopesBehind 7 = .ok (.aload_n 0, 1) := dgX7_hopesBehind_0 (7, (.aload_n 0, 1)) (List.mem_of_getElem? (i := 4) rfl)
theorem dX7_hopesBehind_8 : decode cX7_hopesBehind 8 = .ok (.getfield 89, 3) := dgX7_hopesBehind_0 (8, (.getfield 89, 3)) (List.mem_of_getElem? (i := 5) rfl)
theorem dX7_hopesBehind_11 : decode cX7_hopesBehind 11 = .ok (.ishl, 1) := dgX7_hopesBehind_0 (11, (.ishl, 1)) (List.mem_of_getElem? (i := 6) rfl)
theorem dX7_hopesBehind_12 : decode cX7_hopesBehind 12 = .ok (.ireturn, 1) := dgX7_hopesBehind_0 (12, (.ireturn, 1)) (List.mem_of_getElem? (i := 7) rfl)
theorem dX7_hopesBehind_13 : decode cX7_hopesBehind 13 = .ok (.iconst 0, 1) := dgX7_hopesBehind_0 (13, (.iconst 0, 1)) (List.mem_of_getElem? (i := 8) rfl)
theorem dX7_hopesBehind_14 : decode cX7_hopesBehind 14 = .ok (.istore_n 3, 1) := dgX7_hopesBehind_0 (14, (.istore_n 3, 1)) (List.mem_of_getElem? (i := 9) rfl)
theorem dX7_hopesBehind_15 : decode cX7_hopesBehind 15 = .ok (.iconst 0, 1) := dgX7_hopesBehind_0 (15, (.iconst 0, 1)) (List.mem_of_getElem? (i := 10) rfl)
theorem dX7_hopesBehind_16 : decode cX7_hopesBehind 16 = .ok (.istore 4, 2) := dgX7_hopesBehind_0 (16, (.istore 4, 2)) (List.mem_of_getElem? (i := 11) rfl)
theorem dX7_hopesBehind_18 : decode cX7_hopesBehind 18 = .ok (.iload 4, 2) := dgX7_hopesBehind_0 (18, (.iload 4, 2)) (List.mem_of_getElem? (i := 12) rfl)
theorem dX7_hopesBehind_20 : decode cX7_hopesBehind 20 = .ok (.iconst 4, 1) := dgX7_hopesBehind_0 (20, (.iconst 4, 1)) (List.mem_of_getElem? (i := 13) rfl)
theorem dX7_hopesBehind_21 : decode cX7_hopesBehind 21 = .ok (.if_icmp .gt 44, 3) := dgX7_hopesBehind_0 (21, (.if_icmp .gt 44, 3)) (List.mem_of_getElem? (i := 14) rfl)
theorem dX7_hopesBehind_24 : decode cX7_hopesBehind 24 = .ok (.iload_n 2, 1) := dgX7_hopesBehind_0 (24, (.iload_n 2, 1)) (List.mem_of_getElem? (i := 15) rfl)
theorem dX7_hopesBehind_25 : decode cX7_hopesBehind 25 = .ok (.iload 4, 2) := dgX7_hopesBehind_0 (25, (.iload 4, 2)) (List.mem_of_getElem? (i := 16) rfl)
theorem dX7_hopesBehind_27 : decode cX7_hopesBehind 27 = .ok (.invokestatic 105, 3) := dgX7_hopesBehind_0 (27, (.invokestatic 105, 3)) (List.mem_of_getElem? (i := 17) rfl)
theorem dX7_hopesBehind_30 : decode cX7_hopesBehind 30 = .ok (.istore 5, 2) := dgX7_hopesBehind_0 (30, (.istore 5, 2)) (List.mem_of_getElem? (i := 18) rfl)
theorem dX7_hopesBehind_32 : decode cX7_hopesBehind 32 = .ok (.iload_n 3, 1) := dgX7_hopesBehind_0 (32, (.iload_n 3, 1)) (List.mem_of_getElem? (i := 19) rfl)
theorem dX7_hopesBehind_33 : decode cX7_hopesBehind 33 = .ok (.iload 5, 2) := dgX7_hopesBehind_0 (33, (.iload 5, 2)) (List.mem_of_getElem? (i := 20) rfl)
theorem dX7_hopesBehind_35 : decode cX7_hopesBehind 35 = .ok (.iconst (-1), 1) := dgX7_hopesBehind_0 (35, (.iconst (-1), 1)) (List.mem_of_getElem? (i := 21) rfl)
theorem dX7_hopesBehind_36 : decode cX7_hopesBehind 36 = .ok (.if_icmp .ne 7, 3) := dgX7_hopesBehind_0 (36, (.if_icmp .ne 7, 3)) (List.mem_of_getElem? (i := 22) rfl)
theorem dX7_hopesBehind_39 : decode cX7_hopesBehind 39 = .ok (.iconst 0, 1) := dgX7_hopesBehind_0 (39, (.iconst 0, 1)) (List.mem_of_getElem? (i := 23) rfl)
theorem dX7_hopesBehind_40 : decode cX7_hopesBehind 40 = .ok (.goto 17, 3) := dgX7_hopesBehind_0 (40, (.goto 17, 3)) (List.mem_of_getElem? (i := 24) rfl)
theorem dX7_hopesBehind_43 : decode cX7_hopesBehind 43 = .ok (.aload_n 0, 1) := dgX7_hopesBehind_0 (43, (.aload_n 0, 1)) (List.mem_of_getElem? (i := 25) rfl)
theorem dX7_hopesBehind_44 : decode cX7_hopesBehind 44 = .ok (.getfield 25, 3) := dgX7_hopesBehind_0 (44, (.getfield 25, 3)) (List.mem_of_getElem? (i := 26) rfl)
theorem dX7_hopesBehind_47 : decode cX7_hopesBehind 47 = .ok (.iload_n 1, 1) := dgX7_hopesBehind_0 (47, (.iload_n 1, 1)) (List.mem_of_getElem? (i := 27) rfl)
theorem dX7_hopesBehind_48 : decode cX7_hopesBehind 48 = .ok (.iconst 1, 1) := dgX7_hopesBehind_0 (48, (.iconst 1, 1)) (List.mem_of_getElem? (i := 28) rfl)
theorem dX7_hopesBehind_49 : decode cX7_hopesBehind 49 = .ok (.iadd, 1) := dgX7_hopesBehind_0 (49, (.iadd, 1)) (List.mem_of_getElem? (i := 29) rfl)
theorem dX7_hopesBehind_50 : decode cX7_hopesBehind 50 = .ok (.bipush 64, 2) := dgX7_hopesBehind_0 (50, (.bipush 64, 2)) (List.mem_of_getElem? (i := 30) rfl)
theorem dX7_hopesBehind_52 : decode cX7_hopesBehind 52 = .ok (.imul, 1) := dgX7_hopesBehind_0 (52, (.imul, 1)) (List.mem_of_getElem? (i := 31) rfl)
theorem dX7_hopesBehind_53 : decode cX7_hopesBehind 53 = .ok (.iload 5, 2) := dgX7_hopesBehind_0 (53, (.iload 5, 2)) (List.mem_of_getElem? (i := 32) rfl)
theorem dX7_hopesBehind_55 : decode cX7_hopesBehind 55 = .ok (.iadd, 1) := dgX7_hopesBehind_0 (55, (.iadd, 1)) (List.mem_of_getElem? (i := 33) rfl)
theorem dX7_hopesBehind_56 : decode cX7_hopesBehind 56 = .ok (.iaload, 1) := dgX7_hopesBehind_0 (56, (.iaload, 1)) (List.mem_of_getElem? (i := 34) rfl)
theorem dX7_hopesBehind_57 : decode cX7_hopesBehind 57 = .ok (.ior, 1) := dgX7_hopesBehind_0 (57, (.ior, 1)) (List.mem_of_getElem? (i := 35) rfl)
theorem dX7_hopesBehind_58 : decode cX7_hopesBehind 58 = .ok (.istore_n 3, 1) := dgX7_hopesBehind_0 (58, (.istore_n 3, 1)) (List.mem_of_getElem? (i := 36) rfl)
theorem dX7_hopesBehind_59 : decode cX7_hopesBehind 59 = .ok (.iinc 4 1, 3) := dgX7_hopesBehind_0 (59, (.iinc 4 1, 3)) (List.mem_of_getElem? (i := 37) rfl)
theorem dX7_hopesBehind_62 : decode cX7_hopesBehind 62 = .ok (.goto (-44), 3) := dgX7_hopesBehind_0 (62, (.goto (-44), 3)) (List.mem_of_getElem? (i := 38) rfl)
theorem dX7_hopesBehind_65 : decode cX7_hopesBehind 65 = .ok (.iload_n 3, 1) := dgX7_hopesBehind_0 (65, (.iload_n 3, 1)) (List.mem_of_getElem? (i := 39) rfl)
theorem dgX7_hopesBehind_1 : ∀ r ∈ ([(66, (.ireturn, 1))] : List (Nat × (Instr × Nat))), decode cX7_hopesBehind r.1 = .ok r.2 := by decide +kernel
theorem dX7_hopesBehind_66 : decode cX7_hopesBehind 66 = .ok (.ireturn, 1) := dgX7_hopesBehind_1 (66, (.ireturn, 1)) (List.mem_of_getElem? (i := 0) rfl)
theorem fl_X7_25 : Cond.fieldLink RX7 25 "LateGlass$Thief" "hopes" "[I" ∈ tblG := tg 325 (by decide +kernel) (by decide +kernel)
theorem fl_X7_89 : Cond.fieldLink RX7 89 "LateGlass$Thief" "full" "I" ∈ tblG := tg 322 (by decide +kernel) (by decide +kernel)
set_option maxHeartbeats 4000000 in
set_option maxRecDepth 100000 in
theorem th_behind (l : Launch) (G : g5_G) (a_th a_hp a_h a_k a_ba a_ad a_cn a_nx a_hl a_lv : Nat) (sz : Nat) (e_fu : Int32) (p_h : Int32) (p_c : Int32) (f_hp : Nat → Int32) (h_p_h : 0 ≤ p_h.toInt ∧ p_h.toInt ≤ 23) (h_p_c : 0 ≤ p_c.toInt ∧ p_c.toInt ≤ 63) : Met l yX7_hopesBehind (wsG yX7_hopesBehind cX7_hopesBehind 6 (some .int)) ({ frames := 1, cells := 0, slots := 0, locals := 21 }) (va_Pc [.ref a_th, .int p_h, .int p_c] (g5_P G [(a_th, (oc7 a_h a_k a_ba a_ad e_fu a_cn a_nx a_hp a_hl a_lv)), (a_hp, (arI G 1536 f_hp))] sz)) (va_Qi (fun (r : Int32) (u : va_W) => (∃ (o_r : Int32), (r = o_r) ∧ (u = [(a_th, (oc7 a_h a_k a_ba a_ad e_fu a_cn a_nx a_hp a_hl a_lv)), (a_hp, (arI G 1536 f_hp))]))) (g5_B G (va_A [(a_th, (oc7 a_h a_k a_ba a_ad e_fu a_cn a_nx a_hp a_hl a_lv)), (a_hp, (arI G 1536 f_hp))] sz)) (va_A [(a_th, (oc7 a_h a_k a_ba a_ad e_fu a_cn a_nx a_hp a_hl a_lv)), (a_hp, (arI G 1536 f_hp))] sz)) 0 0 (va_A [(a_th, (oc7 a_h a_k a_ba a_ad e_fu a_cn a_nx a_hp a_hl a_lv)), (a_hp, (arI G 1536 f_hp))] sz) := by
  refine Met.ofW (cc := cX7_hopesBehind) (maxL := 6) (ret := (some .int)) (by decide +kernel) rfl ?_
  intro p e s m args below meth c s₁ B hml hv
  obtain ⟨rfl, hsz, hP, hK, hD0, hN, hT⟩ := hv
  have hx := B.exec
  have hb := B.bytes
  have hr := B.returns
  have hts : ∀ w ∈ tblG, w.before _ s = true := fun w h => atoms_spec (ws := (wsG yX7_hopesBehind cX7_hopesBehind 6 (some .int))) B.pre w (List.mem_cons_of_mem _ h)
  have hown : s.vm.findClass RX7 = some m.cls := findClass_of_methodNamed B.named
  have hlocks := B.notSynchronized
  subst hsz
  have hD := hD0.self (sz := s.heap.size)
  generalize hAe : va_A [(a_th, (oc7 a_h a_k a_ba a_ad e_fu a_cn a_nx a_hp a_hl a_lv)), (a_hp, (arI G 1536 f_hp))] s.heap.size = A at hD hT ⊢
  have hA : ∀ q : Nat, s.heap.size ≤ q → A q := fun q h => by rw [← hAe]; exact Or.inr h
  have hS : va_S A s.heap s.heap [] := va_S.rf
  replace hP : va_P G.1 vwCl [(a_th, (oc7 a_h a_k a_ba a_ad e_fu a_cn a_nx a_hp a_hl a_lv)), (a_hp, (arI G 1536 f_hp))] s.heap := hP
  have hl := lv_entry ([.ref a_th, .int p_h, .int p_c]) (n := 6) (Nat.le_of_ble_eq_true rfl)
  rw [lg_entry_eq]
  generalize (lg_sl ([.ref a_th, .int p_h, .int p_c]) ++ List.replicate (6 - (lg_sl ([.ref a_th, .int p_h, .int p_c])).length) Slot.unset).toArray = ls at hl ⊢
  replace hl : lv_has ls 6 [(0, .ref a_th), (1, .int p_h), (2, .int p_c)] := hl
  refine lv_iload_n hx hb dX7_hopesBehind_0 rfl (lv_at hl 1 rfl) ?_
  refine lv_bipush (v := 23) hx hb dX7_hopesBehind_1 (by decide +kernel) ?_
  refine lv_icmp_ne (tgt := 13) hx hb dX7_hopesBehind_3 (by decide +kernel) (fun c_1 => ?_) (fun c_1 => ?_)
  ·
    have n_1 : gNe (p_h.toInt) (23) := g5_ne (a := p_h.toInt) (b := 23) rfl (by decide +kernel) c_1
    have i_1 : p_h.toInt ≤ 22 := by have z := g5_ne (a := p_h.toInt) (b := 23) (by rfl) (by decide +kernel) c_1; omega
    refine lv_iconst (v := 0) hx hb dX7_hopesBehind_13 (by decide +kernel) ?_
    refine lv_istore_n (lv' := [(3, .int 0), (0, .ref a_th), (1, .int p_h), (2, .int p_c)]) hx hb dX7_hopesBehind_14 rfl hl (by decide +kernel) rfl ?_
    clear hl
    intro ls hl
    refine lv_iconst (v := 0) hx hb dX7_hopesBehind_15 (by decide +kernel) ?_
    refine lv_istore (lv' := [(4, .int 0), (3, .int 0), (0, .ref a_th), (1, .int p_h), (2, .int p_c)]) hx hb dX7_hopesBehind_16 hl (by decide +kernel) rfl ?_
    clear hl
    intro ls hl
    refine g5_loop (α := (Int32) × (Int32)) (fun (q : (Int32) × (Int32)) (ls : Array Slot) (H : Heap) (locs : List Loc) => match q with | (k_w, k_s) => lv_has ls 6 [(3, .int k_s), (4, .int k_w), (0, .ref a_th), (1, .int p_h), (2, .int p_c)] ∧ va_P G.1 vwCl [(a_th, (oc7 a_h a_k a_ba a_ad e_fu a_cn a_nx a_hp a_hl a_lv)), (a_hp, (arI G 1536 f_hp))] H ∧ va_D A [(a_th, (oc7 a_h a_k a_ba a_ad e_fu a_cn a_nx a_hp a_hl a_lv)), (a_hp, (arI G 1536 f_hp))] ∧ va_S A s.heap H locs ∧ (0 ≤ k_w.toInt ∧ k_w.toInt ≤ 5)) (fun (q : (Int32) × (Int32)) => match q with | (k_w, k_s) => Int.toNat (5 - k_w.toInt)) (0, 0) ⟨lv_sub hl [1, 0, 2, 3, 4] rfl, hP, hD, hS, ⟨by decide, by decide⟩⟩ ?_
    rintro ⟨k_w, k_s⟩ ls H locs ⟨hl, hP, hD, hS, (i_2 : 0 ≤ k_w.toInt ∧ k_w.toInt ≤ 5)⟩ ih_18_3
    replace hl : lv_has ls 6 [(3, .int k_s), (4, .int k_w), (0, .ref a_th), (1, .int p_h), (2, .int p_c)] := hl
    refine g5_rs [(a_th, (oc7 a_h a_k a_ba a_ad e_fu a_cn a_nx a_hp a_hl a_lv)), (a_hp, (arI G 1536 f_hp))] hP hD ?_
    clear hP hD
    intro hP hD
    refine lv_iload hx hb dX7_hopesBehind_18 (lv_at hl 1 rfl) ?_
    refine lv_iconst (v := 4) hx hb dX7_hopesBehind_20 (by decide +kernel) ?_
    refine lv_icmp_gt (tgt := 65) hx hb dX7_hopesBehind_21 (by decide +kernel) (fun c_4 => ?_) (fun c_4 => ?_)
    ·
      have i_4 : k_w.toInt > 4 := g5_gt (a := k_w.toInt) (b := 4) rfl (by decide +kernel) c_4
      refine lv_iload_n hx hb dX7_hopesBehind_65 rfl (lv_at hl 0 rfl) ?_
      exact W.iret (v := k_s) hx hb hr (fun t ht hW => ⟨⟨k_s, [(a_th, (oc7 a_h a_k a_ba a_ad e_fu a_cn a_nx a_hp a_hl a_lv)), (a_hp, (arI G 1536 f_hp))], rfl, ⟨k_s, rfl, rfl⟩, by rw [ht]; exact hP.sub [0, 1] rfl, hD.sub [0, 1] (by decide +kernel) rfl⟩, hS.F ht⟩) hS.2.2 dX7_hopesBehind_66
    ·
      have i_4 : k_w.toInt ≤ 4 := g5_gtN (a := k_w.toInt) (b := 4) rfl (by decide +kernel) c_4
      refine lv_iload_n hx hb dX7_hopesBehind_24 rfl (lv_at hl 4 rfl) ?_
      refine lv_iload hx hb dX7_hopesBehind_25 (lv_at hl 1 rfl) ?_
      obtain ⟨hPc, hDc, hFc⟩ := g5_sub3 (wc := []) hP hD hS hA [] (by decide +kernel) rfl
      refine va_calli (va_runSN (As := [.int p_c, .int k_w]) (rest := []) ⟨hx, hb, hml, hown, hts⟩ (k_beside l G H.size p_c k_w h_p_c) ⟨va_cnB 2 hts gW_X11_beside rfl rfl rfl (hN.1 _ g5_nw_X7_105) (hts _ ini_X11) hs_X11_beside ⟨Nat.le_of_ble_eq_true rfl, Nat.le_of_ble_eq_true rfl⟩, hts _ st_X11_beside, trivial⟩ (g5_preS hPc hK hDc hN hT hS hFc) rfl rfl hl.1 rfl (lv_room (Nat.le_of_ble_eq_true rfl)) dX7_hopesBehind_27 ⟨Nat.le_of_ble_eq_true rfl, Nat.le_of_ble_eq_true rfl⟩) hS (fun q _ h => hFc q h) hFc (fun r u t H locs ht hvm hw hB hz1 hk1 hS => ?_)
      obtain ⟨hP1, hD1⟩ := hB
      have hP1 := g5_ht ht hP1
      obtain ⟨z7, (i_5 : z7.toInt = bs p_c.toInt k_w.toInt), (i_6 : -1 ≤ z7.toInt ∧ z7.toInt ≤ 63), y8, rfl⟩ := hw
      have hJ9 := g5_same hP hk1
      clear hP hPc hDc hFc ht hvm hz1 hk1 hP1 hD1
      have hP := hJ9
      clear hJ9
      refine g5_ti (v := z7) y8 ?_
      refine lv_istore (lv' := [(5, .int z7), (3, .int k_s), (4, .int k_w), (0, .ref a_th), (1, .int p_h), (2, .int p_c)]) hx hb dX7_hopesBehind_30 hl (by decide +kernel) rfl ?_
      clear hl
      intro ls hl
      refine W.eq (g2 := F0 m 32 ls []) rfl ?_
      refine lv_iload_n hx hb dX7_hopesBehind_32 rfl (lv_at hl 1 rfl) ?_
      refine lv_iload hx hb dX7_hopesBehind_33 (lv_at hl 0 rfl) ?_
      refine lv_iconst (v := (-1)) hx hb dX7_hopesBehind_35 (by decide +kernel) ?_
      refine lv_icmp_ne (tgt := 43) hx hb dX7_hopesBehind_36 (by decide +kernel) (fun c_9 => ?_) (fun c_9 => ?_)
      ·
        have n_9 : gNe (z7.toInt) ((-1)) := g5_ne (a := z7.toInt) (b := (-1)) rfl (by decide +kernel) c_9
        have i_9 : z7.toInt ≥ 0 := by have z := g5_ne (a := z7.toInt) (b := (-1)) (by rfl) (by decide +kernel) c_9; omega
        refine lv_aload_n hx hb dX7_hopesBehind_43 rfl (lv_at hl 3 rfl) ?_
        refine va_get (D := G.1) (ci := 7) (v := .ref a_hp) (C := RX7) (T := TX7) (N := 10) hx hb hts inG_X7 hown hK hP 0 rfl rfl 7 (by decide +kernel) (hts _ fl_X7_25) (fun _ h9 => h9) rfl dX7_hopesBehind_44 ?_
        refine lv_iload_n hx hb dX7_hopesBehind_47 rfl (lv_at hl 4 rfl) ?_
        refine lv_iconst (v := 1) hx hb dX7_hopesBehind_48 (by decide +kernel) ?_
        refine W.eq (g2 := F0 m 49 ls [.int 1, .int p_h, .ref a_hp, .int k_s]) rfl ?_
        refine lv_iadd hx hb dX7_hopesBehind_49 ?_
        have t_10 : (p_h + 1).toInt = p_h.toInt + 1 := g5_iadd (a := p_h.toInt) (b := 1) (by rfl) (by decide +kernel) (by omega) (by omega)
        refine lv_bipush (v := 64) hx hb dX7_hopesBehind_50 (by decide +kernel) ?_
        refine lv_imul hx hb dX7_hopesBehind_52 ?_
        have t_11 : ((p_h + 1) * 64).toInt = (p_h + 1).toInt * 64 := g5_imul (a := (p_h + 1).toInt) (b := 64) (by rfl) (by decide +kernel) (by omega) (by omega)
        refine lv_iload hx hb dX7_hopesBehind_53 (lv_at hl 0 rfl) ?_
        refine lv_iadd hx hb dX7_hopesBehind_55 ?_
        have t_12 : (((p_h + 1) * 64) + z7).toInt = ((p_h + 1) * 64).toInt + z7.toInt := g5_iadd (a := ((p_h + 1) * 64).toInt) (b := z7.toInt) (by rfl) (by rfl) (by omega) (by omega)
        refine W.eq (g2 := F0 m 56 ls [.int (((p_h + 1) * 64) + z7), .ref a_hp, .int k_s]) rfl ?_
        refine va_iald hx hb hK hP 1 0 rfl rfl (i := (((p_h + 1) * 64) + z7)) (vp_in_iff.mpr ⟨by omega, by omega⟩) dX7_hopesBehind_56 ?_
        refine lv_ior hx hb dX7_hopesBehind_57 ?_
        refine lv_istore_n (lv' := [(3, .int (k_s ||| (f_hp (((p_h + 1) * 64) + z7).toNatClampNeg))), (5, .int z7), (4, .int k_w), (0, .ref a_th), (1, .int p_h), (2, .int p_c)]) hx hb dX7_hopesBehind_58 rfl hl (by decide +kernel) rfl ?_
        clear hl
        intro ls hl
        refine lv_iinc (v := (k_w + 1)) (lv' := [(4, .int (k_w + 1)), (3, .int (k_s ||| (f_hp (((p_h + 1) * 64) + z7).toNatClampNeg))), (5, .int z7), (0, .ref a_th), (1, .int p_h), (2, .int p_c)]) hx hb dX7_hopesBehind_59 hl (k := 2) rfl rfl (by decide +kernel) rfl ?_
        clear hl
        intro ls hl
        have t_13 : (k_w + 1).toInt = k_w.toInt + 1 := g5_iadd (a := k_w.toInt) (b := 1) rfl (by decide +kernel) (by omega) (by omega)
        refine lv_goto (tgt := 18) hx hb dX7_hopesBehind_62 (by decide +kernel) ?_
        exact ih_18_3 ((k_w + 1), (k_s ||| (f_hp (((p_h + 1) * 64) + z7).toNatClampNeg))) ls H locs (show Int.toNat (5 - (k_w + 1).toInt) < Int.toNat (5 - k_w.toInt) from g_up (show k_w.toInt < (k_w + 1).toInt by omega) (show k_w.toInt < 5 by omega)) ⟨lv_sub hl [1, 0, 3, 4, 5] rfl, hP, hD, hS, ⟨by omega, by omega⟩⟩
      ·
        have i_9 : z7.toInt = (-1) := g5_neN (a := z7.toInt) (b := (-1)) rfl (by decide +kernel) c_9
        refine lv_iconst (v := 0) hx hb dX7_hopesBehind_39 (by decide +kernel) ?_
        refine lv_goto (tgt := 57) hx hb dX7_hopesBehind_40 (by decide +kernel) ?_
        refine lv_ior hx hb dX7_hopesBehind_57 ?_
        refine g5_ti (v := k_s) (by simp) ?_
        refine lv_istore_n (lv' := [(3, .int k_s), (5, .int z7), (4, .int k_w), (0, .ref a_th), (1, .int p_h), (2, .int p_c)]) hx hb dX7_hopesBehind_58 rfl hl (by decide +kernel) rfl ?_
        clear hl
        intro ls hl
        refine W.eq (g2 := F0 m 59 ls []) rfl ?_
        refine lv_iinc (v := (k_w + 1)) (lv' := [(4, .int (k_w + 1)), (3, .int k_s), (5, .int z7), (0, .ref a_th), (1, .int p_h), (2, .int p_c)]) hx hb dX7_hopesBehind_59 hl (k := 2) rfl rfl (by decide +kernel) rfl ?_
        clear hl
        intro ls hl
        have t_14 : (k_w + 1).toInt = k_w.toInt + 1 := g5_iadd (a := k_w.toInt) (b := 1) rfl (by decide +kernel) (by omega) (by omega)
        refine lv_goto (tgt := 18) hx hb dX7_hopesBehind_62 (by decide +kernel) ?_
        exact ih_18_3 ((k_w + 1), k_s) ls H locs (show Int.toNat (5 - (k_w + 1).toInt) < Int.toNat (5 - k_w.toInt) from g_up (show k_w.toInt < (k_w + 1).toInt by omega) (show k_w.toInt < 5 by omega)) ⟨lv_sub hl [1, 0, 3, 4, 5] rfl, hP, hD, hS, ⟨by omega, by omega⟩⟩
  ·
    have i_1 : p_h.toInt = 23 := g5_neN (a := p_h.toInt) (b := 23) rfl (by decide +kernel) c_1
    refine lv_iconst (v := 1) hx hb dX7_hopesBehind_6 (by decide +kernel) ?_
    refine lv_aload_n hx hb dX7_hopesBehind_7 rfl (lv_at hl 0 rfl) ?_
    refine va_get (D := G.1) (ci := 7) (v := .int e_fu) (C := RX7) (T := TX7) (N := 10) hx hb hts inG_X7 hown hK hP 0 rfl rfl 4 (by decide +kernel) (hts _ fl_X7_89) (fun _ h9 => h9) rfl dX7_hopesBehind_8 ?_
    refine lv_ishl hx hb dX7_hopesBehind_11 ?_
    refine W.eq (g2 := F0 m 12 ls [.int (1 <<< (e_fu &&& 31))]) rfl ?_
    exact W.iret (v := (1 <<< (e_fu &&& 31))) hx hb hr (fun t ht hW => ⟨⟨(1 <<< (e_fu &&& 31)), [(a_th, (oc7 a_h a_k a_ba a_ad e_fu a_cn a_nx a_hp a_hl a_lv)), (a_hp, (arI G 1536 f_hp))], rfl, ⟨(1 <<< (e_fu &&& 31)), rfl, rfl⟩, by rw [ht]; exact hP.sub [0, 1] rfl, hD.sub [0, 1] (by decide +kernel) rfl⟩, hS.F ht⟩) hS.2.2 dX7_hopesBehind_12
theorem dgX7_anyFits_0 : ∀ r ∈ ([(0, (.bipush 23, 2)), (2, (.istore_n 1, 1)), (3, (.iload_n 1, 1)), (4, (.ifCond .lt 72, 3)), (7, (.iconst 0, 1)), (8, (.istore_n 2, 1)), (9, (.iload_n 2, 1)), (10, (.bipush 64, 2)), (12, (.if_icmp .ge 58, 3)), (15, (.iload_n 1, 1)), (16, (.bipush 64, 2)), (18, (.imul, 1)), (19, (.iload_n 2, 1)), (20, (.iadd, 1)), (21, (.istore_n 3, 1)), (22, (.aload_n 0, 1)), (23, (.getfield 9, 3)), (26, (.iload_n 1, 1)), (27, (.laload, 1)), (28, (.iload_n 2, 1)), (29, (.invokestatic 98, 3)), (32, (.ifCond .eq 7, 3)), (35, (.iconst 0, 1)), (36, (.goto 9, 3)), (39, (.aload_n 0, 1)), (40, (.iload_n 1, 1)), (41, (.iload_n 2, 1)), (42, (.invokevirtual 108, 3)), (45, (.istore 4, 2)), (47, (.aload_n 0, 1)), (48, (.getfield 25, 3)), (51, (.iload_n 3, 1)), (52, (.iload 4, 2)), (54, (.aload_n 0, 1)), (55, (.getfield 15, 3)), (58, (.iload_n 3, 1)), (59, (.iaload, 1)), (60, (.invokestatic 111, 3)), (63, (.iastore, 1)), (64, (.iinc 2 1, 3))] : List (Nat × (Instr × Nat))), decode cX7_anyFits r.1 = .ok r.2 := by decide +kernel
theorem dX7_anyFits_0 : decode cX7_anyFits 0 = .ok (.bipush 23, 2) := dgX7_anyFits_0 (0, (.bipush 23, 2)) (List.mem_of_getElem? (i := 0) rfl)
theorem dX7_anyFits_2 : decode cX7_anyFits 2 = .ok (.istore_n 1, 1) := dgX7_anyFits_0 (2, (.istore_n 1, 1)) (List.mem_of_getElem? (i := 1) rfl)
theorem dX7_anyFits_3 : decode cX7_anyFits 3 = .ok (.iload_n 1, 1) := dgX7_anyFits_0 (3, (.iload_n 1, 1)) (List.mem_of_getElem? (i := 2) rfl)
theorem dX7_anyFits_4 : decode cX7_anyFits 4 = .ok (.ifCond .lt 72, 3) := dgX7_anyFits_0 (4, (.ifCond .lt 72, 3)) (List.mem_of_getElem? (i := 3) rfl)
theorem dX7_anyFits_7 : decode cX7_anyFits 7 = .ok (.iconst 0, 1) := dgX7_anyFits_0 (7, (.iconst 0, 1)) (List.mem_of_getElem? (i := 4) rfl)
theorem dX7_anyFits_8 : decode cX7_anyFits 8 = .ok (.istore_n 2, 1) := dgX7_anyFits_0 (8, (.istore_n 2, 1)) (List.mem_of_getElem? (i := 5) rfl)
theorem dX7_anyFits_9 : decode cX7_anyFits 9 = .ok (.iload_n 2, 1) := dgX7_anyFits_0 (9, (.iload_n 2, 1)) (List.mem_of_getElem? (i := 6) rfl)
theorem dX7_anyFits_10 : decode cX7_anyFits 10 = .ok (.bipush 64, 2) := dgX7_anyFits_0 (10, (.bipush 64, 2)) (List.mem_of_getElem? (i := 7) rfl)
theorem dX7_anyFits_12 : decode cX7_anyFits 12 = .ok (.if_icmp .ge 58, 3) := dgX7_anyFits_0 (12, (.if_icmp .ge 58, 3)) (List.mem_of_getElem? (i := 8) rfl)
theorem dX7_anyFits_15 : decode cX7_anyFits 15 = .ok (.iload_n 1, 1) := dgX7_anyFits_0 (15, (.iload_n 1, 1)) (List.mem_of_getElem? (i := 9) rfl)
theorem dX7_anyFits_16 : decode cX7_anyFits 16 = .ok (.bipush 64, 2) := dgX7_anyFits_0 (16, (.bipush 64, 2)) (List.mem_of_getElem? (i := 10) rfl)
theorem dX7_anyFits_18 : decode cX7_anyFits 18 = .ok (.imul, 1) := dgX7_anyFits_0 (18, (.imul, 1)) (List.mem_of_getElem? (i := 11) rfl)
theorem dX7_anyFits_19 : decode cX7_anyFits 19 = .ok (.iload_n 2, 1) := dgX7_anyFits_0 (19, (.iload_n 2, 1)) (List.mem_of_getElem? (i := 12) rfl)
theorem dX7_anyFits_20 : decode cX7_anyFits 20 = .ok (.iadd, 1) := dgX7_anyFits_0 (20, (.iadd, 1)) (List.mem_of_getElem? (i := 13) rfl)
theorem dX7_anyFits_21 : decode cX7_anyFits 21 = .ok (.istore_n 3, 1) := dgX7_anyFits_0 (21, (.istore_n 3, 1)) (List.mem_of_getElem? (i := 14) rfl)
theorem dX7_anyFits_22 : decode cX7_anyFits 22 = .ok (.aload_n 0, 1) := dgX7_anyFits_0 (22, (.aload_n 0, 1)) (List.mem_of_getElem? (i := 15) rfl)
theorem dX7_anyFits_23 : decode cX7_anyFits 23 = .ok (.getfield 9, 3) := dgX7_anyFits_0 (23, (.getfield 9, 3)) (List.mem_of_getElem? (i := 16) rfl)
theorem dX7_anyFits_26 : decode cX7_anyFits 26 = .ok (.iload_n 1, 1) := dgX7_anyFits_0 (26, (.iload_n 1, 1)) (List.mem_of_getElem? (i := 17) rfl)
theorem dX7_anyFits_27 : decode cX7_anyFits 27 = .ok (.laload, 1) := dgX7_anyFits_0 (27, (.laload, 1)) (List.mem_of_getElem? (i := 18) rfl)
theorem dX7_anyFits_28 : decode cX7_anyFits 28 = .ok (.iload_n 2, 1) := dgX7_anyFits_0 (28, (.iload_n 2, 1)) (List.mem_of_getElem? (i := 19) rfl)
theorem dX7_anyFits_29 : decode cX7_anyFits 29 = .ok (.invokestatic 98, 3) := dgX7_anyFits_0 (29, (.invokestatic 98, 3)) (List.mem_of_getElem? (i := 20) rfl)
theorem dX7_anyFits_32 : decode cX7_anyFits 32 = .ok (.ifCond .eq 7, 3) := dgX7_anyFits_0 (32, (.ifCond .eq 7, 3)) (List.mem_of_getElem? (i := 21) rfl)
theorem dX7_anyFits_35 : decode cX7_anyFits 35 = .ok (.iconst 0, 1) := dgX7_anyFits_0 (35, (.iconst 0, 1)) (List.mem_of_getElem? (i := 22) rfl)
theorem dX7_anyFits_36 : decode cX7_anyFits 36 = .ok (.goto 9, 3) := dgX7_anyFits_0 (36, (.goto 9, 3)) (List.mem_of_getElem? (i := 23) rfl)
theorem dX7_anyFits_39 : decode cX7_anyFits 39 = .ok (.aload_n 0, 1) := dgX7_anyFits_0 (39, (.aload_n 0, 1)) (List.mem_of_getElem? (i := 24) rfl)
theorem dX7_anyFits_40 : decode cX7_anyFits 40 = .ok (.iload_n 1, 1) := dgX7_anyFits_0 (40, (.iload_n 1, 1)) (List.mem_of_getElem? (i := 25) rfl)
theorem dX7_anyFits_41 : decode cX7_anyFits 41 = .ok (.iload_n 2, 1) := dgX7_anyFits_0 (41, (.iload_n 2, 1)) (List.mem_of_getElem? (i := 26) rfl)
theorem dX7_anyFits_42 : decode cX7_anyFits 42 = .ok (.invokevirtual 108, 3) := dgX7_anyFits_0 (42, (.invokevirtual 108, 3)) (List.mem_of_getElem? (i := 27) rfl)
theorem dX7_anyFits_45 : decode cX7_anyFits 45 = .ok (.istore 4, 2) := dgX7_anyFits_0 (45, (.istore 4, 2)) (List.mem_of_getElem? (i := 28) rfl)
theorem dX7_anyFits_47 : decode cX7_anyFits 47 = .ok (.aload_n 0, 1) := dgX7_anyFits_0 (47, (.aload_n 0, 1)) (List.mem_of_getElem? (i := 29) rfl)
theorem dX7_anyFits_48 : decode cX7_anyFits 48 = .ok (.getfield 25, 3) := dgX7_anyFits_0 (48, (.getfield 25, 3)) (List.mem_of_getElem? (i := 30) rfl)
theorem dX7_anyFits_51 : decode cX7_anyFits 51 = .ok (.iload_n 3, 1) := dgX7_anyFits_0 (51, (.iload_n 3, 1)) (List.mem_of_getElem? (i := 31) rfl)
theorem dX7_anyFits_52 : decode cX7_anyFits 52 = .ok (.iload 4, 2) := dgX7_anyFits_0 (52, (.iload 4, 2)) (List.mem_of_getElem? (i := 32) rfl)
theorem dX7_anyFits_54 : decode cX7_anyFits 54 = .ok (.aload_n 0, 1) := dgX7_anyFits_0 (54, (.aload_n 0, 1)) (List.mem_of_getElem? (i := 33) rfl)
theorem dX7_anyFits_55 : decode cX7_anyFits 55 = .ok (.getfield 15, 3) := dgX7_anyFits_0 (55, (.getfield 15, 3)) (List.mem_of_getElem? (i := 34) rfl)
theorem dX7_anyFits_58 : decode cX7_anyFits 58 = .ok (.iload_n 3, 1) := dgX7_anyFits_0 (58, (.iload_n 3, 1)) (List.mem_of_getElem? (i := 35) rfl)
theorem dX7_anyFits_59 : decode cX7_anyFits 59 = .ok (.iaload, 1) := dgX7_anyFits_0 (59, (.iaload, 1)) (List.mem_of_getElem? (i := 36) rfl)
theorem dX7_anyFits_60 : decode cX7_anyFits 60 = .ok (.invokestatic 111, 3) := dgX7_anyFits_0 (60, (.invokestatic 111, 3)) (List.mem_of_getElem? (i := 37) rfl)
theorem dX7_anyFits_63 : decode cX7_anyFits 63 = .ok (.iastore, 1) := dgX7_anyFits_0 (63, (.iastore, 1)) (List.mem_of_getElem? (i := 38) rfl)
theorem dX7_anyFits_64 : decode cX7_anyFits 64 = .ok (.iinc 2 1, 3) := dgX7_anyFits_0 (64, (.iinc 2 1, 3)) (List.mem_of_getElem? (i := 39) rfl)
theorem dgX7_anyFits_1 : ∀ r ∈ ([(67, (.goto (-58), 3)), (70, (.iinc 1 (-1), 3)), (73, (.goto (-70), 3)), (76, (.iconst 0, 1)), (77, (.istore_n 1, 1)), (78, (.iload_n 1, 1)), (79, (.bipush 64, 2)), (81, (.if_icmp .ge 22, 3)), (84, (.aload_n 0, 1)), (85, (.getfield 25, 3)), (88, (.iload_n 1, 1)), (89, (.iaload, 1)), (90, (.iconst 1, 1)), (91, (.iand, 1)), (92, (.ifCond .eq 5, 3)), (95, (.iconst 1, 1)), (96, (.ireturn, 1)), (97, (.iinc 1 1, 3)), (100, (.goto (-22), 3)), (103, (.iconst 0, 1)), (104, (.ireturn, 1))] : List (Nat × (Instr × Nat))), decode cX7_anyFits r.1 = .ok r.2 := by decide +kernel
theorem dX7_anyFits_67 : decode cX7_anyFits 67 = .ok (.goto (-58), 3) := dgX7_anyFits_1 (67, (.goto (-58), 3)) (List.mem_of_getElem? (i := 0) rfl)
theorem dX7_anyFits_70 : decode cX7_anyFits 70 = .ok (.iinc 1 (-1), 3) := dgX7_anyFits_1 (70, (.iinc 1 (-1), 3)) (List.mem_of_getElem? (i := 1) rfl)
theorem dX7_anyFits_73 : decode cX7_anyFits 73 = .ok (.goto (-70), 3) := dgX7_anyFits_1 (73, (.goto (-70), 3)) (List.mem_of_getElem? (i := 2) rfl)
theorem dX7_anyFits_76 : decode cX7_anyFits 76 = .ok (.iconst 0, 1) := dgX7_anyFits_1 (76, (.iconst 0, 1)) (List.mem_of_getElem? (i := 3) rfl)
theorem dX7_anyFits_77 : decode cX7_anyFits 77 = .ok (.istore_n 1, 1) := dgX7_anyFits_1 (77, (.istore_n 1, 1)) (List.mem_of_getElem? (i := 4) rfl)
theorem dX7_anyFits_78 : decode cX7_anyFits 78 = .ok (.iload_n 1, 1) := dgX7_anyFits_1 (78, (.iload_n 1, 1)) (List.mem_of_getElem? (i := 5) rfl)
theorem dX7_anyFits_79 : decode cX7_anyFits 79 = .ok (.bipush 64, 2) := dgX7_anyFits_1 (79, (.bipush 64, 2)) (List.mem_of_getElem? (i := 6) rfl)
theorem dX7_anyFits_81 : decode cX7_anyFits 81 = .ok (.if_icmp .ge 22, 3) := dgX7_anyFits_1 (81, (.if_icmp .ge 22, 3)) (List.mem_of_getElem? (i := 7) rfl)
theorem dX7_anyFits_84 : decode cX7_anyFits 84 = .ok (.aload_n 0, 1) := dgX7_anyFits_1 (84, (.aload_n 0, 1)) (List.mem_of_getElem? (i := 8) rfl)
theorem dX7_anyFits_85 : decode cX7_anyFits 85 = .ok (.getfield 25, 3) := dgX7_anyFits_1 (85, (.getfield 25, 3)) (List.mem_of_getElem? (i := 9) rfl)
theorem dX7_anyFits_88 : decode cX7_anyFits 88 = .ok (.iload_n 1, 1) := dgX7_anyFits_1 (88, (.iload_n 1, 1)) (List.mem_of_getElem? (i := 10) rfl)
theorem dX7_anyFits_89 : decode cX7_anyFits 89 = .ok (.iaload, 1) := dgX7_anyFits_1 (89, (.iaload, 1)) (List.mem_of_getElem? (i := 11) rfl)
theorem dX7_anyFits_90 : decode cX7_anyFits 90 = .ok (.iconst 1, 1) := dgX7_anyFits_1 (90, (.iconst 1, 1)) (List.mem_of_getElem? (i := 12) rfl)
theorem dX7_anyFits_91 : decode cX7_anyFits 91 = .ok (.iand, 1) := dgX7_anyFits_1 (91, (.iand, 1)) (List.mem_of_getElem? (i := 13) rfl)
theorem dX7_anyFits_92 : decode cX7_anyFits 92 = .ok (.ifCond .eq 5, 3) := dgX7_anyFits_1 (92, (.ifCond .eq 5, 3)) (List.mem_of_getElem? (i := 14) rfl)
theorem dX7_anyFits_95 : decode cX7_anyFits 95 = .ok (.iconst 1, 1) := dgX7_anyFits_1 (95, (.iconst 1, 1)) (List.mem_of_getElem? (i := 15) rfl)
theorem dX7_anyFits_96 : decode cX7_anyFits 96 = .ok (.ireturn, 1) := dgX7_anyFits_1 (96, (.ireturn, 1)) (List.mem_of_getElem? (i := 16) rfl)
theorem dX7_anyFits_97 : decode cX7_anyFits 97 = .ok (.iinc 1 1, 3) := dgX7_anyFits_1 (97, (.iinc 1 1, 3)) (List.mem_of_getElem? (i := 17) rfl)
theorem dX7_anyFits_100 : decode cX7_anyFits 100 = .ok (.goto (-22), 3) := dgX7_anyFits_1 (100, (.goto (-22), 3)) (List.mem_of_getElem? (i := 18) rfl)
theorem dX7_anyFits_103 : decode cX7_anyFits 103 = .ok (.iconst 0, 1) := dgX7_anyFits_1 (103, (.iconst 0, 1)) (List.mem_of_getElem? (i := 19) rfl)
theorem dX7_anyFits_104 : decode cX7_anyFits 104 = .ok (.ireturn, 1) := dgX7_anyFits_1 (104, (.ireturn, 1)) (List.mem_of_getElem? (i := 20) rfl)
theorem ml_X7_108 : Cond.methodLink RX7 108 yX7_hopesBehind ∈ tblG := tg 1000 (by decide +kernel) (by decide +kernel)
theorem im_X7_hopesBehind : Cond.instanceMethod yX7_hopesBehind ∈ tblG := tg 1002 (by decide +kernel) (by decide +kernel)
theorem se_X7_hopesBehind : Cond.selects RX7 yX7_hopesBehind yX7_hopesBehind ∈ tblG := tg 23 (by decide +kernel) (by decide +kernel)
theorem ini_X7 : Cond.initialized RX7 ∈ tblG := tg 94 (by decide +kernel) (by decide +kernel)
theorem cd_X7_hopesBehind : Cond.code yX7_hopesBehind cX7_hopesBehind 6 (some .int) ∈ tblG := tg 1003 (by decide +kernel) (by decide +kernel)
theorem gW_X7_hopesBehind : GoodIn tblG (wsG yX7_hopesBehind cX7_hopesBehind 6 (some .int)) := tgi cd_X7_hopesBehind
theorem gV_X7_108 : GoodIn tblG (wsV RX7 108 RX7 yX7_hopesBehind (wsG yX7_hopesBehind cX7_hopesBehind 6 (some .int))) := tgV ml_X7_108 im_X7_hopesBehind se_X7_hopesBehind ini_X7 gW_X7_hopesBehind
theorem hv_X7_hopesBehind : yX7_hopesBehind.cls = RX7 ∧ yX7_hopesBehind.cls ≠ "java/lang/invoke/MethodHandle" ∧ yX7_hopesBehind.cls ≠ "java/lang/invoke/VarHandle" ∧ (parseMethodDescriptor yX7_hopesBehind.desc).map (fun d => d.parameters.length) = some 2 := by decide +kernel
theorem ml_X7_111 : Cond.methodLink RX7 111 yX7_masksBefore ∈ tblG := tg 1004 (by decide +kernel) (by decide +kernel)
theorem st_X7_masksBefore : Cond.static yX7_masksBefore ∈ tblG := tg 1005 (by decide +kernel) (by decide +kernel)
theorem cd_X7_masksBefore : Cond.code yX7_masksBefore cX7_masksBefore 4 (some .int) ∈ tblG := tg 1006 (by decide +kernel) (by decide +kernel)
theorem gW_X7_masksBefore : GoodIn tblG (wsG yX7_masksBefore cX7_masksBefore 4 (some .int)) := tgi cd_X7_masksBefore
theorem gS_X7_111 : GoodIn tblG (va_wsS RX7 111 yX7_masksBefore (wsG yX7_masksBefore cX7_masksBefore 4 (some .int))) := tgS ml_X7_111 st_X7_masksBefore ini_X7 gW_X7_masksBefore
theorem hs_X7_masksBefore : yX7_masksBefore.cls ≠ "java/lang/invoke/MethodHandle" ∧ yX7_masksBefore.cls ≠ "java/lang/invoke/VarHandle" ∧ (parseMethodDescriptor yX7_masksBefore.desc).map (fun d => d.parameters.length) = some 2 := by decide +kernel
set_option maxHeartbeats 4000000 in
set_option maxRecDepth 100000 in
theorem th_anyFits (l : Launch) (G : g5_G) (a_th a_ba a_ad a_hp a_h a_k a_cn a_nx a_hl a_lv : Nat) (sz : Nat) (e_fu : Int32) (f_ba : Nat → Int64) (f_ad : Nat → Int32) (f_hp : Nat → Int32) : Met l yX7_anyFits (wsG yX7_anyFits cX7_anyFits 5 (some .boolean)) ({ frames := 2, cells := 0, slots := 0, locals := 46 }) (va_Pc [.ref a_th] (g5_P G [(a_th, (oc7 a_h a_k a_ba a_ad e_fu a_cn a_nx a_hp a_hl a_lv)), (a_ba, (arJ G 24 f_ba)), (a_ad, (arI G 1536 f_ad)), (a_hp, (arI G 1536 f_hp))] sz)) (va_Qi (fun (r : Int32) (u : va_W) => (∃ (o_r : Int32) (o_f : Nat → Int32), (0 ≤ o_r.toInt ∧ o_r.toInt ≤ 1) ∧ (r = o_r) ∧ (u = [(a_th, (oc7 a_h a_k a_ba a_ad e_fu a_cn a_nx a_hp a_hl a_lv)), (a_ba, (arJ G 24 f_ba)), (a_ad, (arI G 1536 f_ad)), (a_hp, (arI G 1536 o_f))]))) (g5_B G (va_A [(a_th, (oc7 a_h a_k a_ba a_ad e_fu a_cn a_nx a_hp a_hl a_lv)), (a_ba, (arJ G 24 f_ba)), (a_ad, (arI G 1536 f_ad)), (a_hp, (arI G 1536 f_hp))] sz)) (va_A [(a_th, (oc7 a_h a_k a_ba a_ad e_fu a_cn a_nx a_hp a_hl a_lv)), (a_ba, (arJ G 24 f_ba)), (a_ad, (arI G 1536 f_ad)), (a_hp, (arI G 1536 f_hp))] sz)) 0 0 (va_A [(a_th, (oc7 a_h a_k a_ba a_ad e_fu a_cn a_nx a_hp a_hl a_lv)), (a_ba, (arJ G 24 f_ba)), (a_ad, (arI G 1536 f_ad)), (a_hp, (arI G 1536 f_hp))] sz) := by
  refine Met.ofW (cc := cX7_anyFits) (maxL := 5) (ret := (some .boolean)) (by decide +kernel) rfl ?_
  intro p e s m args below meth c s₁ B hml hv
  obtain ⟨rfl, hsz, hP, hK, hD0, hN, hT⟩ := hv
  have hx := B.exec
  have hb := B.bytes
  have hr := B.returns
  have hts : ∀ w ∈ tblG, w.before _ s = true := fun w h => atoms_spec (ws := (wsG yX7_anyFits cX7_anyFits 5 (some .boolean))) B.pre w (List.mem_cons_of_mem _ h)
  have hown : s.vm.findClass RX7 = some m.cls := findClass_of_methodNamed B.named
  have hlocks := B.notSynchronized
  subst hsz
  have hD := hD0.self (sz := s.heap.size)
  generalize hAe : va_A [(a_th, (oc7 a_h a_k a_ba a_ad e_fu a_cn a_nx a_hp a_hl a_lv)), (a_ba, (arJ G 24 f_ba)), (a_ad, (arI G 1536 f_ad)), (a_hp, (arI G 1536 f_hp))] s.heap.size = A at hD hT ⊢
  have hA : ∀ q : Nat, s.heap.size ≤ q → A q := fun q h => by rw [← hAe]; exact Or.inr h
  have hS : va_S A s.heap s.heap [] := va_S.rf
  replace hP : va_P G.1 vwCl [(a_th, (oc7 a_h a_k a_ba a_ad e_fu a_cn a_nx a_hp a_hl a_lv)), (a_ba, (arJ G 24 f_ba)), (a_ad, (arI G 1536 f_ad)), (a_hp, (arI G 1536 f_hp))] s.heap := hP
  have hl := lv_entry ([.ref a_th]) (n := 5) (Nat.le_of_ble_eq_true rfl)
  rw [lg_entry_eq]
  generalize (lg_sl ([.ref a_th]) ++ List.replicate (5 - (lg_sl ([.ref a_th])).length) Slot.unset).toArray = ls at hl ⊢
  replace hl : lv_has ls 5 [(0, .ref a_th)] := hl
  refine lv_bipush (v := 23) hx hb dX7_anyFits_0 (by decide +kernel) ?_
  refine lv_istore_n (lv' := [(1, .int 23), (0, .ref a_th)]) hx hb dX7_anyFits_2 rfl hl (by decide +kernel) rfl ?_
  clear hl
  intro ls hl
  refine g5_loop (α := (Int32) × (Nat → Int32)) (fun (q : (Int32) × (Nat → Int32)) (ls : Array Slot) (H : Heap) (locs : List Loc) => match q with | (k_h, k_f) => lv_has ls 5 [(1, .int k_h), (0, .ref a_th)] ∧ va_P G.1 vwCl [(a_th, (oc7 a_h a_k a_ba a_ad e_fu a_cn a_nx a_hp a_hl a_lv)), (a_ba, (arJ G 24 f_ba)), (a_ad, (arI G 1536 f_ad)), (a_hp, (arI G 1536 k_f))] H ∧ va_D A [(a_th, (oc7 a_h a_k a_ba a_ad e_fu a_cn a_nx a_hp a_hl a_lv)), (a_ba, (arJ G 24 f_ba)), (a_ad, (arI G 1536 f_ad)), (a_hp, (arI G 1536 k_f))] ∧ va_S A s.heap H locs ∧ ((-1) ≤ k_h.toInt ∧ k_h.toInt ≤ 23)) (fun (q : (Int32) × (Nat → Int32)) => match q with | (k_h, k_f) => Int.toNat (k_h.toInt + 1)) (23, f_hp) ⟨lv_sub hl [0, 1] rfl, hP, hD, hS, ⟨by decide, by decide⟩⟩ ?_
  rintro ⟨k_h, k_f⟩ ls H locs ⟨hl, hP, hD, hS, (i_1 : (-1) ≤ k_h.toInt ∧ k_h.toInt ≤ 23)⟩ ih_3_2
  replace hl : lv_has ls 5 [(1, .int k_h), (0, .ref a_th)] := hl
  refine g5_rs [(a_th, (oc7 a_h a_k a_ba a_ad e_fu a_cn a_nx a_hp a_hl a_lv)), (a_ba, (arJ G 24 f_ba)), (a_ad, (arI G 1536 f_ad)), (a_hp, (arI G 1536 k_f))] hP hD ?_
  clear hP hD
  intro hP hD
  refine lv_iload_n hx hb dX7_anyFits_3 rfl (lv_at hl 0 rfl) ?_
  refine lv_if_lt (tgt := 76) hx hb dX7_anyFits_4 (by decide +kernel) (fun c_3 => ?_) (fun c_3 => ?_)
  ·
    have i_3 : k_h.toInt < 0 := g5_lt (a := k_h.toInt) (b := 0) rfl (by decide +kernel) c_3
    refine lv_iconst (v := 0) hx hb dX7_anyFits_76 (by decide +kernel) ?_
    refine lv_istore_n (lv' := [(1, .int 0), (0, .ref a_th)]) hx hb dX7_anyFits_77 rfl hl (by decide +kernel) rfl ?_
    clear hl
    intro ls hl
    refine g5_loop (α := (Int32)) (fun (n_i : (Int32)) (ls : Array Slot) (H : Heap) (locs : List Loc) => lv_has ls 5 [(1, .int n_i), (0, .ref a_th)] ∧ va_P G.1 vwCl [(a_th, (oc7 a_h a_k a_ba a_ad e_fu a_cn a_nx a_hp a_hl a_lv)), (a_ba, (arJ G 24 f_ba)), (a_ad, (arI G 1536 f_ad)), (a_hp, (arI G 1536 k_f))] H ∧ va_D A [(a_th, (oc7 a_h a_k a_ba a_ad e_fu a_cn a_nx a_hp a_hl a_lv)), (a_ba, (arJ G 24 f_ba)), (a_ad, (arI G 1536 f_ad)), (a_hp, (arI G 1536 k_f))] ∧ va_S A s.heap H locs ∧ (0 ≤ n_i.toInt ∧ n_i.toInt ≤ 64)) (fun (n_i : (Int32)) => Int.toNat (64 - n_i.toInt)) 0 ⟨lv_sub hl [0, 1] rfl, hP, hD, hS, ⟨by decide, by decide⟩⟩ ?_
    rintro n_i ls H locs ⟨hl, hP, hD, hS, (i_4 : 0 ≤ n_i.toInt ∧ n_i.toInt ≤ 64)⟩ ih_78_5
    replace hl : lv_has ls 5 [(1, .int n_i), (0, .ref a_th)] := hl
    refine g5_rs [(a_th, (oc7 a_h a_k a_ba a_ad e_fu a_cn a_nx a_hp a_hl a_lv)), (a_ba, (arJ G 24 f_ba)), (a_ad, (arI G 1536 f_ad)), (a_hp, (arI G 1536 k_f))] hP hD ?_
    clear hP hD
    intro hP hD
    refine lv_iload_n hx hb dX7_anyFits_78 rfl (lv_at hl 0 rfl) ?_
    refine lv_bipush (v := 64) hx hb dX7_anyFits_79 (by decide +kernel) ?_
    refine lv_icmp_ge (tgt := 103) hx hb dX7_anyFits_81 (by decide +kernel) (fun c_6 => ?_) (fun c_6 => ?_)
    ·
      have i_6 : n_i.toInt ≥ 64 := g5_ge (a := n_i.toInt) (b := 64) rfl (by decide +kernel) c_6
      refine lv_iconst (v := 0) hx hb dX7_anyFits_103 (by decide +kernel) ?_
      exact W.zret (v := 0) hx hb hr rfl (fun t ht hW => ⟨⟨0, [(a_th, (oc7 a_h a_k a_ba a_ad e_fu a_cn a_nx a_hp a_hl a_lv)), (a_ba, (arJ G 24 f_ba)), (a_ad, (arI G 1536 f_ad)), (a_hp, (arI G 1536 k_f))], rfl, ⟨0, k_f, ⟨by have zc_o_r : (0 : Int32).toInt = 0 := (by decide +kernel); omega, by have zc_o_r : (0 : Int32).toInt = 0 := (by decide +kernel); omega⟩, rfl, rfl⟩, by rw [ht]; exact hP.sub [0, 1, 2, 3] rfl, hD.sub [0, 1, 2, 3] (by decide +kernel) rfl⟩, hS.F ht⟩) hS.2.2 dX7_anyFits_104
    ·
      have i_6 : n_i.toInt < 64 := g5_geN (a := n_i.toInt) (b := 64) rfl (by decide +kernel) c_6
      refine lv_aload_n hx hb dX7_anyFits_84 rfl (lv_at hl 1 rfl) ?_
      refine va_get (D := G.1) (ci := 7) (v := .ref a_hp) (C := RX7) (T := TX7) (N := 10) hx hb hts inG_X7 hown hK hP 0 rfl rfl 7 (by decide +kernel) (hts _ fl_X7_25) (fun _ h9 => h9) rfl dX7_anyFits_85 ?_
      refine lv_iload_n hx hb dX7_anyFits_88 rfl (lv_at hl 0 rfl) ?_
      refine va_iald hx hb hK hP 3 0 rfl rfl (i := n_i) (vp_in_iff.mpr ⟨by omega, by omega⟩) dX7_anyFits_89 ?_
      refine W.eq (g2 := F0 m 90 ls [.int (k_f n_i.toNatClampNeg)]) rfl ?_
      refine lv_iconst (v := 1) hx hb dX7_anyFits_90 (by decide +kernel) ?_
      refine lv_iand hx hb dX7_anyFits_91 ?_
      refine lv_if_eq (tgt := 97) hx hb dX7_anyFits_92 (by decide +kernel) (fun c_7 => ?_) (fun c_7 => ?_)
      ·
        have i_7 : ((k_f n_i.toNatClampNeg) &&& 1).toInt = 0 := g5_eq (a := ((k_f n_i.toNatClampNeg) &&& 1).toInt) (b := 0) rfl (by decide +kernel) c_7
        refine lv_iinc (v := (n_i + 1)) (lv' := [(1, .int (n_i + 1)), (0, .ref a_th)]) hx hb dX7_anyFits_97 hl (k := 0) rfl rfl (by decide +kernel) rfl ?_
        clear hl
        intro ls hl
        have t_8 : (n_i + 1).toInt = n_i.toInt + 1 := g5_iadd (a := n_i.toInt) (b := 1) rfl (by decide +kernel) (by omega) (by omega)
        refine lv_goto (tgt := 78) hx hb dX7_anyFits_100 (by decide +kernel) ?_
        exact ih_78_5 (n_i + 1) ls H locs (show Int.toNat (64 - (n_i + 1).toInt) < Int.toNat (64 - n_i.toInt) from g_up (show n_i.toInt < (n_i + 1).toInt by omega) (show n_i.toInt < 64 by omega)) ⟨lv_sub hl [0, 1] rfl, hP, hD, hS, ⟨by omega, by omega⟩⟩
      ·
        have n_7 : gNe (((k_f n_i.toNatClampNeg) &&& 1).toInt) (0) := g5_eqN (a := ((k_f n_i.toNatClampNeg) &&& 1).toInt) (b := 0) rfl (by decide +kernel) c_7
        refine lv_iconst (v := 1) hx hb dX7_anyFits_95 (by decide +kernel) ?_
        exact W.zret (v := 1) hx hb hr rfl (fun t ht hW => ⟨⟨1, [(a_th, (oc7 a_h a_k a_ba a_ad e_fu a_cn a_nx a_hp a_hl a_lv)), (a_ba, (arJ G 24 f_ba)), (a_ad, (arI G 1536 f_ad)), (a_hp, (arI G 1536 k_f))], rfl, ⟨1, k_f, ⟨by have zc_o_r : (1 : Int32).toInt = 1 := (by decide +kernel); omega, by have zc_o_r : (1 : Int32).toInt = 1 := (by decide +kernel); omega⟩, rfl, rfl⟩, by rw [ht]; exact hP.sub [0, 1, 2, 3] rfl, hD.sub [0, 1, 2, 3] (by decide +kernel) rfl⟩, hS.F ht⟩) hS.2.2 dX7_anyFits_96
  ·
    have i_3 : k_h.toInt ≥ 0 := g5_ltN (a := k_h.toInt) (b := 0) rfl (by decide +kernel) c_3
    refine lv_iconst (v := 0) hx hb dX7_anyFits_7 (by decide +kernel) ?_
    refine lv_istore_n (lv' := [(2, .int 0), (1, .int k_h), (0, .ref a_th)]) hx hb dX7_anyFits_8 rfl hl (by decide +kernel) rfl ?_
    clear hl
    intro ls hl
    refine g5_loop (α := (Int32) × (Nat → Int32)) (fun (q : (Int32) × (Nat → Int32)) (ls : Array Slot) (H : Heap) (locs : List Loc) => match q with | (m_c, m_f) => lv_has ls 5 [(2, .int m_c), (1, .int k_h), (0, .ref a_th)] ∧ va_P G.1 vwCl [(a_th, (oc7 a_h a_k a_ba a_ad e_fu a_cn a_nx a_hp a_hl a_lv)), (a_ba, (arJ G 24 f_ba)), (a_ad, (arI G 1536 f_ad)), (a_hp, (arI G 1536 m_f))] H ∧ va_D A [(a_th, (oc7 a_h a_k a_ba a_ad e_fu a_cn a_nx a_hp a_hl a_lv)), (a_ba, (arJ G 24 f_ba)), (a_ad, (arI G 1536 f_ad)), (a_hp, (arI G 1536 m_f))] ∧ va_S A s.heap H locs ∧ (0 ≤ m_c.toInt ∧ m_c.toInt ≤ 64)) (fun (q : (Int32) × (Nat → Int32)) => match q with | (m_c, m_f) => Int.toNat (64 - m_c.toInt)) (0, k_f) ⟨lv_sub hl [0, 1, 2] rfl, hP, hD, hS, ⟨by decide, by decide⟩⟩ ?_
    rintro ⟨m_c, m_f⟩ ls H locs ⟨hl, hP, hD, hS, (i_9 : 0 ≤ m_c.toInt ∧ m_c.toInt ≤ 64)⟩ ih_9_10
    replace hl : lv_has ls 5 [(2, .int m_c), (1, .int k_h), (0, .ref a_th)] := hl
    refine g5_rs [(a_th, (oc7 a_h a_k a_ba a_ad e_fu a_cn a_nx a_hp a_hl a_lv)), (a_ba, (arJ G 24 f_ba)), (a_ad, (arI G 1536 f_ad)), (a_hp, (arI G 1536 m_f))] hP hD ?_
    clear hP hD
    intro hP hD
    refine lv_iload_n hx hb dX7_anyFits_9 rfl (lv_at hl 0 rfl) ?_
    refine lv_bipush (v := 64) hx hb dX7_anyFits_10 (by decide +kernel) ?_
    refine lv_icmp_ge (tgt := 70) hx hb dX7_anyFits_12 (by decide +kernel) (fun c_11 => ?_) (fun c_11 => ?_)
    ·
      have i_11 : m_c.toInt ≥ 64 := g5_ge (a := m_c.toInt) (b := 64) rfl (by decide +kernel) c_11
      obtain ⟨y12, hy_12, t_12⟩ := g_incN k_h (-1) (by decide +kernel) (by omega) (by omega)
      have t_12 : y12.toInt = k_h.toInt + (-1) := t_12
      refine lv_iinc (v := y12) (lv' := [(1, .int y12), (2, .int m_c), (0, .ref a_th)]) hx hb dX7_anyFits_70 hl (k := 1) rfl hy_12 (by decide +kernel) rfl ?_
      clear hl
      intro ls hl
      refine lv_goto (tgt := 3) hx hb dX7_anyFits_73 (by decide +kernel) ?_
      exact ih_3_2 (y12, m_f) ls H locs (show Int.toNat (y12.toInt + 1) < Int.toNat (k_h.toInt + 1) from g_dn (show y12.toInt < k_h.toInt by omega) (show 0 ≤ k_h.toInt by omega)) ⟨lv_sub hl [0, 2] rfl, hP, hD, hS, ⟨by omega, by omega⟩⟩
    ·
      have i_11 : m_c.toInt < 64 := g5_geN (a := m_c.toInt) (b := 64) rfl (by decide +kernel) c_11
      refine lv_iload_n hx hb dX7_anyFits_15 rfl (lv_at hl 1 rfl) ?_
      refine lv_bipush (v := 64) hx hb dX7_anyFits_16 (by decide +kernel) ?_
      refine lv_imul hx hb dX7_anyFits_18 ?_
      have t_13 : (k_h * 64).toInt = k_h.toInt * 64 := g5_imul (a := k_h.toInt) (b := 64) (by rfl) (by decide +kernel) (by omega) (by omega)
      refine lv_iload_n hx hb dX7_anyFits_19 rfl (lv_at hl 0 rfl) ?_
      refine W.eq (g2 := F0 m 20 ls [.int m_c, .int (k_h * 64)]) rfl ?_
      refine lv_iadd hx hb dX7_anyFits_20 ?_
      have t_14 : ((k_h * 64) + m_c).toInt = (k_h * 64).toInt + m_c.toInt := g5_iadd (a := (k_h * 64).toInt) (b := m_c.toInt) (by rfl) (by rfl) (by omega) (by omega)
      refine lv_istore_n (lv' := [(3, .int ((k_h * 64) + m_c)), (2, .int m_c), (1, .int k_h), (0, .ref a_th)]) hx hb dX7_anyFits_21 rfl hl (by decide +kernel) rfl ?_
      clear hl
      intro ls hl
      refine lv_aload_n hx hb dX7_anyFits_22 rfl (lv_at hl 3 rfl) ?_
      refine va_get (D := G.1) (ci := 7) (v := .ref a_ba) (C := RX7) (T := TX7) (N := 10) hx hb hts inG_X7 hown hK hP 0 rfl rfl 2 (by decide +kernel) (hts _ fl_X7_9) (fun _ h9 => h9) rfl dX7_anyFits_23 ?_
      refine lv_iload_n hx hb dX7_anyFits_26 rfl (lv_at hl 2 rfl) ?_
      refine W.eq (g2 := F0 m 27 ls [.int k_h, .ref a_ba]) rfl ?_
      refine va_lald hx hb hK hP 1 1 rfl rfl (i := k_h) (vp_in_iff.mpr ⟨by omega, by omega⟩) dX7_anyFits_27 ?_
      refine lv_iload_n hx hb dX7_anyFits_28 rfl (lv_at hl 1 rfl) ?_
      obtain ⟨hPc, hDc, hFc⟩ := g5_sub3 (wc := []) hP hD hS hA [] (by decide +kernel) rfl
      refine va_calli (va_runSN (As := [.long (f_ba k_h.toNatClampNeg), .int m_c]) (rest := []) ⟨hx, hb, hml, hown, hts⟩ (k_isOn l G H.size m_c (f_ba k_h.toNatClampNeg) ⟨by omega, by omega⟩) ⟨va_cnB 2 hts gW_X11_isOn rfl rfl rfl (hN.1 _ g5_nw_X7_98) (hts _ ini_X11) hs_X11_isOn ⟨Nat.le_of_ble_eq_true rfl, Nat.le_of_ble_eq_true rfl⟩, hts _ st_X11_isOn, trivial⟩ (g5_preS hPc hK hDc hN hT hS hFc) rfl rfl hl.1 rfl (lv_room (Nat.le_of_ble_eq_true rfl)) dX7_anyFits_29 ⟨Nat.le_of_ble_eq_true rfl, Nat.le_of_ble_eq_true rfl⟩) hS (fun q _ h => hFc q h) hFc (fun r u t H locs ht hvm hw hB hz1 hk1 hS => ?_)
      obtain ⟨hP1, hD1⟩ := hB
      have hP1 := g5_ht ht hP1
      rcases hw with ⟨(i_15 : onB (f_ba k_h.toNatClampNeg) m_c.toInt = false), rfl, rfl⟩ | ⟨(i_16 : onB (f_ba k_h.toNatClampNeg) m_c.toInt = true), rfl, rfl⟩
      ·
        have hJ9 := g5_same hP hk1
        clear hP hPc hDc hFc ht hvm hz1 hk1 hP1 hD1
        have hP := hJ9
        clear hJ9
        refine lv_if_eq (tgt := 39) hx hb dX7_anyFits_32 (by decide +kernel) (fun c_17 => ?_) (fun c_17 => ?_)
        ·
          refine lv_aload_n hx hb dX7_anyFits_39 rfl (lv_at hl 3 rfl) ?_
          refine lv_iload_n hx hb dX7_anyFits_40 rfl (lv_at hl 2 rfl) ?_
          refine lv_iload_n hx hb dX7_anyFits_41 rfl (lv_at hl 1 rfl) ?_
          obtain ⟨hPc, hDc, hFc⟩ := g5_sub3 (wc := [(a_th, (oc7 a_h a_k a_ba a_ad e_fu a_cn a_nx a_hp a_hl a_lv)), (a_hp, (arI G 1536 m_f))]) hP hD hS hA [0, 3] (by decide +kernel) rfl
          refine va_calli (va_runV (As := [.int k_h, .int m_c]) (rest := []) ⟨hx, hb, hml, hown, hts⟩ (th_behind l G a_th a_hp a_h a_k a_ba a_ad a_cn a_nx a_hl a_lv H.size e_fu k_h m_c m_f ⟨by omega, by omega⟩ ⟨by omega, by omega⟩) (cwV 2 hts gV_X7_108 rfl rfl rfl hv_X7_hopesBehind ⟨Nat.le_of_ble_eq_true rfl, Nat.le_of_ble_eq_true rfl⟩) (g5_preV hPc hK hDc hN hT hS hFc (ci := 7) (q0 := 0) rfl rfl) rfl rfl hl.1 rfl (lv_room (Nat.le_of_ble_eq_true rfl)) dX7_anyFits_42 ⟨Nat.le_of_ble_eq_true rfl, Nat.le_of_ble_eq_true rfl⟩) hS (fun q _ h => hFc q h) hFc (fun r u t H locs ht hvm hw hB hz1 hk1 hS => ?_)
          obtain ⟨hP1, hD1⟩ := hB
          have hP1 := g5_ht ht hP1
          obtain ⟨z18, y19, rfl⟩ := hw
          have hJ9 := va_join (wr := [(a_ba, (arJ G 24 f_ba)), (a_ad, (arI G 1536 f_ad))]) hP hD [0, 3] [1, 2] rfl rfl (by decide +kernel) (by decide +kernel) hk1 hFc hP1 hD1
          clear hP hD hPc hDc hFc ht hvm hz1 hk1 hP1 hD1
          obtain ⟨hP, hD⟩ := hJ9
          refine g5_rs [(a_ba, (arJ G 24 f_ba)), (a_ad, (arI G 1536 f_ad)), (a_th, (oc7 a_h a_k a_ba a_ad e_fu a_cn a_nx a_hp a_hl a_lv)), (a_hp, (arI G 1536 m_f))] hP hD ?_
          clear hP hD
          intro hP hD
          refine g5_ti (v := z18) y19 ?_
          refine W.eq (g2 := F0 m 45 ls [.int z18]) rfl ?_
          refine lv_istore (lv' := [(4, .int z18), (3, .int ((k_h * 64) + m_c)), (2, .int m_c), (1, .int k_h), (0, .ref a_th)]) hx hb dX7_anyFits_45 hl (by decide +kernel) rfl ?_
          clear hl
          intro ls hl
          refine lv_aload_n hx hb dX7_anyFits_47 rfl (lv_at hl 4 rfl) ?_
          refine va_get (D := G.1) (ci := 7) (v := .ref a_hp) (C := RX7) (T := TX7) (N := 10) hx hb hts inG_X7 hown hK hP 2 rfl rfl 7 (by decide +kernel) (hts _ fl_X7_25) (fun _ h9 => h9) rfl dX7_anyFits_48 ?_
          refine lv_iload_n hx hb dX7_anyFits_51 rfl (lv_at hl 1 rfl) ?_
          refine lv_iload hx hb dX7_anyFits_52 (lv_at hl 0 rfl) ?_
          refine W.eq (g2 := F0 m 54 ls [.int z18, .int ((k_h * 64) + m_c), .ref a_hp]) rfl ?_
          refine lv_aload_n hx hb dX7_anyFits_54 rfl (lv_at hl 4 rfl) ?_
          refine va_get (D := G.1) (ci := 7) (v := .ref a_ad) (C := RX7) (T := TX7) (N := 10) hx hb hts inG_X7 hown hK hP 2 rfl rfl 3 (by decide +kernel) (hts _ fl_X7_15) (fun _ h9 => h9) rfl dX7_anyFits_55 ?_
          refine lv_iload_n hx hb dX7_anyFits_58 rfl (lv_at hl 1 rfl) ?_
          refine va_iald hx hb hK hP 1 0 rfl rfl (i := ((k_h * 64) + m_c)) (vp_in_iff.mpr ⟨by omega, by omega⟩) dX7_anyFits_59 ?_
          obtain ⟨hPc, hDc, hFc⟩ := g5_sub3 (wc := []) hP hD hS hA [] (by decide +kernel) rfl
          refine va_calli (va_runS (As := [.int z18, .int (f_ad ((k_h * 64) + m_c).toNatClampNeg)]) (rest := [.int ((k_h * 64) + m_c), .ref a_hp]) ⟨hx, hb, hml, hown, hts⟩ (th_masksBefore l G H.size z18 (f_ad ((k_h * 64) + m_c).toNatClampNeg)) (va_cwS 2 hts gS_X7_111 rfl rfl rfl hs_X7_masksBefore ⟨Nat.le_of_ble_eq_true rfl, Nat.le_of_ble_eq_true rfl⟩) (g5_preS hPc hK hDc hN hT hS hFc) rfl rfl hl.1 rfl (lv_room (Nat.le_of_ble_eq_true rfl)) dX7_anyFits_60 ⟨Nat.le_of_ble_eq_true rfl, Nat.le_of_ble_eq_true rfl⟩) hS (fun q _ h => hFc q h) hFc (fun r u t H locs ht hvm hw hB hz1 hk1 hS => ?_)
          obtain ⟨hP1, hD1⟩ := hB
          have hP1 := g5_ht ht hP1
          obtain ⟨z20, y21, rfl⟩ := hw
          have hJ9 := g5_same hP hk1
          clear hP hPc hDc hFc ht hvm hz1 hk1 hP1 hD1
          have hP := hJ9
          clear hJ9
          refine g5_ti (v := z20) y21 ?_
          refine W.eq (g2 := F0 m 63 ls [.int z20, .int ((k_h * 64) + m_c), .ref a_hp]) rfl ?_
          refine va_iast hx hb hK hP hD hS 3 0 rfl rfl (i := ((k_h * 64) + m_c)) (x := z20) (vp_in_iff.mpr ⟨by omega, by omega⟩) dX7_anyFits_63 ?_
          clear hP hD hS
          intro H locs hP hD hS
          refine g5_rs [(a_ba, (arJ G 24 f_ba)), (a_ad, (arI G 1536 f_ad)), (a_th, (oc7 a_h a_k a_ba a_ad e_fu a_cn a_nx a_hp a_hl a_lv)), (a_hp, (arI G 1536 (upd m_f ((k_h * 64) + m_c).toNatClampNeg z20)))] hP hD ?_
          clear hP hD
          intro hP hD
          refine lv_iinc (v := (m_c + 1)) (lv' := [(2, .int (m_c + 1)), (4, .int z18), (3, .int ((k_h * 64) + m_c)), (1, .int k_h), (0, .ref a_th)]) hx hb dX7_anyFits_64 hl (k := 2) rfl rfl (by decide +kernel) rfl ?_
          clear hl
          intro ls hl
          have t_22 : (m_c + 1).toInt = m_c.toInt + 1 := g5_iadd (a := m_c.toInt) (b := 1) rfl (by decide +kernel) (by omega) (by omega)
          refine lv_goto (tgt := 9) hx hb dX7_anyFits_67 (by decide +kernel) ?_
          exact ih_9_10 ((m_c + 1), (upd m_f ((k_h * 64) + m_c).toNatClampNeg z20)) ls H locs (show Int.toNat (64 - (m_c + 1).toInt) < Int.toNat (64 - m_c.toInt) from g_up (show m_c.toInt < (m_c + 1).toInt by omega) (show m_c.toInt < 64 by omega)) ⟨lv_sub hl [0, 3, 4] rfl, hP.sub [2, 0, 1, 3] rfl, hD.sub [2, 0, 1, 3] (by decide +kernel) rfl, hS, ⟨by omega, by omega⟩⟩
        ·
          exact absurd c_17 (by decide +kernel)
      ·
        have hJ9 := g5_same hP hk1
        clear hP hPc hDc hFc ht hvm hz1 hk1 hP1 hD1
        have hP := hJ9
        clear hJ9
        refine lv_if_eq (tgt := 39) hx hb dX7_anyFits_32 (by decide +kernel) (fun c_23 => ?_) (fun c_23 => ?_)
        ·
          exact absurd c_23 (by decide +kernel)
        ·
          refine lv_iconst (v := 0) hx hb dX7_anyFits_35 (by decide +kernel) ?_
          refine lv_goto (tgt := 45) hx hb dX7_anyFits_36 (by decide +kernel) ?_
          refine lv_istore (lv' := [(4, .int 0), (3, .int ((k_h * 64) + m_c)), (2, .int m_c), (1, .int k_h), (0, .ref a_th)]) hx hb dX7_anyFits_45 hl (by decide +kernel) rfl ?_
          clear hl
          intro ls hl
          refine lv_aload_n hx hb dX7_anyFits_47 rfl (lv_at hl 4 rfl) ?_
          refine W.eq (g2 := F0 m 48 ls [.ref a_th]) rfl ?_
          refine va_get (D := G.1) (ci := 7) (v := .ref a_hp) (C := RX7) (T := TX7) (N := 10) hx hb hts inG_X7 hown hK hP 0 rfl rfl 7 (by decide +kernel) (hts _ fl_X7_25) (fun _ h9 => h9) rfl dX7_anyFits_48 ?_
          refine lv_iload_n hx hb dX7_anyFits_51 rfl (lv_at hl 1 rfl) ?_
          refine lv_iload hx hb dX7_anyFits_52 (lv_at hl 0 rfl) ?_
          refine lv_aload_n hx hb dX7_anyFits_54 rfl (lv_at hl 4 rfl) ?_
          refine va_get (D := G.1) (ci := 7) (v := .ref a_ad) (C := RX7) (T := TX7) (N := 10) hx hb hts inG_X7 hown hK hP 0 rfl rfl 3 (by decide +kernel) (hts _ fl_X7_15) (fun _ h9 => h9) rfl dX7_anyFits_55 ?_
          refine W.eq (g2 := F0 m 58 ls [.ref a_ad, .int 0, .int ((k_h * 64) + m_c), .ref a_hp]) rfl ?_
          refine lv_iload_n hx hb dX7_anyFits_58 rfl (lv_at hl 1 rfl) ?_
          refine va_iald hx hb hK hP 2 0 rfl rfl (i := ((k_h * 64) + m_c)) (vp_in_iff.mpr ⟨by omega, by omega⟩) dX7_anyFits_59 ?_
          obtain ⟨hPc, hDc, hFc⟩ := g5_sub3 (wc := []) hP hD hS hA [] (by decide +kernel) rfl
          refine va_calli (va_runS (As := [.int 0, .int (f_ad ((k_h * 64) + m_c).toNatClampNeg)]) (rest := [.int ((k_h * 64) + m_c), .ref a_hp]) ⟨hx, hb, hml, hown, hts⟩ (th_masksBefore l G H.size 0 (f_ad ((k_h * 64) + m_c).toNatClampNeg)) (va_cwS 2 hts gS_X7_111 rfl rfl rfl hs_X7_masksBefore ⟨Nat.le_of_ble_eq_true rfl, Nat.le_of_ble_eq_true rfl⟩) (g5_preS hPc hK hDc hN hT hS hFc) rfl rfl hl.1 rfl (lv_room (Nat.le_of_ble_eq_true rfl)) dX7_anyFits_60 ⟨Nat.le_of_ble_eq_true rfl, Nat.le_of_ble_eq_true rfl⟩) hS (fun q _ h => hFc q h) hFc (fun r u t H locs ht hvm hw hB hz1 hk1 hS => ?_)
          obtain ⟨hP1, hD1⟩ := hB
          have hP1 := g5_ht ht hP1
          obtain ⟨z24, y25, rfl⟩ := hw
          have hJ9 := g5_same hP hk1
          clear hP hPc hDc hFc ht hvm hz1 hk1 hP1 hD1
          have hP := hJ9
          clear hJ9
          refine g5_ti (v := z24) y25 ?_
          refine va_iast hx hb hK hP hD hS 3 0 rfl rfl (i := ((k_h * 64) + m_c)) (x := z24) (vp_in_iff.mpr ⟨by omega, by omega⟩) dX7_anyFits_63 ?_
          clear hP hD hS
          intro H locs hP hD hS
          refine g5_rs [(a_th, (oc7 a_h a_k a_ba a_ad e_fu a_cn a_nx a_hp a_hl a_lv)), (a_ba, (arJ G 24 f_ba)), (a_ad, (arI G 1536 f_ad)), (a_hp, (arI G 1536 (upd m_f ((k_h * 64) + m_c).toNatClampNeg z24)))] hP hD ?_
          clear hP hD
          intro hP hD
          refine lv_iinc (v := (m_c + 1)) (lv' := [(2, .int (m_c + 1)), (4, .int 0), (3, .int ((k_h * 64) + m_c)), (1, .int k_h), (0, .ref a_th)]) hx hb dX7_anyFits_64 hl (k := 2) rfl rfl (by decide +kernel) rfl ?_
          clear hl
          intro ls hl
          have t_26 : (m_c + 1).toInt = m_c.toInt + 1 := g5_iadd (a := m_c.toInt) (b := 1) rfl (by decide +kernel) (by omega) (by omega)
          refine W.eq (g2 := F0 m 67 ls []) rfl ?_
          refine lv_goto (tgt := 9) hx hb dX7_anyFits_67 (by decide +kernel) ?_
          exact ih_9_10 ((m_c + 1), (upd m_f ((k_h * 64) + m_c).toNatClampNeg z24)) ls H locs (show Int.toNat (64 - (m_c + 1).toInt) < Int.toNat (64 - m_c.toInt) from g_up (show m_c.toInt < (m_c + 1).toInt by omega) (show m_c.toInt < 64 by omega)) ⟨lv_sub hl [0, 3, 4] rfl, hP, hD, hS, ⟨by omega, by omega⟩⟩
theorem dgX7_lowestNext_0 : ∀ r ∈ ([(0, (.iconst 0, 1)), (1, (.istore 4, 2)), (3, (.iload 4, 2)), (5, (.getstatic 131, 3)), (8, (.arraylength, 1)), (9, (.if_icmp .ge 49, 3)), (12, (.iload_n 1, 1)), (13, (.getstatic 131, 3)), (16, (.iload 4, 2)), (18, (.iaload, 1)), (19, (.invokestatic 105, 3)), (22, (.istore 5, 2)), (24, (.iload 5, 2)), (26, (.iconst (-1), 1)), (27, (.if_icmp .eq 25, 3)), (30, (.aload_n 0, 1)), (31, (.getfield 25, 3)), (34, (.iload_n 2, 1)), (35, (.bipush 64, 2)), (37, (.imul, 1)), (38, (.iload 5, 2)), (40, (.iadd, 1)), (41, (.iaload, 1)), (42, (.iload_n 3, 1)), (43, (.iushr, 1)), (44, (.iconst 1, 1)), (45, (.iand, 1)), (46, (.ifCond .eq 6, 3)), (49, (.iload 5, 2)), (51, (.ireturn, 1)), (52, (.iinc 4 1, 3)), (55, (.goto (-52), 3)), (58, (.iload_n 1, 1)), (59, (.ireturn, 1))] : List (Nat × (Instr × Nat))), decode cX7_lowestNext r.1 = .ok r.2 := by decide +kernel
theorem dX7_lowestNext_0 : decode cX7_lowestNext 0 = .ok (.iconst 0, 1) := dgX7_lowestNext_0 (0, (.iconst 0, 1)) (List.mem_of_getElem? (i := 0) rfl)
theorem dX7_lowestNext_1 : decode cX7_lowestNext 1 = .ok (.istore 4, 2) := dgX7_lowestNext_0 (1, (.istore 4, 2)) (List.mem_of_getElem? (i := 1) rfl)
theorem dX7_lowestNext_3 : decode cX7_lowestNext 3 = .ok (.iload 4, 2) := dgX7_lowestNext_0 (3, (.iload 4, 2)) (List.mem_of_getElem? (i := 2) rfl)
theorem dX7_lowestNext_5 : decode cX7_lowestNext 5 = .ok (.getstatic 131, 3) := dgX7_lowestNext_0 (5, (.getstatic 131, 3)) (List.mem_of_getElem? (i := 3) rfl)
theorem dX7_lowestNext_8 : decode cX7_lowestNext 8 = .ok (.arraylength, 1) := dgX7_lowestNext_0 (8, (.arraylength, 1)) (List.mem_of_getElem? (i := 4) rfl)
theorem dX7_lowestNext_9 : decode cX7_lowestNext 9 = .ok (.if_icmp .ge 49, 3) := dgX7_lowestNext_0 (9, (.if_icmp .ge 49, 3)) (List.mem_of_getElem? (i := 5) rfl)
theorem dX7_lowestNext_12 : decode cX7_lowestNext 12 = .ok (.iload_n 1, 1) := dgX7_lowestNext_0 (12, (.iload_n 1, 1)) (List.mem_of_getElem? (i := 6) rfl)
theorem dX7_lowestNext_13 : decode cX7_lowestNext 13 = .ok (.getstatic 131, 3) := dgX7_lowestNext_0 (13, (.getstatic 131, 3)) (List.mem_of_getElem? (i := 7) rfl)
theorem dX7_lowestNext_16 : decode cX7_lowestNext 16 = .ok (.iload 4, 2) := dgX7_lowestNext_0 (16, (.iload 4, 2)) (List.mem_of_getElem? (i := 8) rfl)
theorem dX7_lowestNext_18 : decode cX7_lowestNext 18 = .ok (.iaload, 1) := dgX7_lowestNext_0 (18, (.iaload, 1)) (List.mem_of_getElem? (i := 9) rfl)
theorem dX7_lowestNext_19 : decode cX7_lowestNext 19 = .ok (.invokestatic 105, 3) := dgX7_lowestNext_0 (19, (.invokestatic 105, 3)) (List.mem_of_getElem? (i := 10) rfl)
theorem dX7_lowestNext_22 : decode cX7_lowestNext 22 = .ok (.istore 5, 2) := dgX7_lowestNext_0 (22, (.istore 5, 2)) (List.mem_of_getElem? (i := 11) rfl)
theorem dX7_lowestNext_24 : decode cX7_lowestNext 24 = .ok (.iload 5, 2) := dgX7_lowestNext_0 (24, (.iload 5, 2)) (List.mem_of_getElem? (i := 12) rfl)
theorem dX7_lowestNext_26 : decode cX7_lowestNext 26 = .ok (.iconst (-1), 1) := dgX7_lowestNext_0 (26, (.iconst (-1), 1)) (List.mem_of_getElem? (i := 13) rfl)
theorem dX7_lowestNext_27 : decode cX7_lowestNext 27 = .ok (.if_icmp .eq 25, 3) := dgX7_lowestNext_0 (27, (.if_icmp .eq 25, 3)) (List.mem_of_getElem? (i := 14) rfl)
theorem dX7_lowestNext_30 : decode cX7_lowestNext 30 = .ok (.aload_n 0, 1) := dgX7_lowestNext_0 (30, (.aload_n 0, 1)) (List.mem_of_getElem? (i := 15) rfl)
theorem dX7_lowestNext_31 : decode cX7_lowestNext 31 = .ok (.getfield 25, 3) := dgX7_lowestNext_0 (31, (.getfield 25, 3)) (List.mem_of_getElem? (i := 16) rfl)
theorem dX7_lowestNext_34 : decode cX7_lowestNext 34 = .ok (.iload_n 2, 1) := dgX7_lowestNext_0 (34, (.iload_n 2, 1)) (List.mem_of_getElem? (i := 17) rfl)
theorem dX7_lowestNext_35 : decode cX7_lowestNext 35 = .ok (.bipush 64, 2) := dgX7_lowestNext_0 (35, (.bipush 64, 2)) (List.mem_of_getElem? (i := 18) rfl)
theorem dX7_lowestNext_37 : decode cX7_lowestNext 37 = .ok (.imul, 1) := dgX7_lowestNext_0 (37, (.imul, 1)) (List.mem_of_getElem? (i := 19) rfl)
theorem dX7_lowestNext_38 : decode cX7_lowestNext 38 = .ok (.iload 5, 2) := dgX7_lowestNext_0 (38, (.iload 5, 2)) (List.mem_of_getElem? (i := 20) rfl)
theorem dX7_lowestNext_40 : decode cX7_lowestNext 40 = .ok (.iadd, 1) := dgX7_lowestNext_0 (40, (.iadd, 1)) (List.mem_of_getElem? (i := 21) rfl)
theorem dX7_lowestNext_41 : decode cX7_lowestNext 41 = .ok (.iaload, 1) := dgX7_lowestNext_0 (41, (.iaload, 1)) (List.mem_of_getElem? (i := 22) rfl)
theorem dX7_lowestNext_42 : decode cX7_lowestNext 42 = .ok (.iload_n 3, 1) := dgX7_lowestNext_0 (42, (.iload_n 3, 1)) (List.mem_of_getElem? (i := 23) rfl)
theorem dX7_lowestNext_43 : decode cX7_lowestNext 43 = .ok (.iushr, 1) := dgX7_lowestNext_0 (43, (.iushr, 1)) (List.mem_of_getElem? (i := 24) rfl)
theorem dX7_lowestNext_44 : decode cX7_lowestNext 44 = .ok (.iconst 1, 1) := dgX7_lowestNext_0 (44, (.iconst 1, 1)) (List.mem_of_getElem? (i := 25) rfl)
theorem dX7_lowestNext_45 : decode cX7_lowestNext 45 = .ok (.iand, 1) := dgX7_lowestNext_0 (45, (.iand, 1)) (List.mem_of_getElem? (i := 26) rfl)
theorem dX7_lowestNext_46 : decode cX7_lowestNext 46 = .ok (.ifCond .eq 6, 3) := dgX7_lowestNext_0 (46, (.ifCond .eq 6, 3)) (List.mem_of_getElem? (i := 27) rfl)
theorem dX7_lowestNext_49 : decode cX7_lowestNext 49 = .ok (.iload 5, 2) := dgX7_lowestNext_0 (49, (.iload 5, 2)) (List.mem_of_getElem? (i := 28) rfl)
theorem dX7_lowestNext_51 : decode cX7_lowestNext 51 = .ok (.ireturn, 1) := dgX7_lowestNext_0 (51, (.ireturn, 1)) (List.mem_of_getElem? (i := 29) rfl)
theorem dX7_lowestNext_52 : decode cX7_lowestNext 52 = .ok (.iinc 4 1, 3) := dgX7_lowestNext_0 (52, (.iinc 4 1, 3)) (List.mem_of_getElem? (i := 30) rfl)
theorem dX7_lowestNext_55 : decode cX7_lowestNext 55 = .ok (.goto (-52), 3) := dgX7_lowestNext_0 (55, (.goto (-52), 3)) (List.mem_of_getElem? (i := 31) rfl)
theorem dX7_lowestNext_58 : decode cX7_lowestNext 58 = .ok (.iload_n 1, 1) := dgX7_lowestNext_0 (58, (.iload_n 1, 1)) (List.mem_of_getElem? (i := 32) rfl)
theorem dX7_lowestNext_59 : decode cX7_lowestNext 59 = .ok (.ireturn, 1) := dgX7_lowestNext_0 (59, (.ireturn, 1)) (List.mem_of_getElem? (i := 33) rfl)
set_option maxHeartbeats 4000000 in
set_option maxRecDepth 100000 in
theorem th_next (l : Launch) (G : g5_G) (a_th a_hp a_h a_k a_ba a_ad a_cn a_nx a_hl a_lv : Nat) (sz : Nat) (e_fu : Int32) (p_c : Int32) (p_h : Int32) (p_m : Int32) (f_hp : Nat → Int32) (h_p_c : 0 ≤ p_c.toInt ∧ p_c.toInt ≤ 63) (h_p_h : 0 ≤ p_h.toInt ∧ p_h.toInt ≤ 23) : Met l yX7_lowestNext (wsG yX7_lowestNext cX7_lowestNext 6 (some .int)) ({ frames := 1, cells := 0, slots := 0, locals := 21 }) (va_Pc [.ref a_th, .int p_c, .int p_h, .int p_m] (g5_P G [(a_th, (oc7 a_h a_k a_ba a_ad e_fu a_cn a_nx a_hp a_hl a_lv)), (a_hp, (arI G 1536 f_hp))] sz)) (va_Qi (fun (r : Int32) (u : va_W) => (∃ (o_r : Int32), (0 ≤ o_r.toInt ∧ o_r.toInt ≤ 63) ∧ (r = o_r) ∧ (u = [(a_th, (oc7 a_h a_k a_ba a_ad e_fu a_cn a_nx a_hp a_hl a_lv)), (a_hp, (arI G 1536 f_hp))]))) (g5_B G (va_A [(a_th, (oc7 a_h a_k a_ba a_ad e_fu a_cn a_nx a_hp a_hl a_lv)), (a_hp, (arI G 1536 f_hp))] sz)) (va_A [(a_th, (oc7 a_h a_k a_ba a_ad e_fu a_cn a_nx a_hp a_hl a_lv)), (a_hp, (arI G 1536 f_hp))] sz)) 0 0 (va_A [(a_th, (oc7 a_h a_k a_ba a_ad e_fu a_cn a_nx a_hp a_hl a_lv)), (a_hp, (arI G 1536 f_hp))] sz) := by
  refine Met.ofW (cc := cX7_lowestNext) (maxL := 6) (ret := (some .int)) (by decide +kernel) rfl ?_
  intro p e s m args below meth c s₁ B hml hv
  obtain ⟨rfl, hsz, hP, hK, hD0, hN, hT⟩ := hv
  have hx := B.exec
  have hb := B.bytes
  have hr := B.returns
  have hts : ∀ w ∈ tblG, w.before _ s = true := fun w h => atoms_spec (ws := (wsG yX7_lowestNext cX7_lowestNext 6 (some .int))) B.pre w (List.mem_cons_of_mem _ h)
  have hown : s.vm.findClass RX7 = some m.cls := findClass_of_methodNamed B.named
  have hlocks := B.notSynchronized
  subst hsz
  have hD := hD0.self (sz := s.heap.size)
  generalize hAe : va_A [(a_th, (oc7 a_h a_k a_ba a_ad e_fu a_cn a_nx a_hp a_hl a_lv)), (a_hp, (arI G 1536 f_hp))] s.heap.size = A at hD hT ⊢
  have hA : ∀ q : Nat, s.heap.size ≤ q → A q := fun q h => by rw [← hAe]; exact Or.inr h
  have hS : va_S A s.heap s.heap [] := va_S.rf
  replace hP : va_P G.1 vwCl [(a_th, (oc7 a_h a_k a_ba a_ad e_fu a_cn a_nx a_hp a_hl a_lv)), (a_hp, (arI G 1536 f_hp))] s.heap := hP
  have hl := lv_entry ([.ref a_th, .int p_c, .int p_h, .int p_m]) (n := 6) (Nat.le_of_ble_eq_true rfl)
  rw [lg_entry_eq]
  generalize (lg_sl ([.ref a_th, .int p_c, .int p_h, .int p_m]) ++ List.replicate (6 - (lg_sl ([.ref a_th, .int p_c, .int p_h, .int p_m])).length) Slot.unset).toArray = ls at hl ⊢
  replace hl : lv_has ls 6 [(0, .ref a_th), (1, .int p_c), (2, .int p_h), (3, .int p_m)] := hl
  refine lv_iconst (v := 0) hx hb dX7_lowestNext_0 (by decide +kernel) ?_
  refine lv_istore (lv' := [(4, .int 0), (0, .ref a_th), (1, .int p_c), (2, .int p_h), (3, .int p_m)]) hx hb dX7_lowestNext_1 hl (by decide +kernel) rfl ?_
  clear hl
  intro ls hl
  refine g5_loop (α := (Int32)) (fun (k_i : (Int32)) (ls : Array Slot) (H : Heap) (locs : List Loc) => lv_has ls 6 [(4, .int k_i), (0, .ref a_th), (1, .int p_c), (2, .int p_h), (3, .int p_m)] ∧ va_P G.1 vwCl [(a_th, (oc7 a_h a_k a_ba a_ad e_fu a_cn a_nx a_hp a_hl a_lv)), (a_hp, (arI G 1536 f_hp))] H ∧ va_D A [(a_th, (oc7 a_h a_k a_ba a_ad e_fu a_cn a_nx a_hp a_hl a_lv)), (a_hp, (arI G 1536 f_hp))] ∧ va_S A s.heap H locs ∧ (0 ≤ k_i.toInt ∧ k_i.toInt ≤ 5)) (fun (k_i : (Int32)) => Int.toNat (5 - k_i.toInt)) 0 ⟨lv_sub hl [0, 1, 2, 3, 4] rfl, hP, hD, hS, ⟨by decide, by decide⟩⟩ ?_
  rintro k_i ls H locs ⟨hl, hP, hD, hS, (i_1 : 0 ≤ k_i.toInt ∧ k_i.toInt ≤ 5)⟩ ih_3_2
  replace hl : lv_has ls 6 [(4, .int k_i), (0, .ref a_th), (1, .int p_c), (2, .int p_h), (3, .int p_m)] := hl
  refine g5_rs [(a_th, (oc7 a_h a_k a_ba a_ad e_fu a_cn a_nx a_hp a_hl a_lv)), (a_hp, (arI G 1536 f_hp))] hP hD ?_
  clear hP hD
  intro hP hD
  refine lv_iload hx hb dX7_lowestNext_3 (lv_at hl 0 rfl) ?_
  obtain ⟨tH, tL, tK, tV, tF, hZH, hTH, hZL, hTL, -⟩ := id hT
  refine va_getsN hx hb hZL hS hown (hN.1 _ g5_nw_X7_131) (fun _ h9 => h9) dX7_lowestNext_5 ?_
  refine va_tlen hx hb hTL hS (v := 5) (by decide +kernel) dX7_lowestNext_8 ?_
  refine lv_icmp_ge (tgt := 58) hx hb dX7_lowestNext_9 (by decide +kernel) (fun c_3 => ?_) (fun c_3 => ?_)
  ·
    have i_3 : k_i.toInt ≥ 5 := g5_ge (a := k_i.toInt) (b := 5) rfl (by decide +kernel) c_3
    refine lv_iload_n hx hb dX7_lowestNext_58 rfl (lv_at hl 2 rfl) ?_
    exact W.iret (v := p_c) hx hb hr (fun t ht hW => ⟨⟨p_c, [(a_th, (oc7 a_h a_k a_ba a_ad e_fu a_cn a_nx a_hp a_hl a_lv)), (a_hp, (arI G 1536 f_hp))], rfl, ⟨p_c, h_p_c, rfl, rfl⟩, by rw [ht]; exact hP.sub [0, 1] rfl, hD.sub [0, 1] (by decide +kernel) rfl⟩, hS.F ht⟩) hS.2.2 dX7_lowestNext_59
  ·
    have i_3 : k_i.toInt < 5 := g5_geN (a := k_i.toInt) (b := 5) rfl (by decide +kernel) c_3
    refine lv_iload_n hx hb dX7_lowestNext_12 rfl (lv_at hl 2 rfl) ?_
    obtain ⟨tH, tL, tK, tV, tF, hZH, hTH, hZL, hTL, -⟩ := id hT
    refine va_getsN hx hb hZL hS hown (hN.1 _ g5_nw_X7_131) (fun _ h9 => h9) dX7_lowestNext_13 ?_
    refine lv_iload hx hb dX7_lowestNext_16 (lv_at hl 0 rfl) ?_
    refine va_ti hx hb hTL hS (i := k_i) (vp_in_iff.mpr ⟨by omega, by omega⟩) (v := .int (g_low k_i.toNatClampNeg)) (g_low_eq _) dX7_lowestNext_18 ?_
    refine W.eq (g2 := F0 m 19 ls [.int (g_low k_i.toNatClampNeg), .int p_c]) rfl ?_
    obtain ⟨hPc, hDc, hFc⟩ := g5_sub3 (wc := []) hP hD hS hA [] (by decide +kernel) rfl
    refine va_calli (va_runSN (As := [.int p_c, .int (g_low k_i.toNatClampNeg)]) (rest := []) ⟨hx, hb, hml, hown, hts⟩ (k_beside l G H.size p_c (g_low k_i.toNatClampNeg) h_p_c) ⟨va_cnB 2 hts gW_X11_beside rfl rfl rfl (hN.1 _ g5_nw_X7_105) (hts _ ini_X11) hs_X11_beside ⟨Nat.le_of_ble_eq_true rfl, Nat.le_of_ble_eq_true rfl⟩, hts _ st_X11_beside, trivial⟩ (g5_preS hPc hK hDc hN hT hS hFc) rfl rfl hl.1 rfl (lv_room (Nat.le_of_ble_eq_true rfl)) dX7_lowestNext_19 ⟨Nat.le_of_ble_eq_true rfl, Nat.le_of_ble_eq_true rfl⟩) hS (fun q _ h => hFc q h) hFc (fun r u t H locs ht hvm hw hB hz1 hk1 hS => ?_)
    obtain ⟨hP1, hD1⟩ := hB
    have hP1 := g5_ht ht hP1
    obtain ⟨z6, (i_4 : z6.toInt = bs p_c.toInt (g_low k_i.toNatClampNeg).toInt), (i_5 : -1 ≤ z6.toInt ∧ z6.toInt ≤ 63), y7, rfl⟩ := hw
    have hJ9 := g5_same hP hk1
    clear hP hPc hDc hFc ht hvm hz1 hk1 hP1 hD1
    have hP := hJ9
    clear hJ9
    refine g5_ti (v := z6) y7 ?_
    refine lv_istore (lv' := [(5, .int z6), (4, .int k_i), (0, .ref a_th), (1, .int p_c), (2, .int p_h), (3, .int p_m)]) hx hb dX7_lowestNext_22 hl (by decide +kernel) rfl ?_
    clear hl
    intro ls hl
    refine lv_iload hx hb dX7_lowestNext_24 (lv_at hl 0 rfl) ?_
    refine lv_iconst (v := (-1)) hx hb dX7_lowestNext_26 (by decide +kernel) ?_
    refine lv_icmp_eq (tgt := 52) hx hb dX7_lowestNext_27 (by decide +kernel) (fun c_8 => ?_) (fun c_8 => ?_)
    ·
      have i_8 : z6.toInt = (-1) := g5_eq (a := z6.toInt) (b := (-1)) rfl (by decide +kernel) c_8
      refine lv_iinc (v := (k_i + 1)) (lv' := [(4, .int (k_i + 1)), (5, .int z6), (0, .ref a_th), (1, .int p_c), (2, .int p_h), (3, .int p_m)]) hx hb dX7_lowestNext_52 hl (k := 1) rfl rfl (by decide +kernel) rfl ?_
      clear hl
      intro ls hl
      have t_9 : (k_i + 1).toInt = k_i.toInt + 1 := g5_iadd (a := k_i.toInt) (b := 1) rfl (by decide +kernel) (by omega) (by omega)
      refine lv_goto (tgt := 3) hx hb dX7_lowestNext_55 (by decide +kernel) ?_
      exact ih_3_2 (k_i + 1) ls H locs (show Int.toNat (5 - (k_i + 1).toInt) < Int.toNat (5 - k_i.toInt) from g_up (show k_i.toInt < (k_i + 1).toInt by omega) (show k_i.toInt < 5 by omega)) ⟨lv_sub hl [0, 2, 3, 4, 5] rfl, hP, hD, hS, ⟨by omega, by omega⟩⟩
    ·
      have n_8 : gNe (z6.toInt) ((-1)) := g5_eqN (a := z6.toInt) (b := (-1)) rfl (by decide +kernel) c_8
      have i_8 : z6.toInt ≥ 0 := by have z := g5_eqN (a := z6.toInt) (b := (-1)) (by rfl) (by decide +kernel) c_8; omega
      refine lv_aload_n hx hb dX7_lowestNext_30 rfl (lv_at hl 2 rfl) ?_
      refine va_get (D := G.1) (ci := 7) (v := .ref a_hp) (C := RX7) (T := TX7) (N := 10) hx hb hts inG_X7 hown hK hP 0 rfl rfl 7 (by decide +kernel) (hts _ fl_X7_25) (fun _ h9 => h9) rfl dX7_lowestNext_31 ?_
      refine lv_iload_n hx hb dX7_lowestNext_34 rfl (lv_at hl 4 rfl) ?_
      refine lv_bipush (v := 64) hx hb dX7_lowestNext_35 (by decide +kernel) ?_
      refine W.eq (g2 := F0 m 37 ls [.int 64, .int p_h, .ref a_hp]) rfl ?_
      refine lv_imul hx hb dX7_lowestNext_37 ?_
      have t_10 : (p_h * 64).toInt = p_h.toInt * 64 := g5_imul (a := p_h.toInt) (b := 64) (by rfl) (by decide +kernel) (by omega) (by omega)
      refine lv_iload hx hb dX7_lowestNext_38 (lv_at hl 0 rfl) ?_
      refine lv_iadd hx hb dX7_lowestNext_40 ?_
      have t_11 : ((p_h * 64) + z6).toInt = (p_h * 64).toInt + z6.toInt := g5_iadd (a := (p_h * 64).toInt) (b := z6.toInt) (by rfl) (by rfl) (by omega) (by omega)
      refine va_iald hx hb hK hP 1 0 rfl rfl (i := ((p_h * 64) + z6)) (vp_in_iff.mpr ⟨by omega, by omega⟩) dX7_lowestNext_41 ?_
      refine lv_iload_n hx hb dX7_lowestNext_42 rfl (lv_at hl 5 rfl) ?_
      refine W.eq (g2 := F0 m 43 ls [.int p_m, .int (f_hp ((p_h * 64) + z6).toNatClampNeg)]) rfl ?_
      refine lv_iushr (v := (((f_hp ((p_h * 64) + z6).toNatClampNeg).toUInt32 >>> (p_m.toUInt32 &&& Int32.toUInt32 31)).toInt32)) hx hb dX7_lowestNext_43 rfl ?_
      refine lv_iconst (v := 1) hx hb dX7_lowestNext_44 (by decide +kernel) ?_
      refine lv_iand hx hb dX7_lowestNext_45 ?_
      refine lv_if_eq (tgt := 52) hx hb dX7_lowestNext_46 (by decide +kernel) (fun c_12 => ?_) (fun c_12 => ?_)
      ·
        have i_12 : ((((f_hp ((p_h * 64) + z6).toNatClampNeg).toUInt32 >>> (p_m.toUInt32 &&& Int32.toUInt32 31)).toInt32) &&& 1).toInt = 0 := g5_eq (a := ((((f_hp ((p_h * 64) + z6).toNatClampNeg).toUInt32 >>> (p_m.toUInt32 &&& Int32.toUInt32 31)).toInt32) &&& 1).toInt) (b := 0) rfl (by decide +kernel) c_12
        refine lv_iinc (v := (k_i + 1)) (lv' := [(4, .int (k_i + 1)), (5, .int z6), (0, .ref a_th), (1, .int p_c), (2, .int p_h), (3, .int p_m)]) hx hb dX7_lowestNext_52 hl (k := 1) rfl rfl (by decide +kernel) rfl ?_
        clear hl
        intro ls hl
        have t_13 : (k_i + 1).toInt = k_i.toInt + 1 := g5_iadd (a := k_i.toInt) (b := 1) rfl (by decide +kernel) (by omega) (by omega)
        refine lv_goto (tgt := 3) hx hb dX7_lowestNext_55 (by decide +kernel) ?_
        exact ih_3_2 (k_i + 1) ls H locs (show Int.toNat (5 - (k_i + 1).toInt) < Int.toNat (5 - k_i.toInt) from g_up (show k_i.toInt < (k_i + 1).toInt by omega) (show k_i.toInt < 5 by omega)) ⟨lv_sub hl [0, 2, 3, 4, 5] rfl, hP, hD, hS, ⟨by omega, by omega⟩⟩
      ·
        have n_12 : gNe (((((f_hp ((p_h * 64) + z6).toNatClampNeg).toUInt32 >>> (p_m.toUInt32 &&& Int32.toUInt32 31)).toInt32) &&& 1).toInt) (0) := g5_eqN (a := ((((f_hp ((p_h * 64) + z6).toNatClampNeg).toUInt32 >>> (p_m.toUInt32 &&& Int32.toUInt32 31)).toInt32) &&& 1).toInt) (b := 0) rfl (by decide +kernel) c_12
        refine lv_iload hx hb dX7_lowestNext_49 (lv_at hl 0 rfl) ?_
        exact W.iret (v := z6) hx hb hr (fun t ht hW => ⟨⟨z6, [(a_th, (oc7 a_h a_k a_ba a_ad e_fu a_cn a_nx a_hp a_hl a_lv)), (a_hp, (arI G 1536 f_hp))], rfl, ⟨z6, ⟨by omega, by omega⟩, rfl, rfl⟩, by rw [ht]; exact hP.sub [0, 1] rfl, hD.sub [0, 1] (by decide +kernel) rfl⟩, hS.F ht⟩) hS.2.2 dX7_lowestNext_51
theorem dgX7_firstRowAt_0 : ∀ r ∈ ([(0, (.aload_n 0, 1)), (1, (.invokevirtual 117, 3)), (4, (.ifCond .ne 5, 3)), (7, (.iconst (-1), 1)), (8, (.ireturn, 1)), (9, (.iconst 0, 1)), (10, (.istore_n 2, 1)), (11, (.iload_n 2, 1)), (12, (.bipush 63, 2)), (14, (.if_icmp .ge 20, 3)), (17, (.aload_n 0, 1)), (18, (.getfield 25, 3)), (21, (.iload_n 2, 1)), (22, (.iaload, 1)), (23, (.iconst 1, 1)), (24, (.iand, 1)), (25, (.ifCond .ne 9, 3)), (28, (.iinc 2 1, 3)), (31, (.goto (-20), 3)), (34, (.aload_n 0, 1)), (35, (.getfield 15, 3)), (38, (.iload_n 2, 1)), (39, (.iaload, 1)), (40, (.istore_n 3, 1)), (41, (.iconst 1, 1)), (42, (.istore 4, 2)), (44, (.iload 4, 2)), (46, (.iload_n 1, 1)), (47, (.if_icmp .gt 33, 3)), (50, (.aload_n 0, 1)), (51, (.iload_n 2, 1)), (52, (.iload 4, 2)), (54, (.iload_n 3, 1)), (55, (.invokevirtual 127, 3)), (58, (.istore_n 2, 1)), (59, (.iload_n 3, 1)), (60, (.aload_n 0, 1)), (61, (.getfield 15, 3)), (64, (.iload 4, 2)), (66, (.bipush 64, 2))] : List (Nat × (Instr × Nat))), decode cX7_firstRowAt r.1 = .ok r.2 := by decide +kernel
theorem dX7_firstRowAt_0 : decode cX7_firstRowAt 0 = .ok (.aload_n 0, 1) := dgX7_firstRowAt_0 (0, (.aload_n 0, 1)) (List.mem_of_getElem? (i := 0) rfl)
theorem dX7_firstRowAt_1 : decode cX7_firstRowAt 1 = .ok (.invokevirtual 117, 3) := dgX7_firstRowAt_0 (1, (.invokevirtual 117, 3)) (List.mem_of_getElem? (i := 1) rfl)
theorem dX7_firstRowAt_4 : decode cX7_firstRowAt 4 = .ok (.ifCond .ne 5, 3) := dgX7_firstRowAt_0 (4, (.ifCond .ne 5, 3)) (List.mem_of_getElem? (i := 2) rfl)
theorem dX7_firstRowAt_7 : decode cX7_firstRowAt 7 = .ok (.iconst (-1), 1) := dgX7_firstRowAt_0 (7, (.iconst (-1), 1)) (List.mem_of_getElem? (i := 3) rfl)
theorem dX7_firstRowAt_8 : decode cX7_firstRowAt 8 = .ok (.ireturn, 1) := dgX7_firstRowAt_0 (8, (.ireturn, 1)) (List.mem_of_getElem? (i := 4) rfl)
theorem dX7_firstRowAt_9 : decode cX7_firstRowAt 9 = .ok (.iconst 0, 1) := dgX7_firstRowAt_0 (9, (.iconst 0, 1)) (List.mem_of_getElem? (i := 5) rfl)
theorem dX7_firstRowAt_10 : decode cX7_firstRowAt 10 = .ok (.istore_n 2, 1) := dgX7_firstRowAt_0 (10, (.istore_n 2, 1)) (List.mem_of_getElem? (i := 6) rfl)
theorem dX7_firstRowAt_11 : decode cX7_firstRowAt 11 = .ok (.iload_n 2, 1) := dgX7_firstRowAt_0 (11, (.iload_n 2, 1)) (List.mem_of_getElem? (i := 7) rfl)
theorem dX7_firstRowAt_12 : decode cX7_firstRowAt 12 = .ok (.bipush 63, 2) := dgX7_firstRowAt_0 (12, (.bipush 63, 2)) (List.mem_of_getElem? (i := 8) rfl)
theorem dX7_firstRowAt_14 : decode cX7_firstRowAt 14 = .ok (.if_icmp .ge 20, 3) := dgX7_firstRowAt_0 (14, (.if_icmp .ge 20, 3)) (List.mem_of_getElem? (i := 9) rfl)
theorem dX7_firstRowAt_17 : decode cX7_firstRowAt 17 = .ok (.aload_n 0, 1) := dgX7_firstRowAt_0 (17, (.aload_n 0, 1)) (List.mem_of_getElem? (i := 10) rfl)
theorem dX7_firstRowAt_18 : decode cX7_firstRowAt 18 = .ok (.getfield 25, 3) := dgX7_firstRowAt_0 (18, (.getfield 25, 3)) (List.mem_of_getElem? (i := 11) rfl)
theorem dX7_firstRowAt_21 : decode cX7_firstRowAt 21 = .ok (.iload_n 2, 1) := dgX7_firstRowAt_0 (21, (.iload_n 2, 1)) (List.mem_of_getElem? (i := 12) rfl)
theorem dX7_firstRowAt_22 : decode cX7_firstRowAt 22 = .ok (.iaload, 1) := dgX7_firstRowAt_0 (22, (.iaload, 1)) (List.mem_of_getElem? (i := 13) rfl)
theorem dX7_firstRowAt_23 : decode cX7_firstRowAt 23 = .ok (.iconst 1, 1) := dgX7_firstRowAt_0 (23, (.iconst 1, 1)) (List.mem_of_getElem? (i := 14) rfl)
theorem dX7_firstRowAt_24 : decode cX7_firstRowAt 24 = .ok (.iand, 1) := dgX7_firstRowAt_0 (24, (.iand, 1)) (List.mem_of_getElem? (i := 15) rfl)
theorem dX7_firstRowAt_25 : decode cX7_firstRowAt 25 = .ok (.ifCond .ne 9, 3) := dgX7_firstRowAt_0 (25, (.ifCond .ne 9, 3)) (List.mem_of_getElem? (i := 16) rfl)
theorem dX7_firstRowAt_28 : decode cX7_firstRowAt 28 = .ok (.iinc 2 1, 3) := dgX7_firstRowAt_0 (28, (.iinc 2 1, 3)) (List.mem_of_getElem? (i := 17) rfl)
theorem dX7_firstRowAt_31 : decode cX7_firstRowAt 31 = .ok (.goto (-20), 3) := dgX7_firstRowAt_0 (31, (.goto (-20), 3)) (List.mem_of_getElem? (i := 18) rfl)
theorem dX7_firstRowAt_34 : decode cX7_firstRowAt 34 = .ok (.aload_n 0, 1) := dgX7_firstRowAt_0 (34, (.aload_n 0, 1)) (List.mem_of_getElem? (i := 19) rfl)
theorem dX7_firstRowAt_35 : decode cX7_firstRowAt 35 = .ok (.getfield 15, 3) := dgX7_firstRowAt_0 (35, (.getfield 15, 3)) (List.mem_of_getElem? (i := 20) rfl)
theorem dX7_firstRowAt_38 : decode cX7_firstRowAt 38 = .ok (.iload_n 2, 1) := dgX7_firstRowAt_0 (38, (.iload_n 2, 1)) (List.mem_of_getElem? (i := 21) rfl)
theorem dX7_firstRowAt_39 : decode cX7_firstRowAt 39 = .ok (.iaload, 1) := dgX7_firstRowAt_0 (39, (.iaload, 1)) (List.mem_of_getElem? (i := 22) rfl)
theorem dX7_firstRowAt_40 : decode cX7_firstRowAt 40 = .ok (.istore_n 3, 1) := dgX7_firstRowAt_0 (40, (.istore_n 3, 1)) (List.mem_of_getElem? (i := 23) rfl)
theorem dX7_firstRowAt_41 : decode cX7_firstRowAt 41 = .ok (.iconst 1, 1) := dgX7_firstRowAt_0 (41, (.iconst 1, 1)) (List.mem_of_getElem? (i := 24) rfl)
theorem dX7_firstRowAt_42 : decode cX7_firstRowAt 42 = .ok (.istore 4, 2) := dgX7_firstRowAt_0 (42, (.istore 4, 2)) (List.mem_of_getElem? (i := 25) rfl)
theorem dX7_firstRowAt_44 : decode cX7_firstRowAt 44 = .ok (.iload 4, 2) := dgX7_firstRowAt_0 (44, (.iload 4, 2)) (List.mem_of_getElem? (i := 26) rfl)
theorem dX7_firstRowAt_46 : decode cX7_firstRowAt 46 = .ok (.iload_n 1, 1) := dgX7_firstRowAt_0 (46, (.iload_n 1, 1)) (List.mem_of_getElem? (i := 27) rfl)
theorem dX7_firstRowAt_47 : decode cX7_firstRowAt 47 = .ok (.if_icmp .gt 33, 3) := dgX7_firstRowAt_0 (47, (.if_icmp .gt 33, 3)) (List.mem_of_getElem? (i := 28) rfl)
theorem dX7_firstRowAt_50 : decode cX7_firstRowAt 50 = .ok (.aload_n 0, 1) := dgX7_firstRowAt_0 (50, (.aload_n 0, 1)) (List.mem_of_getElem? (i := 29) rfl)
theorem dX7_firstRowAt_51 : decode cX7_firstRowAt 51 = .ok (.iload_n 2, 1) := dgX7_firstRowAt_0 (51, (.iload_n 2, 1)) (List.mem_of_getElem? (i := 30) rfl)
theorem dX7_firstRowAt_52 : decode cX7_firstRowAt 52 = .ok (.iload 4, 2) := dgX7_firstRowAt_0 (52, (.iload 4, 2)) (List.mem_of_getElem? (i := 31) rfl)
theorem dX7_firstRowAt_54 : decode cX7_firstRowAt 54 = .ok (.iload_n 3, 1) := dgX7_firstRowAt_0 (54, (.iload_n 3, 1)) (List.mem_of_getElem? (i := 32) rfl)
theorem dX7_firstRowAt_55 : decode cX7_firstRowAt 55 = .ok (.invokevirtual 127, 3) := dgX7_firstRowAt_0 (55, (.invokevirtual 127, 3)) (List.mem_of_getElem? (i := 33) rfl)
theorem dX7_firstRowAt_58 : decode cX7_firstRowAt 58 = .ok (.istore_n 2, 1) := dgX7_firstRowAt_0 (58, (.istore_n 2, 1)) (List.mem_of_getElem? (i := 34) rfl)
theorem dX7_firstRowAt_59 : decode cX7_firstRowAt 59 = .ok (.iload_n 3, 1) := dgX7_firstRowAt_0 (59, (.iload_n 3, 1)) (List.mem_of_getElem? (i := 35) rfl)
theorem dX7_firstRowAt_60 : decode cX7_firstRowAt 60 = .ok (.aload_n 0, 1) := dgX7_firstRowAt_0 (60, (.aload_n 0, 1)) (List.mem_of_getElem? (i := 36) rfl)
theorem dX7_firstRowAt_61 : decode cX7_firstRowAt 61 = .ok (.getfield 15, 3) := dgX7_firstRowAt_0 (61, (.getfield 15, 3)) (List.mem_of_getElem? (i := 37) rfl)
theorem dX7_firstRowAt_64 : decode cX7_firstRowAt 64 = .ok (.iload 4, 2) := dgX7_firstRowAt_0 (64, (.iload 4, 2)) (List.mem_of_getElem? (i := 38) rfl)
theorem dX7_firstRowAt_66 : decode cX7_firstRowAt 66 = .ok (.bipush 64, 2) := dgX7_firstRowAt_0 (66, (.bipush 64, 2)) (List.mem_of_getElem? (i := 39) rfl)
theorem dgX7_firstRowAt_1 : ∀ r ∈ ([(68, (.imul, 1)), (69, (.iload_n 2, 1)), (70, (.iadd, 1)), (71, (.iaload, 1)), (72, (.ior, 1)), (73, (.istore_n 3, 1)), (74, (.iinc 4 1, 3)), (77, (.goto (-33), 3)), (80, (.iload_n 2, 1)), (81, (.ireturn, 1))] : List (Nat × (Instr × Nat))), decode cX7_firstRowAt r.1 = .ok r.2 := by decide +kernel
theorem dX7_firstRowAt_68 : decode cX7_firstRowAt 68 = .ok (.imul, 1) := dgX7_firstRowAt_1 (68, (.imul, 1)) (List.mem_of_getElem? (i := 0) rfl)
theorem dX7_firstRowAt_69 : decode cX7_firstRowAt 69 = .ok (.iload_n 2, 1) := dgX7_firstRowAt_1 (69, (.iload_n 2, 1)) (List.mem_of_getElem? (i := 1) rfl)
theorem dX7_firstRowAt_70 : decode cX7_firstRowAt 70 = .ok (.iadd, 1) := dgX7_firstRowAt_1 (70, (.iadd, 1)) (List.mem_of_getElem? (i := 2) rfl)
theorem dX7_firstRowAt_71 : decode cX7_firstRowAt 71 = .ok (.iaload, 1) := dgX7_firstRowAt_1 (71, (.iaload, 1)) (List.mem_of_getElem? (i := 3) rfl)
theorem dX7_firstRowAt_72 : decode cX7_firstRowAt 72 = .ok (.ior, 1) := dgX7_firstRowAt_1 (72, (.ior, 1)) (List.mem_of_getElem? (i := 4) rfl)
theorem dX7_firstRowAt_73 : decode cX7_firstRowAt 73 = .ok (.istore_n 3, 1) := dgX7_firstRowAt_1 (73, (.istore_n 3, 1)) (List.mem_of_getElem? (i := 5) rfl)
theorem dX7_firstRowAt_74 : decode cX7_firstRowAt 74 = .ok (.iinc 4 1, 3) := dgX7_firstRowAt_1 (74, (.iinc 4 1, 3)) (List.mem_of_getElem? (i := 6) rfl)
theorem dX7_firstRowAt_77 : decode cX7_firstRowAt 77 = .ok (.goto (-33), 3) := dgX7_firstRowAt_1 (77, (.goto (-33), 3)) (List.mem_of_getElem? (i := 7) rfl)
theorem dX7_firstRowAt_80 : decode cX7_firstRowAt 80 = .ok (.iload_n 2, 1) := dgX7_firstRowAt_1 (80, (.iload_n 2, 1)) (List.mem_of_getElem? (i := 8) rfl)
theorem dX7_firstRowAt_81 : decode cX7_firstRowAt 81 = .ok (.ireturn, 1) := dgX7_firstRowAt_1 (81, (.ireturn, 1)) (List.mem_of_getElem? (i := 9) rfl)
theorem ml_X7_117 : Cond.methodLink RX7 117 yX7_anyFits ∈ tblG := tg 996 (by decide +kernel) (by decide +kernel)
theorem im_X7_anyFits : Cond.instanceMethod yX7_anyFits ∈ tblG := tg 998 (by decide +kernel) (by decide +kernel)
theorem se_X7_anyFits : Cond.selects RX7 yX7_anyFits yX7_anyFits ∈ tblG := tg 22 (by decide +kernel) (by decide +kernel)
theorem cd_X7_anyFits : Cond.code yX7_anyFits cX7_anyFits 5 (some .boolean) ∈ tblG := tg 999 (by decide +kernel) (by decide +kernel)
theorem gW_X7_anyFits : GoodIn tblG (wsG yX7_anyFits cX7_anyFits 5 (some .boolean)) := tgi cd_X7_anyFits
theorem gV_X7_117 : GoodIn tblG (wsV RX7 117 RX7 yX7_anyFits (wsG yX7_anyFits cX7_anyFits 5 (some .boolean))) := tgV ml_X7_117 im_X7_anyFits se_X7_anyFits ini_X7 gW_X7_anyFits
theorem hv_X7_anyFits : yX7_anyFits.cls = RX7 ∧ yX7_anyFits.cls ≠ "java/lang/invoke/MethodHandle" ∧ yX7_anyFits.cls ≠ "java/lang/invoke/VarHandle" ∧ (parseMethodDescriptor yX7_anyFits.desc).map (fun d => d.parameters.length) = some 0 := by decide +kernel
theorem ml_X7_127 : Cond.methodLink RX7 127 yX7_lowestNext ∈ tblG := tg 1024 (by decide +kernel) (by decide +kernel)
theorem im_X7_lowestNext : Cond.instanceMethod yX7_lowestNext ∈ tblG := tg 1026 (by decide +kernel) (by decide +kernel)
theorem se_X7_lowestNext : Cond.selects RX7 yX7_lowestNext yX7_lowestNext ∈ tblG := tg 25 (by decide +kernel) (by decide +kernel)
theorem cd_X7_lowestNext : Cond.code yX7_lowestNext cX7_lowestNext 6 (some .int) ∈ tblG := tg 1027 (by decide +kernel) (by decide +kernel)
theorem gW_X7_lowestNext : GoodIn tblG (wsG yX7_lowestNext cX7_lowestNext 6 (some .int)) := tgi cd_X7_lowestNext
theorem gV_X7_127 : GoodIn tblG (wsV RX7 127 RX7 yX7_lowestNext (wsG yX7_lowestNext cX7_lowestNext 6 (some .int))) := tgV ml_X7_127 im_X7_lowestNext se_X7_lowestNext ini_X7 gW_X7_lowestNext
theorem hv_X7_lowestNext : yX7_lowestNext.cls = RX7 ∧ yX7_lowestNext.cls ≠ "java/lang/invoke/MethodHandle" ∧ yX7_lowestNext.cls ≠ "java/lang/invoke/VarHandle" ∧ (parseMethodDescriptor yX7_lowestNext.desc).map (fun d => d.parameters.length) = some 3 := by decide +kernel
set_option maxHeartbeats 4000000 in
set_option maxRecDepth 100000 in
theorem th_row (l : Launch) (G : g5_G) (a_th a_ba a_ad a_hp a_h a_k a_cn a_nx a_hl a_lv : Nat) (sz : Nat) (e_fu : Int32) (p_h : Int32) (f_ba : Nat → Int64) (f_ad : Nat → Int32) (f_hp : Nat → Int32) (h_p_h : 0 ≤ p_h.toInt ∧ p_h.toInt ≤ 23) : Met l yX7_firstRowAt (wsG yX7_firstRowAt cX7_firstRowAt 5 (some .int)) ({ frames := 3, cells := 0, slots := 0, locals := 70 }) (va_Pc [.ref a_th, .int p_h] (g5_P G [(a_th, (oc7 a_h a_k a_ba a_ad e_fu a_cn a_nx a_hp a_hl a_lv)), (a_ba, (arJ G 24 f_ba)), (a_ad, (arI G 1536 f_ad)), (a_hp, (arI G 1536 f_hp))] sz)) (va_Qi (fun (r : Int32) (u : va_W) => (∃ (o_r : Int32) (o_f : Nat → Int32), (-1 ≤ o_r.toInt ∧ o_r.toInt ≤ 63) ∧ (r = o_r) ∧ (u = [(a_th, (oc7 a_h a_k a_ba a_ad e_fu a_cn a_nx a_hp a_hl a_lv)), (a_ba, (arJ G 24 f_ba)), (a_ad, (arI G 1536 f_ad)), (a_hp, (arI G 1536 o_f))]))) (g5_B G (va_A [(a_th, (oc7 a_h a_k a_ba a_ad e_fu a_cn a_nx a_hp a_hl a_lv)), (a_ba, (arJ G 24 f_ba)), (a_ad, (arI G 1536 f_ad)), (a_hp, (arI G 1536 f_hp))] sz)) (va_A [(a_th, (oc7 a_h a_k a_ba a_ad e_fu a_cn a_nx a_hp a_hl a_lv)), (a_ba, (arJ G 24 f_ba)), (a_ad, (arI G 1536 f_ad)), (a_hp, (arI G 1536 f_hp))] sz)) 0 0 (va_A [(a_th, (oc7 a_h a_k a_ba a_ad e_fu a_cn a_nx a_hp a_hl a_lv)), (a_ba, (arJ G 24 f_ba)), (a_ad, (arI G 1536 f_ad)), (a_hp, (arI G 1536 f_hp))] sz) := by
  refine Met.ofW (cc := cX7_firstRowAt) (maxL := 5) (ret := (some .int)) (by decide +kernel) rfl ?_
  intro p e s m args below meth c s₁ B hml hv
  obtain ⟨rfl, hsz, hP, hK, hD0, hN, hT⟩ := hv
  have hx := B.exec
  have hb := B.bytes
  have hr := B.returns
  have hts : ∀ w ∈ tblG, w.before _ s = true := fun w h => atoms_spec (ws := (wsG yX7_firstRowAt cX7_firstRowAt 5 (some .int))) B.pre w (List.mem_cons_of_mem _ h)
  have hown : s.vm.findClass RX7 = some m.cls := findClass_of_methodNamed B.named
  have hlocks := B.notSynchronized
  subst hsz
  have hD := hD0.self (sz := s.heap.size)
  generalize hAe : va_A [(a_th, (oc7 a_h a_k a_ba a_ad e_fu a_cn a_nx a_hp a_hl a_lv)), (a_ba, (arJ G 24 f_ba)), (a_ad, (arI G 1536 f_ad)), (a_hp, (arI G 1536 f_hp))] s.heap.size = A at hD hT ⊢
  have hA : ∀ q : Nat, s.heap.size ≤ q → A q := fun q h => by rw [← hAe]; exact Or.inr h
  have hS : va_S A s.heap s.heap [] := va_S.rf
  replace hP : va_P G.1 vwCl [(a_th, (oc7 a_h a_k a_ba a_ad e_fu a_cn a_nx a_hp a_hl a_lv)), (a_ba, (arJ G 24 f_ba)), (a_ad, (arI G 1536 f_ad)), (a_hp, (arI G 1536 f_hp))] s.heap := hP
  have hl := lv_entry ([.ref a_th, .int p_h]) (n := 5) (Nat.le_of_ble_eq_true rfl)
  rw [lg_entry_eq]
  generalize (lg_sl ([.ref a_th, .int p_h]) ++ List.replicate (5 - (lg_sl ([.ref a_th, .int p_h])).length) Slot.unset).toArray = ls at hl ⊢
  replace hl : lv_has ls 5 [(0, .ref a_th), (1, .int p_h)] := hl
  refine lv_aload_n hx hb dX7_firstRowAt_0 rfl (lv_at hl 0 rfl) ?_
  obtain ⟨hPc, hDc, hFc⟩ := g5_sub3 (wc := [(a_th, (oc7 a_h a_k a_ba a_ad e_fu a_cn a_nx a_hp a_hl a_lv)), (a_ba, (arJ G 24 f_ba)), (a_ad, (arI G 1536 f_ad)), (a_hp, (arI G 1536 f_hp))]) hP hD hS hA [0, 1, 2, 3] (by decide +kernel) rfl
  refine va_calli (va_runV (As := []) (rest := []) ⟨hx, hb, hml, hown, hts⟩ (th_anyFits l G a_th a_ba a_ad a_hp a_h a_k a_cn a_nx a_hl a_lv s.heap.size e_fu f_ba f_ad f_hp) (cwV 0 hts gV_X7_117 rfl rfl rfl hv_X7_anyFits ⟨Nat.le_of_ble_eq_true rfl, Nat.le_of_ble_eq_true rfl⟩) (g5_preV hPc hK hDc hN hT hS hFc (ci := 7) (q0 := 0) rfl rfl) rfl rfl hl.1 rfl (lv_room (Nat.le_of_ble_eq_true rfl)) dX7_firstRowAt_1 ⟨Nat.le_of_ble_eq_true rfl, Nat.le_of_ble_eq_true rfl⟩) hS (fun q _ h => hFc q h) hFc (fun r u t H locs ht hvm hw hB hz1 hk1 hS => ?_)
  obtain ⟨hP1, hD1⟩ := hB
  have hP1 := g5_ht ht hP1
  obtain ⟨z2, z3, (i_1 : 0 ≤ z2.toInt ∧ z2.toInt ≤ 1), y4, rfl⟩ := hw
  have hJ9 := va_join (wr := []) hP hD [0, 1, 2, 3] [] rfl rfl (by decide +kernel) (by decide +kernel) hk1 hFc hP1 hD1
  clear hP hD hPc hDc hFc ht hvm hz1 hk1 hP1 hD1
  obtain ⟨hP, hD⟩ := hJ9
  refine g5_rs [(a_th, (oc7 a_h a_k a_ba a_ad e_fu a_cn a_nx a_hp a_hl a_lv)), (a_ba, (arJ G 24 f_ba)), (a_ad, (arI G 1536 f_ad)), (a_hp, (arI G 1536 z3))] hP hD ?_
  clear hP hD
  intro hP hD
  refine g5_ti (v := z2) y4 ?_
  refine lv_if_ne (tgt := 9) hx hb dX7_firstRowAt_4 (by decide +kernel) (fun c_5 => ?_) (fun c_5 => ?_)
  ·
    have n_5 : gNe (z2.toInt) (0) := g5_ne (a := z2.toInt) (b := 0) rfl (by decide +kernel) c_5
    have i_5 : z2.toInt ≥ 1 := by have z := g5_ne (a := z2.toInt) (b := 0) (by rfl) (by decide +kernel) c_5; omega
    refine lv_iconst (v := 0) hx hb dX7_firstRowAt_9 (by decide +kernel) ?_
    refine lv_istore_n (lv' := [(2, .int 0), (0, .ref a_th), (1, .int p_h)]) hx hb dX7_firstRowAt_10 rfl hl (by decide +kernel) rfl ?_
    clear hl
    intro ls hl
    refine g5_loop (α := (Int32)) (fun (k_a : (Int32)) (ls : Array Slot) (H : Heap) (locs : List Loc) => lv_has ls 5 [(2, .int k_a), (0, .ref a_th), (1, .int p_h)] ∧ va_P G.1 vwCl [(a_th, (oc7 a_h a_k a_ba a_ad e_fu a_cn a_nx a_hp a_hl a_lv)), (a_ba, (arJ G 24 f_ba)), (a_ad, (arI G 1536 f_ad)), (a_hp, (arI G 1536 z3))] H ∧ va_D A [(a_th, (oc7 a_h a_k a_ba a_ad e_fu a_cn a_nx a_hp a_hl a_lv)), (a_ba, (arJ G 24 f_ba)), (a_ad, (arI G 1536 f_ad)), (a_hp, (arI G 1536 z3))] ∧ va_S A s.heap H locs ∧ (0 ≤ k_a.toInt ∧ k_a.toInt ≤ 63)) (fun (k_a : (Int32)) => Int.toNat (63 - k_a.toInt)) 0 ⟨lv_sub hl [0, 1, 2] rfl, hP, hD, hS, ⟨by decide, by decide⟩⟩ ?_
    rintro k_a ls H locs ⟨hl, hP, hD, hS, (i_6 : 0 ≤ k_a.toInt ∧ k_a.toInt ≤ 63)⟩ ih_11_7
    replace hl : lv_has ls 5 [(2, .int k_a), (0, .ref a_th), (1, .int p_h)] := hl
    refine g5_rs [(a_th, (oc7 a_h a_k a_ba a_ad e_fu a_cn a_nx a_hp a_hl a_lv)), (a_ba, (arJ G 24 f_ba)), (a_ad, (arI G 1536 f_ad)), (a_hp, (arI G 1536 z3))] hP hD ?_
    clear hP hD
    intro hP hD
    refine lv_iload_n hx hb dX7_firstRowAt_11 rfl (lv_at hl 0 rfl) ?_
    refine lv_bipush (v := 63) hx hb dX7_firstRowAt_12 (by decide +kernel) ?_
    refine lv_icmp_ge (tgt := 34) hx hb dX7_firstRowAt_14 (by decide +kernel) (fun c_8 => ?_) (fun c_8 => ?_)
    ·
      have i_8 : k_a.toInt ≥ 63 := g5_ge (a := k_a.toInt) (b := 63) rfl (by decide +kernel) c_8
      refine lv_aload_n hx hb dX7_firstRowAt_34 rfl (lv_at hl 1 rfl) ?_
      refine va_get (D := G.1) (ci := 7) (v := .ref a_ad) (C := RX7) (T := TX7) (N := 10) hx hb hts inG_X7 hown hK hP 0 rfl rfl 3 (by decide +kernel) (hts _ fl_X7_15) (fun _ h9 => h9) rfl dX7_firstRowAt_35 ?_
      refine lv_iload_n hx hb dX7_firstRowAt_38 rfl (lv_at hl 0 rfl) ?_
      refine va_iald hx hb hK hP 2 0 rfl rfl (i := k_a) (vp_in_iff.mpr ⟨by omega, by omega⟩) dX7_firstRowAt_39 ?_
      refine W.eq (g2 := F0 m 40 ls [.int (f_ad k_a.toNatClampNeg)]) rfl ?_
      refine lv_istore_n (lv' := [(3, .int (f_ad k_a.toNatClampNeg)), (2, .int k_a), (0, .ref a_th), (1, .int p_h)]) hx hb dX7_firstRowAt_40 rfl hl (by decide +kernel) rfl ?_
      clear hl
      intro ls hl
      refine lv_iconst (v := 1) hx hb dX7_firstRowAt_41 (by decide +kernel) ?_
      refine lv_istore (lv' := [(4, .int 1), (3, .int (f_ad k_a.toNatClampNeg)), (2, .int k_a), (0, .ref a_th), (1, .int p_h)]) hx hb dX7_firstRowAt_42 hl (by decide +kernel) rfl ?_
      clear hl
      intro ls hl
      refine g5_loop (α := (Int32) × (Int32) × (Int32)) (fun (q : (Int32) × (Int32) × (Int32)) (ls : Array Slot) (H : Heap) (locs : List Loc) => match q with | (m_a, m_m, m_h) => lv_has ls 5 [(2, .int m_a), (3, .int m_m), (4, .int m_h), (0, .ref a_th), (1, .int p_h)] ∧ va_P G.1 vwCl [(a_th, (oc7 a_h a_k a_ba a_ad e_fu a_cn a_nx a_hp a_hl a_lv)), (a_ba, (arJ G 24 f_ba)), (a_ad, (arI G 1536 f_ad)), (a_hp, (arI G 1536 z3))] H ∧ va_D A [(a_th, (oc7 a_h a_k a_ba a_ad e_fu a_cn a_nx a_hp a_hl a_lv)), (a_ba, (arJ G 24 f_ba)), (a_ad, (arI G 1536 f_ad)), (a_hp, (arI G 1536 z3))] ∧ va_S A s.heap H locs ∧ (0 ≤ m_a.toInt ∧ m_a.toInt ≤ 63) ∧ (1 ≤ m_h.toInt ∧ m_h.toInt ≤ 24)) (fun (q : (Int32) × (Int32) × (Int32)) => match q with | (m_a, m_m, m_h) => Int.toNat (24 - m_h.toInt)) (k_a, (f_ad k_a.toNatClampNeg), 1) ⟨lv_sub hl [2, 1, 0, 3, 4] rfl, hP, hD, hS, i_6, ⟨by decide, by decide⟩⟩ ?_
      rintro ⟨m_a, m_m, m_h⟩ ls H locs ⟨hl, hP, hD, hS, (i_9 : 0 ≤ m_a.toInt ∧ m_a.toInt ≤ 63), (i_10 : 1 ≤ m_h.toInt ∧ m_h.toInt ≤ 24)⟩ ih_44_11
      replace hl : lv_has ls 5 [(2, .int m_a), (3, .int m_m), (4, .int m_h), (0, .ref a_th), (1, .int p_h)] := hl
      refine g5_rs [(a_th, (oc7 a_h a_k a_ba a_ad e_fu a_cn a_nx a_hp a_hl a_lv)), (a_ba, (arJ G 24 f_ba)), (a_ad, (arI G 1536 f_ad)), (a_hp, (arI G 1536 z3))] hP hD ?_
      clear hP hD
      intro hP hD
      refine lv_iload hx hb dX7_firstRowAt_44 (lv_at hl 2 rfl) ?_
      refine lv_iload_n hx hb dX7_firstRowAt_46 rfl (lv_at hl 4 rfl) ?_
      refine lv_icmp_gt (tgt := 80) hx hb dX7_firstRowAt_47 (by decide +kernel) (fun c_12 => ?_) (fun c_12 => ?_)
      ·
        have i_12 : m_h.toInt > p_h.toInt := g5_gt (a := m_h.toInt) (b := p_h.toInt) rfl rfl c_12
        refine lv_iload_n hx hb dX7_firstRowAt_80 rfl (lv_at hl 0 rfl) ?_
        exact W.iret (v := m_a) hx hb hr (fun t ht hW => ⟨⟨m_a, [(a_th, (oc7 a_h a_k a_ba a_ad e_fu a_cn a_nx a_hp a_hl a_lv)), (a_ba, (arJ G 24 f_ba)), (a_ad, (arI G 1536 f_ad)), (a_hp, (arI G 1536 z3))], rfl, ⟨m_a, z3, ⟨by omega, by omega⟩, rfl, rfl⟩, by rw [ht]; exact hP.sub [0, 1, 2, 3] rfl, hD.sub [0, 1, 2, 3] (by decide +kernel) rfl⟩, hS.F ht⟩) hS.2.2 dX7_firstRowAt_81
      ·
        have i_12 : m_h.toInt ≤ p_h.toInt := g5_gtN (a := m_h.toInt) (b := p_h.toInt) rfl rfl c_12
        refine lv_aload_n hx hb dX7_firstRowAt_50 rfl (lv_at hl 3 rfl) ?_
        refine lv_iload_n hx hb dX7_firstRowAt_51 rfl (lv_at hl 0 rfl) ?_
        refine lv_iload hx hb dX7_firstRowAt_52 (lv_at hl 2 rfl) ?_
        refine lv_iload_n hx hb dX7_firstRowAt_54 rfl (lv_at hl 1 rfl) ?_
        refine W.eq (g2 := F0 m 55 ls [.int m_m, .int m_h, .int m_a, .ref a_th]) rfl ?_
        obtain ⟨hPc, hDc, hFc⟩ := g5_sub3 (wc := [(a_th, (oc7 a_h a_k a_ba a_ad e_fu a_cn a_nx a_hp a_hl a_lv)), (a_hp, (arI G 1536 z3))]) hP hD hS hA [0, 3] (by decide +kernel) rfl
        refine va_calli (va_runV (As := [.int m_a, .int m_h, .int m_m]) (rest := []) ⟨hx, hb, hml, hown, hts⟩ (th_next l G a_th a_hp a_h a_k a_ba a_ad a_cn a_nx a_hl a_lv H.size e_fu m_a m_h m_m z3 i_9 ⟨by omega, by omega⟩) (cwV 3 hts gV_X7_127 rfl rfl rfl hv_X7_lowestNext ⟨Nat.le_of_ble_eq_true rfl, Nat.le_of_ble_eq_true rfl⟩) (g5_preV hPc hK hDc hN hT hS hFc (ci := 7) (q0 := 0) rfl rfl) rfl rfl hl.1 rfl (lv_room (Nat.le_of_ble_eq_true rfl)) dX7_firstRowAt_55 ⟨Nat.le_of_ble_eq_true rfl, Nat.le_of_ble_eq_true rfl⟩) hS (fun q _ h => hFc q h) hFc (fun r u t H locs ht hvm hw hB hz1 hk1 hS => ?_)
        obtain ⟨hP1, hD1⟩ := hB
        have hP1 := g5_ht ht hP1
        obtain ⟨z14, (i_13 : 0 ≤ z14.toInt ∧ z14.toInt ≤ 63), y15, rfl⟩ := hw
        have hJ9 := va_join (wr := [(a_ba, (arJ G 24 f_ba)), (a_ad, (arI G 1536 f_ad))]) hP hD [0, 3] [1, 2] rfl rfl (by decide +kernel) (by decide +kernel) hk1 hFc hP1 hD1
        clear hP hD hPc hDc hFc ht hvm hz1 hk1 hP1 hD1
        obtain ⟨hP, hD⟩ := hJ9
        refine g5_rs [(a_ba, (arJ G 24 f_ba)), (a_ad, (arI G 1536 f_ad)), (a_th, (oc7 a_h a_k a_ba a_ad e_fu a_cn a_nx a_hp a_hl a_lv)), (a_hp, (arI G 1536 z3))] hP hD ?_
        clear hP hD
        intro hP hD
        refine g5_ti (v := z14) y15 ?_
        refine lv_istore_n (lv' := [(2, .int z14), (3, .int m_m), (4, .int m_h), (0, .ref a_th), (1, .int p_h)]) hx hb dX7_firstRowAt_58 rfl hl (by decide +kernel) rfl ?_
        clear hl
        intro ls hl
        refine lv_iload_n hx hb dX7_firstRowAt_59 rfl (lv_at hl 1 rfl) ?_
        refine lv_aload_n hx hb dX7_firstRowAt_60 rfl (lv_at hl 3 rfl) ?_
        refine va_get (D := G.1) (ci := 7) (v := .ref a_ad) (C := RX7) (T := TX7) (N := 10) hx hb hts inG_X7 hown hK hP 2 rfl rfl 3 (by decide +kernel) (hts _ fl_X7_15) (fun _ h9 => h9) rfl dX7_firstRowAt_61 ?_
        refine W.eq (g2 := F0 m 64 ls [.ref a_ad, .int m_m]) rfl ?_
        refine lv_iload hx hb dX7_firstRowAt_64 (lv_at hl 2 rfl) ?_
        refine lv_bipush (v := 64) hx hb dX7_firstRowAt_66 (by decide +kernel) ?_
        refine lv_imul hx hb dX7_firstRowAt_68 ?_
        have t_16 : (m_h * 64).toInt = m_h.toInt * 64 := g5_imul (a := m_h.toInt) (b := 64) (by rfl) (by decide +kernel) (by omega) (by omega)
        refine lv_iload_n hx hb dX7_firstRowAt_69 rfl (lv_at hl 0 rfl) ?_
        refine lv_iadd hx hb dX7_firstRowAt_70 ?_
        have t_17 : ((m_h * 64) + z14).toInt = (m_h * 64).toInt + z14.toInt := g5_iadd (a := (m_h * 64).toInt) (b := z14.toInt) (by rfl) (by rfl) (by omega) (by omega)
        refine W.eq (g2 := F0 m 71 ls [.int ((m_h * 64) + z14), .ref a_ad, .int m_m]) rfl ?_
        refine va_iald hx hb hK hP 1 0 rfl rfl (i := ((m_h * 64) + z14)) (vp_in_iff.mpr ⟨by omega, by omega⟩) dX7_firstRowAt_71 ?_
        refine lv_ior hx hb dX7_firstRowAt_72 ?_
        refine lv_istore_n (lv' := [(3, .int (m_m ||| (f_ad ((m_h * 64) + z14).toNatClampNeg))), (2, .int z14), (4, .int m_h), (0, .ref a_th), (1, .int p_h)]) hx hb dX7_firstRowAt_73 rfl hl (by decide +kernel) rfl ?_
        clear hl
        intro ls hl
        refine lv_iinc (v := (m_h + 1)) (lv' := [(4, .int (m_h + 1)), (3, .int (m_m ||| (f_ad ((m_h * 64) + z14).toNatClampNeg))), (2, .int z14), (0, .ref a_th), (1, .int p_h)]) hx hb dX7_firstRowAt_74 hl (k := 2) rfl rfl (by decide +kernel) rfl ?_
        clear hl
        intro ls hl
        have t_18 : (m_h + 1).toInt = m_h.toInt + 1 := g5_iadd (a := m_h.toInt) (b := 1) rfl (by decide +kernel) (by omega) (by omega)
        refine lv_goto (tgt := 44) hx hb dX7_firstRowAt_77 (by decide +kernel) ?_
        exact ih_44_11 (z14, (m_m ||| (f_ad ((m_h * 64) + z14).toNatClampNeg)), (m_h + 1)) ls H locs (show Int.toNat (24 - (m_h + 1).toInt) < Int.toNat (24 - m_h.toInt) from g_up (show m_h.toInt < (m_h + 1).toInt by omega) (show m_h.toInt < 24 by omega)) ⟨lv_sub hl [2, 1, 0, 3, 4] rfl, hP.sub [2, 0, 1, 3] rfl, hD.sub [2, 0, 1, 3] (by decide +kernel) rfl, hS, i_13, ⟨by omega, by omega⟩⟩
    ·
      have i_8 : k_a.toInt < 63 := g5_geN (a := k_a.toInt) (b := 63) rfl (by decide +kernel) c_8
      refine lv_aload_n hx hb dX7_firstRowAt_17 rfl (lv_at hl 1 rfl) ?_
      refine va_get (D := G.1) (ci := 7) (v := .ref a_hp) (C := RX7) (T := TX7) (N := 10) hx hb hts inG_X7 hown hK hP 0 rfl rfl 7 (by decide +kernel) (hts _ fl_X7_25) (fun _ h9 => h9) rfl dX7_firstRowAt_18 ?_
      refine lv_iload_n hx hb dX7_firstRowAt_21 rfl (lv_at hl 0 rfl) ?_
      refine va_iald hx hb hK hP 3 0 rfl rfl (i := k_a) (vp_in_iff.mpr ⟨by omega, by omega⟩) dX7_firstRowAt_22 ?_
      refine W.eq (g2 := F0 m 23 ls [.int (z3 k_a.toNatClampNeg)]) rfl ?_
      refine lv_iconst (v := 1) hx hb dX7_firstRowAt_23 (by decide +kernel) ?_
      refine lv_iand hx hb dX7_firstRowAt_24 ?_
      refine lv_if_ne (tgt := 34) hx hb dX7_firstRowAt_25 (by decide +kernel) (fun c_19 => ?_) (fun c_19 => ?_)
      ·
        have n_19 : gNe (((z3 k_a.toNatClampNeg) &&& 1).toInt) (0) := g5_ne (a := ((z3 k_a.toNatClampNeg) &&& 1).toInt) (b := 0) rfl (by decide +kernel) c_19
        refine lv_aload_n hx hb dX7_firstRowAt_34 rfl (lv_at hl 1 rfl) ?_
        refine va_get (D := G.1) (ci := 7) (v := .ref a_ad) (C := RX7) (T := TX7) (N := 10) hx hb hts inG_X7 hown hK hP 0 rfl rfl 3 (by decide +kernel) (hts _ fl_X7_15) (fun _ h9 => h9) rfl dX7_firstRowAt_35 ?_
        refine lv_iload_n hx hb dX7_firstRowAt_38 rfl (lv_at hl 0 rfl) ?_
        refine va_iald hx hb hK hP 2 0 rfl rfl (i := k_a) (vp_in_iff.mpr ⟨by omega, by omega⟩) dX7_firstRowAt_39 ?_
        refine W.eq (g2 := F0 m 40 ls [.int (f_ad k_a.toNatClampNeg)]) rfl ?_
        refine lv_istore_n (lv' := [(3, .int (f_ad k_a.toNatClampNeg)), (2, .int k_a), (0, .ref a_th), (1, .int p_h)]) hx hb dX7_firstRowAt_40 rfl hl (by decide +kernel) rfl ?_
        clear hl
        intro ls hl
        refine lv_iconst (v := 1) hx hb dX7_firstRowAt_41 (by decide +kernel) ?_
        refine lv_istore (lv' := [(4, .int 1), (3, .int (f_ad k_a.toNatClampNeg)), (2, .int k_a), (0, .ref a_th), (1, .int p_h)]) hx hb dX7_firstRowAt_42 hl (by decide +kernel) rfl ?_
        clear hl
        intro ls hl
        refine g5_loop (α := (Int32) × (Int32) × (Int32)) (fun (q : (Int32) × (Int32) × (Int32)) (ls : Array Slot) (H : Heap) (locs : List Loc) => match q with | (m_a, m_m, m_h) => lv_has ls 5 [(2, .int m_a), (3, .int m_m), (4, .int m_h), (0, .ref a_th), (1, .int p_h)] ∧ va_P G.1 vwCl [(a_th, (oc7 a_h a_k a_ba a_ad e_fu a_cn a_nx a_hp a_hl a_lv)), (a_ba, (arJ G 24 f_ba)), (a_ad, (arI G 1536 f_ad)), (a_hp, (arI G 1536 z3))] H ∧ va_D A [(a_th, (oc7 a_h a_k a_ba a_ad e_fu a_cn a_nx a_hp a_hl a_lv)), (a_ba, (arJ G 24 f_ba)), (a_ad, (arI G 1536 f_ad)), (a_hp, (arI G 1536 z3))] ∧ va_S A s.heap H locs ∧ (0 ≤ m_a.toInt ∧ m_a.toInt ≤ 63) ∧ (1 ≤ m_h.toInt ∧ m_h.toInt ≤ 24)) (fun (q : (Int32) × (Int32) × (Int32)) => match q with | (m_a, m_m, m_h) => Int.toNat (24 - m_h.toInt)) (k_a, (f_ad k_a.toNatClampNeg), 1) ⟨lv_sub hl [2, 1, 0, 3, 4] rfl, hP, hD, hS, i_6, ⟨by decide, by decide⟩⟩ ?_
        rintro ⟨m_a, m_m, m_h⟩ ls H locs ⟨hl, hP, hD, hS, (i_20 : 0 ≤ m_a.toInt ∧ m_a.toInt ≤ 63), (i_21 : 1 ≤ m_h.toInt ∧ m_h.toInt ≤ 24)⟩ ih_44_22
        replace hl : lv_has ls 5 [(2, .int m_a), (3, .int m_m), (4, .int m_h), (0, .ref a_th), (1, .int p_h)] := hl
        refine g5_rs [(a_th, (oc7 a_h a_k a_ba a_ad e_fu a_cn a_nx a_hp a_hl a_lv)), (a_ba, (arJ G 24 f_ba)), (a_ad, (arI G 1536 f_ad)), (a_hp, (arI G 1536 z3))] hP hD ?_
        clear hP hD
        intro hP hD
        refine lv_iload hx hb dX7_firstRowAt_44 (lv_at hl 2 rfl) ?_
        refine lv_iload_n hx hb dX7_firstRowAt_46 rfl (lv_at hl 4 rfl) ?_
        refine lv_icmp_gt (tgt := 80) hx hb dX7_firstRowAt_47 (by decide +kernel) (fun c_23 => ?_) (fun c_23 => ?_)
        ·
          have i_23 : m_h.toInt > p_h.toInt := g5_gt (a := m_h.toInt) (b := p_h.toInt) rfl rfl c_23
          refine lv_iload_n hx hb dX7_firstRowAt_80 rfl (lv_at hl 0 rfl) ?_
          exact W.iret (v := m_a) hx hb hr (fun t ht hW => ⟨⟨m_a, [(a_th, (oc7 a_h a_k a_ba a_ad e_fu a_cn a_nx a_hp a_hl a_lv)), (a_ba, (arJ G 24 f_ba)), (a_ad, (arI G 1536 f_ad)), (a_hp, (arI G 1536 z3))], rfl, ⟨m_a, z3, ⟨by omega, by omega⟩, rfl, rfl⟩, by rw [ht]; exact hP.sub [0, 1, 2, 3] rfl, hD.sub [0, 1, 2, 3] (by decide +kernel) rfl⟩, hS.F ht⟩) hS.2.2 dX7_firstRowAt_81
        ·
          have i_23 : m_h.toInt ≤ p_h.toInt := g5_gtN (a := m_h.toInt) (b := p_h.toInt) rfl rfl c_23
          refine lv_aload_n hx hb dX7_firstRowAt_50 rfl (lv_at hl 3 rfl) ?_
          refine lv_iload_n hx hb dX7_firstRowAt_51 rfl (lv_at hl 0 rfl) ?_
          refine lv_iload hx hb dX7_firstRowAt_52 (lv_at hl 2 rfl) ?_
          refine lv_iload_n hx hb dX7_firstRowAt_54 rfl (lv_at hl 1 rfl) ?_
          refine W.eq (g2 := F0 m 55 ls [.int m_m, .int m_h, .int m_a, .ref a_th]) rfl ?_
          obtain ⟨hPc, hDc, hFc⟩ := g5_sub3 (wc := [(a_th, (oc7 a_h a_k a_ba a_ad e_fu a_cn a_nx a_hp a_hl a_lv)), (a_hp, (arI G 1536 z3))]) hP hD hS hA [0, 3] (by decide +kernel) rfl
          refine va_calli (va_runV (As := [.int m_a, .int m_h, .int m_m]) (rest := []) ⟨hx, hb, hml, hown, hts⟩ (th_next l G a_th a_hp a_h a_k a_ba a_ad a_cn a_nx a_hl a_lv H.size e_fu m_a m_h m_m z3 i_20 ⟨by omega, by omega⟩) (cwV 3 hts gV_X7_127 rfl rfl rfl hv_X7_lowestNext ⟨Nat.le_of_ble_eq_true rfl, Nat.le_of_ble_eq_true rfl⟩) (g5_preV hPc hK hDc hN hT hS hFc (ci := 7) (q0 := 0) rfl rfl) rfl rfl hl.1 rfl (lv_room (Nat.le_of_ble_eq_true rfl)) dX7_firstRowAt_55 ⟨Nat.le_of_ble_eq_true rfl, Nat.le_of_ble_eq_true rfl⟩) hS (fun q _ h => hFc q h) hFc (fun r u t H locs ht hvm hw hB hz1 hk1 hS => ?_)
          obtain ⟨hP1, hD1⟩ := hB
          have hP1 := g5_ht ht hP1
          obtain ⟨z25, (i_24 : 0 ≤ z25.toInt ∧ z25.toInt ≤ 63), y26, rfl⟩ := hw
          have hJ9 := va_join (wr := [(a_ba, (arJ G 24 f_ba)), (a_ad, (arI G 1536 f_ad))]) hP hD [0, 3] [1, 2] rfl rfl (by decide +kernel) (by decide +kernel) hk1 hFc hP1 hD1
          clear hP hD hPc hDc hFc ht hvm hz1 hk1 hP1 hD1
          obtain ⟨hP, hD⟩ := hJ9
          refine g5_rs [(a_ba, (arJ G 24 f_ba)), (a_ad, (arI G 1536 f_ad)), (a_th, (oc7 a_h a_k a_ba a_ad e_fu a_cn a_nx a_hp a_hl a_lv)), (a_hp, (arI G 1536 z3))] hP hD ?_
          clear hP hD
          intro hP hD
          refine g5_ti (v := z25) y26 ?_
          refine lv_istore_n (lv' := [(2, .int z25), (3, .int m_m), (4, .int m_h), (0, .ref a_th), (1, .int p_h)]) hx hb dX7_firstRowAt_58 rfl hl (by decide +kernel) rfl ?_
          clear hl
          intro ls hl
          refine lv_iload_n hx hb dX7_firstRowAt_59 rfl (lv_at hl 1 rfl) ?_
          refine lv_aload_n hx hb dX7_firstRowAt_60 rfl (lv_at hl 3 rfl) ?_
          refine va_get (D := G.1) (ci := 7) (v := .ref a_ad) (C := RX7) (T := TX7) (N := 10) hx hb hts inG_X7 hown hK hP 2 rfl rfl 3 (by decide +kernel) (hts _ fl_X7_15) (fun _ h9 => h9) rfl dX7_firstRowAt_61 ?_
          refine W.eq (g2 := F0 m 64 ls [.ref a_ad, .int m_m]) rfl ?_
          refine lv_iload hx hb dX7_firstRowAt_64 (lv_at hl 2 rfl) ?_
          refine lv_bipush (v := 64) hx hb dX7_firstRowAt_66 (by decide +kernel) ?_
          refine lv_imul hx hb dX7_firstRowAt_68 ?_
          have t_27 : (m_h * 64).toInt = m_h.toInt * 64 := g5_imul (a := m_h.toInt) (b := 64) (by rfl) (by decide +kernel) (by omega) (by omega)
          refine lv_iload_n hx hb dX7_firstRowAt_69 rfl (lv_at hl 0 rfl) ?_
          refine lv_iadd hx hb dX7_firstRowAt_70 ?_
          have t_28 : ((m_h * 64) + z25).toInt = (m_h * 64).toInt + z25.toInt := g5_iadd (a := (m_h * 64).toInt) (b := z25.toInt) (by rfl) (by rfl) (by omega) (by omega)
          refine W.eq (g2 := F0 m 71 ls [.int ((m_h * 64) + z25), .ref a_ad, .int m_m]) rfl ?_
          refine va_iald hx hb hK hP 1 0 rfl rfl (i := ((m_h * 64) + z25)) (vp_in_iff.mpr ⟨by omega, by omega⟩) dX7_firstRowAt_71 ?_
          refine lv_ior hx hb dX7_firstRowAt_72 ?_
          refine lv_istore_n (lv' := [(3, .int (m_m ||| (f_ad ((m_h * 64) + z25).toNatClampNeg))), (2, .int z25), (4, .int m_h), (0, .ref a_th), (1, .int p_h)]) hx hb dX7_firstRowAt_73 rfl hl (by decide +kernel) rfl ?_
          clear hl
          intro ls hl
          refine lv_iinc (v := (m_h + 1)) (lv' := [(4, .int (m_h + 1)), (3, .int (m_m ||| (f_ad ((m_h * 64) + z25).toNatClampNeg))), (2, .int z25), (0, .ref a_th), (1, .int p_h)]) hx hb dX7_firstRowAt_74 hl (k := 2) rfl rfl (by decide +kernel) rfl ?_
          clear hl
          intro ls hl
          have t_29 : (m_h + 1).toInt = m_h.toInt + 1 := g5_iadd (a := m_h.toInt) (b := 1) rfl (by decide +kernel) (by omega) (by omega)
          refine lv_goto (tgt := 44) hx hb dX7_firstRowAt_77 (by decide +kernel) ?_
          exact ih_44_22 (z25, (m_m ||| (f_ad ((m_h * 64) + z25).toNatClampNeg)), (m_h + 1)) ls H locs (show Int.toNat (24 - (m_h + 1).toInt) < Int.toNat (24 - m_h.toInt) from g_up (show m_h.toInt < (m_h + 1).toInt by omega) (show m_h.toInt < 24 by omega)) ⟨lv_sub hl [2, 1, 0, 3, 4] rfl, hP.sub [2, 0, 1, 3] rfl, hD.sub [2, 0, 1, 3] (by decide +kernel) rfl, hS, i_24, ⟨by omega, by omega⟩⟩
      ·
        have i_19 : ((z3 k_a.toNatClampNeg) &&& 1).toInt = 0 := g5_neN (a := ((z3 k_a.toNatClampNeg) &&& 1).toInt) (b := 0) rfl (by decide +kernel) c_19
        refine lv_iinc (v := (k_a + 1)) (lv' := [(2, .int (k_a + 1)), (0, .ref a_th), (1, .int p_h)]) hx hb dX7_firstRowAt_28 hl (k := 0) rfl rfl (by decide +kernel) rfl ?_
        clear hl
        intro ls hl
        have t_30 : (k_a + 1).toInt = k_a.toInt + 1 := g5_iadd (a := k_a.toInt) (b := 1) rfl (by decide +kernel) (by omega) (by omega)
        refine lv_goto (tgt := 11) hx hb dX7_firstRowAt_31 (by decide +kernel) ?_
        exact ih_11_7 (k_a + 1) ls H locs (show Int.toNat (63 - (k_a + 1).toInt) < Int.toNat (63 - k_a.toInt) from g_up (show k_a.toInt < (k_a + 1).toInt by omega) (show k_a.toInt < 63 by omega)) ⟨lv_sub hl [0, 1, 2] rfl, hP, hD, hS, ⟨by omega, by omega⟩⟩
  ·
    have i_5 : z2.toInt = 0 := g5_neN (a := z2.toInt) (b := 0) rfl (by decide +kernel) c_5
    refine lv_iconst (v := (-1)) hx hb dX7_firstRowAt_7 (by decide +kernel) ?_
    exact W.iret (v := (-1)) hx hb hr (fun t ht hW => ⟨⟨(-1), [(a_th, (oc7 a_h a_k a_ba a_ad e_fu a_cn a_nx a_hp a_hl a_lv)), (a_ba, (arJ G 24 f_ba)), (a_ad, (arI G 1536 f_ad)), (a_hp, (arI G 1536 z3))], rfl, ⟨(-1), z3, ⟨by have zc_o_r : ((-1) : Int32).toInt = (-1) := (by decide +kernel); omega, by have zc_o_r : ((-1) : Int32).toInt = (-1) := (by decide +kernel); omega⟩, rfl, rfl⟩, by rw [ht]; exact hP.sub [0, 1, 2, 3] rfl, hD.sub [0, 1, 2, 3] (by decide +kernel) rfl⟩, hS.F ht⟩) hS.2.2 dX7_firstRowAt_8
theorem dgX7_holdIn_0 : ∀ r ∈ ([(0, (.iconst 0, 1)), (1, (.istore_n 2, 1)), (2, (.iload_n 2, 1)), (3, (.bipush 64, 2)), (5, (.if_icmp .ge 37, 3)), (8, (.aload_n 0, 1)), (9, (.getfield 31, 3)), (12, (.iload_n 2, 1)), (13, (.aload_n 0, 1)), (14, (.getfield 28, 3)), (17, (.iload_n 2, 1)), (18, (.iaload, 1)), (19, (.aload_n 0, 1)), (20, (.getfield 15, 3)), (23, (.iload_n 1, 1)), (24, (.iconst 1, 1)), (25, (.isub, 1)), (26, (.bipush 64, 2)), (28, (.imul, 1)), (29, (.iload_n 2, 1)), (30, (.iadd, 1)), (31, (.iaload, 1)), (32, (.invokestatic 124, 3)), (35, (.iastore, 1)), (36, (.iinc 2 1, 3)), (39, (.goto (-37), 3)), (42, (.iconst 0, 1)), (43, (.istore_n 2, 1)), (44, (.iload_n 2, 1)), (45, (.bipush 64, 2)), (47, (.if_icmp .ge 74, 3)), (50, (.iconst 0, 1)), (51, (.istore_n 3, 1)), (52, (.iconst 0, 1)), (53, (.istore 4, 2)), (55, (.iload 4, 2)), (57, (.iconst 4, 1)), (58, (.if_icmp .gt 50, 3)), (61, (.aload_n 0, 1)), (62, (.getfield 9, 3))] : List (Nat × (Instr × Nat))), decode cX7_holdIn r.1 = .ok r.2 := by decide +kernel
theorem dX7_holdIn_0 : decode cX7_holdIn 0 = .ok (.iconst 0, 1) := dgX7_holdIn_0 (0, (.iconst 0, 1)) (List.mem_of_getElem? (i := 0) rfl)
theorem dX7_holdIn_1 : decode cX7_holdIn 1 = .ok (.istore_n 2, 1) := dgX7_holdIn_0 (1, (.istore_n 2, 1)) (List.mem_of_getElem? (i := 1) rfl)
theorem dX7_holdIn_2 : decode cX7_holdIn 2 = .ok (.iload_n 2, 1) := dgX7_holdIn_0 (2, (.iload_n 2, 1)) (List.mem_of_getElem? (i := 2) rfl)
theorem dX7_holdIn_3 : decode cX7_holdIn 3 = .ok (.bipush 64, 2) := dgX7_holdIn_0 (3, (.bipush 64, 2)) (List.mem_of_getElem? (i := 3) rfl)
theorem dX7_holdIn_5 : decode cX7_holdIn 5 = .ok (.if_icmp .ge 37, 3) := dgX7_holdIn_0 (5, (.if_icmp .ge 37, 3)) (List.mem_of_getElem? (i := 4) rfl)
theorem dX7_holdIn_8 : decode cX7_holdIn 8 = .ok (.aload_n 0, 1) := dgX7_holdIn_0 (8, (.aload_n 0, 1)) (List.mem_of_getElem? (i := 5) rfl)
theorem dX7_holdIn_9 : decode cX7_holdIn 9 = .ok (.getfield 31, 3) := dgX7_holdIn_0 (9, (.getfield 31, 3)) (List.mem_of_getElem? (i := 6) rfl)
theorem dX7_holdIn_12 : decode cX7_holdIn 12 = .ok (.iload_n 2, 1) := dgX7_holdIn_0 (12, (.iload_n 2, 1)) (List.mem_of_getElem? (i := 7) rfl)
theorem dX7_holdIn_13 : decode cX7_holdIn 13 = .ok (.aload_n 0, 1) := dgX7_holdIn_0 (13, (.aload_n 0, 1)) (List.mem_of_getElem? (i := 8) rfl)
theorem dX7_holdIn_14 : decode cX7_holdIn 14 = .ok (.getfield 28, 3) := dgX7_holdIn_0 (14, (.getfield 28, 3)) (List.mem_of_getElem? (i := 9) rfl)
theorem dX7_holdIn_17 : decode cX7_holdIn 17 = .ok (.iload_n 2, 1) := dgX7_holdIn_0 (17, (.iload_n 2, 1)) (List.mem_of_getElem? (i := 10) rfl)
theorem dX7_holdIn_18 : decode cX7_holdIn 18 = .ok (.iaload, 1) := dgX7_holdIn_0 (18, (.iaload, 1)) (List.mem_of_getElem? (i := 11) rfl)
theorem dX7_holdIn_19 : decode cX7_holdIn 19 = .ok (.aload_n 0, 1) := dgX7_holdIn_0 (19, (.aload_n 0, 1)) (List.mem_of_getElem? (i := 12) rfl)
theorem dX7_holdIn_20 : decode cX7_holdIn 20 = .ok (.getfield 15, 3) := dgX7_holdIn_0 (20, (.getfield 15, 3)) (List.mem_of_getElem? (i := 13) rfl)
theorem dX7_holdIn_23 : decode cX7_holdIn 23 = .ok (.iload_n 1, 1) := dgX7_holdIn_0 (23, (.iload_n 1, 1)) (List.mem_of_getElem? (i := 14) rfl)
theorem dX7_holdIn_24 : decode cX7_holdIn 24 = .ok (.iconst 1, 1) := dgX7_holdIn_0 (24, (.iconst 1, 1)) (List.mem_of_getElem? (i := 15) rfl)
theorem dX7_holdIn_25 : decode cX7_holdIn 25 = .ok (.isub, 1) := dgX7_holdIn_0 (25, (.isub, 1)) (List.mem_of_getElem? (i := 16) rfl)
theorem dX7_holdIn_26 : decode cX7_holdIn 26 = .ok (.bipush 64, 2) := dgX7_holdIn_0 (26, (.bipush 64, 2)) (List.mem_of_getElem? (i := 17) rfl)
theorem dX7_holdIn_28 : decode cX7_holdIn 28 = .ok (.imul, 1) := dgX7_holdIn_0 (28, (.imul, 1)) (List.mem_of_getElem? (i := 18) rfl)
theorem dX7_holdIn_29 : decode cX7_holdIn 29 = .ok (.iload_n 2, 1) := dgX7_holdIn_0 (29, (.iload_n 2, 1)) (List.mem_of_getElem? (i := 19) rfl)
theorem dX7_holdIn_30 : decode cX7_holdIn 30 = .ok (.iadd, 1) := dgX7_holdIn_0 (30, (.iadd, 1)) (List.mem_of_getElem? (i := 20) rfl)
theorem dX7_holdIn_31 : decode cX7_holdIn 31 = .ok (.iaload, 1) := dgX7_holdIn_0 (31, (.iaload, 1)) (List.mem_of_getElem? (i := 21) rfl)
theorem dX7_holdIn_32 : decode cX7_holdIn 32 = .ok (.invokestatic 124, 3) := dgX7_holdIn_0 (32, (.invokestatic 124, 3)) (List.mem_of_getElem? (i := 22) rfl)
theorem dX7_holdIn_35 : decode cX7_holdIn 35 = .ok (.iastore, 1) := dgX7_holdIn_0 (35, (.iastore, 1)) (List.mem_of_getElem? (i := 23) rfl)
theorem dX7_holdIn_36 : decode cX7_holdIn 36 = .ok (.iinc 2 1, 3) := dgX7_holdIn_0 (36, (.iinc 2 1, 3)) (List.mem_of_getElem? (i := 24) rfl)
theorem dX7_holdIn_39 : decode cX7_holdIn 39 = .ok (.goto (-37), 3) := dgX7_holdIn_0 (39, (.goto (-37), 3)) (List.mem_of_getElem? (i := 25) rfl)
theorem dX7_holdIn_42 : decode cX7_holdIn 42 = .ok (.iconst 0, 1) := dgX7_holdIn_0 (42, (.iconst 0, 1)) (List.mem_of_getElem? (i := 26) rfl)
theorem dX7_holdIn_43 : decode cX7_holdIn 43 = .ok (.istore_n 2, 1) := dgX7_holdIn_0 (43, (.istore_n 2, 1)) (List.mem_of_getElem? (i := 27) rfl)
theorem dX7_holdIn_44 : decode cX7_holdIn 44 = .ok (.iload_n 2, 1) := dgX7_holdIn_0 (44, (.iload_n 2, 1)) (List.mem_of_getElem? (i := 28) rfl)
theorem dX7_holdIn_45 : decode cX7_holdIn 45 = .ok (.bipush 64, 2) := dgX7_holdIn_0 (45, (.bipush 64, 2)) (List.mem_of_getElem? (i := 29) rfl)
theorem dX7_holdIn_47 : decode cX7_holdIn 47 = .ok (.if_icmp .ge 74, 3) := dgX7_holdIn_0 (47, (.if_icmp .ge 74, 3)) (List.mem_of_getElem? (i := 30) rfl)
theorem dX7_holdIn_50 : decode cX7_holdIn 50 = .ok (.iconst 0, 1) := dgX7_holdIn_0 (50, (.iconst 0, 1)) (List.mem_of_getElem? (i := 31) rfl)
theorem dX7_holdIn_51 : decode cX7_holdIn 51 = .ok (.istore_n 3, 1) := dgX7_holdIn_0 (51, (.istore_n 3, 1)) (List.mem_of_getElem? (i := 32) rfl)
theorem dX7_holdIn_52 : decode cX7_holdIn 52 = .ok (.iconst 0, 1) := dgX7_holdIn_0 (52, (.iconst 0, 1)) (List.mem_of_getElem? (i := 33) rfl)
theorem dX7_holdIn_53 : decode cX7_holdIn 53 = .ok (.istore 4, 2) := dgX7_holdIn_0 (53, (.istore 4, 2)) (List.mem_of_getElem? (i := 34) rfl)
theorem dX7_holdIn_55 : decode cX7_holdIn 55 = .ok (.iload 4, 2) := dgX7_holdIn_0 (55, (.iload 4, 2)) (List.mem_of_getElem? (i := 35) rfl)
theorem dX7_holdIn_57 : decode cX7_holdIn 57 = .ok (.iconst 4, 1) := dgX7_holdIn_0 (57, (.iconst 4, 1)) (List.mem_of_getElem? (i := 36) rfl)
theorem dX7_holdIn_58 : decode cX7_holdIn 58 = .ok (.if_icmp .gt 50, 3) := dgX7_holdIn_0 (58, (.if_icmp .gt 50, 3)) (List.mem_of_getElem? (i := 37) rfl)
theorem dX7_holdIn_61 : decode cX7_holdIn 61 = .ok (.aload_n 0, 1) := dgX7_holdIn_0 (61, (.aload_n 0, 1)) (List.mem_of_getElem? (i := 38) rfl)
theorem dX7_holdIn_62 : decode cX7_holdIn 62 = .ok (.getfield 9, 3) := dgX7_holdIn_0 (62, (.getfield 9, 3)) (List.mem_of_getElem? (i := 39) rfl)
theorem dgX7_holdIn_1 : ∀ r ∈ ([(65, (.iload_n 1, 1)), (66, (.laload, 1)), (67, (.iload_n 2, 1)), (68, (.invokestatic 98, 3)), (71, (.ifCond .ne 37, 3)), (74, (.iload_n 2, 1)), (75, (.iload 4, 2)), (77, (.invokestatic 105, 3)), (80, (.istore 5, 2)), (82, (.iload_n 3, 1)), (83, (.iload 5, 2)), (85, (.iconst (-1), 1)), (86, (.if_icmp .ne 7, 3)), (89, (.iconst 0, 1)), (90, (.goto 10, 3)), (93, (.aload_n 0, 1)), (94, (.getfield 31, 3)), (97, (.iload 5, 2)), (99, (.iaload, 1)), (100, (.ior, 1)), (101, (.istore_n 3, 1)), (102, (.iinc 4 1, 3)), (105, (.goto (-50), 3)), (108, (.aload_n 0, 1)), (109, (.getfield 28, 3)), (112, (.iload_n 2, 1)), (113, (.iload_n 3, 1)), (114, (.iastore, 1)), (115, (.iinc 2 1, 3)), (118, (.goto (-74), 3)), (121, (.return_, 1))] : List (Nat × (Instr × Nat))), decode cX7_holdIn r.1 = .ok r.2 := by decide +kernel
theorem dX7_holdIn_65 : decode cX7_holdIn 65 = .ok (.iload_n 1, 1) := dgX7_holdIn_1 (65, (.iload_n 1, 1)) (List.mem_of_getElem? (i := 0) rfl)
theorem dX7_holdIn_66 : decode cX7_holdIn 66 = .ok (.laload, 1) := dgX7_holdIn_1 (66, (.laload, 1)) (List.mem_of_getElem? (i := 1) rfl)
theorem dX7_holdIn_67 : decode cX7_holdIn 67 = .ok (.iload_n 2, 1) := dgX7_holdIn_1 (67, (.iload_n 2, 1)) (List.mem_of_getElem? (i := 2) rfl)
theorem dX7_holdIn_68 : decode cX7_holdIn 68 = .ok (.invokestatic 98, 3) := dgX7_holdIn_1 (68, (.invokestatic 98, 3)) (List.mem_of_getElem? (i := 3) rfl)
theorem dX7_holdIn_71 : decode cX7_holdIn 71 = .ok (.ifCond .ne 37, 3) := dgX7_holdIn_1 (71, (.ifCond .ne 37, 3)) (List.mem_of_getElem? (i := 4) rfl)
theorem dX7_holdIn_74 : decode cX7_holdIn 74 = .ok (.iload_n 2, 1) := dgX7_holdIn_1 (74, (.iload_n 2, 1)) (List.mem_of_getElem? (i := 5) rfl)
theorem dX7_holdIn_75 : decode cX7_holdIn 75 = .ok (.iload 4, 2) := dgX7_holdIn_1 (75, (.iload 4, 2)) (List.mem_of_getElem? (i := 6) rfl)
theorem dX7_holdIn_77 : decode cX7_holdIn 77 = .ok (.invokestatic 105, 3) := dgX7_holdIn_1 (77, (.invokestatic 105, 3)) (List.mem_of_getElem? (i := 7) rfl)
theorem dX7_holdIn_80 : decode cX7_holdIn 80 = .ok (.istore 5, 2) := dgX7_holdIn_1 (80, (.istore 5, 2)) (List.mem_of_getElem? (i := 8) rfl)
theorem dX7_holdIn_82 : decode cX7_holdIn 82 = .ok (.iload_n 3, 1) := dgX7_holdIn_1 (82, (.iload_n 3, 1)) (List.mem_of_getElem? (i := 9) rfl)
theorem dX7_holdIn_83 : decode cX7_holdIn 83 = .ok (.iload 5, 2) := dgX7_holdIn_1 (83, (.iload 5, 2)) (List.mem_of_getElem? (i := 10) rfl)
theorem dX7_holdIn_85 : decode cX7_holdIn 85 = .ok (.iconst (-1), 1) := dgX7_holdIn_1 (85, (.iconst (-1), 1)) (List.mem_of_getElem? (i := 11) rfl)
theorem dX7_holdIn_86 : decode cX7_holdIn 86 = .ok (.if_icmp .ne 7, 3) := dgX7_holdIn_1 (86, (.if_icmp .ne 7, 3)) (List.mem_of_getElem? (i := 12) rfl)
theorem dX7_holdIn_89 : decode cX7_holdIn 89 = .ok (.iconst 0, 1) := dgX7_holdIn_1 (89, (.iconst 0, 1)) (List.mem_of_getElem? (i := 13) rfl)
theorem dX7_holdIn_90 : decode cX7_holdIn 90 = .ok (.goto 10, 3) := dgX7_holdIn_1 (90, (.goto 10, 3)) (List.mem_of_getElem? (i := 14) rfl)
theorem dX7_holdIn_93 : decode cX7_holdIn 93 = .ok (.aload_n 0, 1) := dgX7_holdIn_1 (93, (.aload_n 0, 1)) (List.mem_of_getElem? (i := 15) rfl)
theorem dX7_holdIn_94 : decode cX7_holdIn 94 = .ok (.getfield 31, 3) := dgX7_holdIn_1 (94, (.getfield 31, 3)) (List.mem_of_getElem? (i := 16) rfl)
theorem dX7_holdIn_97 : decode cX7_holdIn 97 = .ok (.iload 5, 2) := dgX7_holdIn_1 (97, (.iload 5, 2)) (List.mem_of_getElem? (i := 17) rfl)
theorem dX7_holdIn_99 : decode cX7_holdIn 99 = .ok (.iaload, 1) := dgX7_holdIn_1 (99, (.iaload, 1)) (List.mem_of_getElem? (i := 18) rfl)
theorem dX7_holdIn_100 : decode cX7_holdIn 100 = .ok (.ior, 1) := dgX7_holdIn_1 (100, (.ior, 1)) (List.mem_of_getElem? (i := 19) rfl)
theorem dX7_holdIn_101 : decode cX7_holdIn 101 = .ok (.istore_n 3, 1) := dgX7_holdIn_1 (101, (.istore_n 3, 1)) (List.mem_of_getElem? (i := 20) rfl)
theorem dX7_holdIn_102 : decode cX7_holdIn 102 = .ok (.iinc 4 1, 3) := dgX7_holdIn_1 (102, (.iinc 4 1, 3)) (List.mem_of_getElem? (i := 21) rfl)
theorem dX7_holdIn_105 : decode cX7_holdIn 105 = .ok (.goto (-50), 3) := dgX7_holdIn_1 (105, (.goto (-50), 3)) (List.mem_of_getElem? (i := 22) rfl)
theorem dX7_holdIn_108 : decode cX7_holdIn 108 = .ok (.aload_n 0, 1) := dgX7_holdIn_1 (108, (.aload_n 0, 1)) (List.mem_of_getElem? (i := 23) rfl)
theorem dX7_holdIn_109 : decode cX7_holdIn 109 = .ok (.getfield 28, 3) := dgX7_holdIn_1 (109, (.getfield 28, 3)) (List.mem_of_getElem? (i := 24) rfl)
theorem dX7_holdIn_112 : decode cX7_holdIn 112 = .ok (.iload_n 2, 1) := dgX7_holdIn_1 (112, (.iload_n 2, 1)) (List.mem_of_getElem? (i := 25) rfl)
theorem dX7_holdIn_113 : decode cX7_holdIn 113 = .ok (.iload_n 3, 1) := dgX7_holdIn_1 (113, (.iload_n 3, 1)) (List.mem_of_getElem? (i := 26) rfl)
theorem dX7_holdIn_114 : decode cX7_holdIn 114 = .ok (.iastore, 1) := dgX7_holdIn_1 (114, (.iastore, 1)) (List.mem_of_getElem? (i := 27) rfl)
theorem dX7_holdIn_115 : decode cX7_holdIn 115 = .ok (.iinc 2 1, 3) := dgX7_holdIn_1 (115, (.iinc 2 1, 3)) (List.mem_of_getElem? (i := 28) rfl)
theorem dX7_holdIn_118 : decode cX7_holdIn 118 = .ok (.goto (-74), 3) := dgX7_holdIn_1 (118, (.goto (-74), 3)) (List.mem_of_getElem? (i := 29) rfl)
theorem dX7_holdIn_121 : decode cX7_holdIn 121 = .ok (.return_, 1) := dgX7_holdIn_1 (121, (.return_, 1)) (List.mem_of_getElem? (i := 30) rfl)
theorem fl_X7_28 : Cond.fieldLink RX7 28 "LateGlass$Thief" "held" "[I" ∈ tblG := tg 326 (by decide +kernel) (by decide +kernel)
theorem fl_X7_31 : Cond.fieldLink RX7 31 "LateGlass$Thief" "leaving" "[I" ∈ tblG := tg 327 (by decide +kernel) (by decide +kernel)
theorem ml_X7_124 : Cond.methodLink RX7 124 yX7_masksAfter ∈ tblG := tg 1013 (by decide +kernel) (by decide +kernel)
theorem st_X7_masksAfter : Cond.static yX7_masksAfter ∈ tblG := tg 1014 (by decide +kernel) (by decide +kernel)
theorem cd_X7_masksAfter : Cond.code yX7_masksAfter cX7_masksAfter 4 (some .int) ∈ tblG := tg 1015 (by decide +kernel) (by decide +kernel)
theorem gW_X7_masksAfter : GoodIn tblG (wsG yX7_masksAfter cX7_masksAfter 4 (some .int)) := tgi cd_X7_masksAfter
theorem gS_X7_124 : GoodIn tblG (va_wsS RX7 124 yX7_masksAfter (wsG yX7_masksAfter cX7_masksAfter 4 (some .int))) := tgS ml_X7_124 st_X7_masksAfter ini_X7 gW_X7_masksAfter
theorem hs_X7_masksAfter : yX7_masksAfter.cls ≠ "java/lang/invoke/MethodHandle" ∧ yX7_masksAfter.cls ≠ "java/lang/invoke/VarHandle" ∧ (parseMethodDescriptor yX7_masksAfter.desc).map (fun d => d.parameters.length) = some 2 := by decide +kernel
set_option maxHeartbeats 4000000 in
set_option maxRecDepth 100000 in
theorem th_hold (l : Launch) (G : g5_G) (a_th a_ba a_ad a_hl a_lv a_h a_k a_cn a_nx a_hp : Nat) (sz : Nat) (e_fu : Int32) (p_h : Int32) (f_ba : Nat → Int64) (f_ad : Nat → Int32) (f_hl : Nat → Int32) (f_lv : Nat → Int32) (h_p_h : 1 ≤ p_h.toInt ∧ p_h.toInt ≤ 23) : Met l yX7_holdIn (wsG yX7_holdIn cX7_holdIn 6 none) ({ frames := 1, cells := 0, slots := 0, locals := 23 }) (va_Pc [.ref a_th, .int p_h] (g5_P G [(a_th, (oc7 a_h a_k a_ba a_ad e_fu a_cn a_nx a_hp a_hl a_lv)), (a_ba, (arJ G 24 f_ba)), (a_ad, (arI G 1536 f_ad)), (a_hl, (arI G 64 f_hl)), (a_lv, (arI G 64 f_lv))] sz)) (va_Qv (fun (u : va_W) => (∃ (o_f : Nat → Int32) (o_g : Nat → Int32), (u = [(a_th, (oc7 a_h a_k a_ba a_ad e_fu a_cn a_nx a_hp a_hl a_lv)), (a_ba, (arJ G 24 f_ba)), (a_ad, (arI G 1536 f_ad)), (a_hl, (arI G 64 o_f)), (a_lv, (arI G 64 o_g))]))) (g5_B G (va_A [(a_th, (oc7 a_h a_k a_ba a_ad e_fu a_cn a_nx a_hp a_hl a_lv)), (a_ba, (arJ G 24 f_ba)), (a_ad, (arI G 1536 f_ad)), (a_hl, (arI G 64 f_hl)), (a_lv, (arI G 64 f_lv))] sz)) (va_A [(a_th, (oc7 a_h a_k a_ba a_ad e_fu a_cn a_nx a_hp a_hl a_lv)), (a_ba, (arJ G 24 f_ba)), (a_ad, (arI G 1536 f_ad)), (a_hl, (arI G 64 f_hl)), (a_lv, (arI G 64 f_lv))] sz)) 0 0 (va_A [(a_th, (oc7 a_h a_k a_ba a_ad e_fu a_cn a_nx a_hp a_hl a_lv)), (a_ba, (arJ G 24 f_ba)), (a_ad, (arI G 1536 f_ad)), (a_hl, (arI G 64 f_hl)), (a_lv, (arI G 64 f_lv))] sz) := by
  refine Met.ofW (cc := cX7_holdIn) (maxL := 6) (ret := none) (by decide +kernel) rfl ?_
  intro p e s m args below meth c s₁ B hml hv
  obtain ⟨rfl, hsz, hP, hK, hD0, hN, hT⟩ := hv
  have hx := B.exec
  have hb := B.bytes
  have hr := B.returns
  have hts : ∀ w ∈ tblG, w.before _ s = true := fun w h => atoms_spec (ws := (wsG yX7_holdIn cX7_holdIn 6 none)) B.pre w (List.mem_cons_of_mem _ h)
  have hown : s.vm.findClass RX7 = some m.cls := findClass_of_methodNamed B.named
  have hlocks := B.notSynchronized
  subst hsz
  have hD := hD0.self (sz := s.heap.size)
  generalize hAe : va_A [(a_th, (oc7 a_h a_k a_ba a_ad e_fu a_cn a_nx a_hp a_hl a_lv)), (a_ba, (arJ G 24 f_ba)), (a_ad, (arI G 1536 f_ad)), (a_hl, (arI G 64 f_hl)), (a_lv, (arI G 64 f_lv))] s.heap.size = A at hD hT ⊢
  have hA : ∀ q : Nat, s.heap.size ≤ q → A q := fun q h => by rw [← hAe]; exact Or.inr h
  have hS : va_S A s.heap s.heap [] := va_S.rf
  replace hP : va_P G.1 vwCl [(a_th, (oc7 a_h a_k a_ba a_ad e_fu a_cn a_nx a_hp a_hl a_lv)), (a_ba, (arJ G 24 f_ba)), (a_ad, (arI G 1536 f_ad)), (a_hl, (arI G 64 f_hl)), (a_lv, (arI G 64 f_lv))] s.heap := hP
  have hl := lv_entry ([.ref a_th, .int p_h]) (n := 6) (Nat.le_of_ble_eq_true rfl)
  rw [lg_entry_eq]
  generalize (lg_sl ([.ref a_th, .int p_h]) ++ List.replicate (6 - (lg_sl ([.ref a_th, .int p_h])).length) Slot.unset).toArray = ls at hl ⊢
  replace hl : lv_has ls 6 [(0, .ref a_th), (1, .int p_h)] := hl
  refine lv_iconst (v := 0) hx hb dX7_holdIn_0 (by decide +kernel) ?_
  refine lv_istore_n (lv' := [(2, .int 0), (0, .ref a_th), (1, .int p_h)]) hx hb dX7_holdIn_1 rfl hl (by decide +kernel) rfl ?_
  clear hl
  intro ls hl
  refine g5_loop (α := (Int32) × (Nat → Int32)) (fun (q : (Int32) × (Nat → Int32)) (ls : Array Slot) (H : Heap) (locs : List Loc) => match q with | (k_i, k_f) => lv_has ls 6 [(2, .int k_i), (0, .ref a_th), (1, .int p_h)] ∧ va_P G.1 vwCl [(a_th, (oc7 a_h a_k a_ba a_ad e_fu a_cn a_nx a_hp a_hl a_lv)), (a_ba, (arJ G 24 f_ba)), (a_ad, (arI G 1536 f_ad)), (a_hl, (arI G 64 f_hl)), (a_lv, (arI G 64 k_f))] H ∧ va_D A [(a_th, (oc7 a_h a_k a_ba a_ad e_fu a_cn a_nx a_hp a_hl a_lv)), (a_ba, (arJ G 24 f_ba)), (a_ad, (arI G 1536 f_ad)), (a_hl, (arI G 64 f_hl)), (a_lv, (arI G 64 k_f))] ∧ va_S A s.heap H locs ∧ (0 ≤ k_i.toInt ∧ k_i.toInt ≤ 64)) (fun (q : (Int32) × (Nat → Int32)) => match q with | (k_i, k_f) => Int.toNat (64 - k_i.toInt)) (0, f_lv) ⟨lv_sub hl [0, 1, 2] rfl, hP, hD, hS, ⟨by decide, by decide⟩⟩ ?_
  rintro ⟨k_i, k_f⟩ ls H locs ⟨hl, hP, hD, hS, (i_1 : 0 ≤ k_i.toInt ∧ k_i.toInt ≤ 64)⟩ ih_2_2
  replace hl : lv_has ls 6 [(2, .int k_i), (0, .ref a_th), (1, .int p_h)] := hl
  refine g5_rs [(a_th, (oc7 a_h a_k a_ba a_ad e_fu a_cn a_nx a_hp a_hl a_lv)), (a_ba, (arJ G 24 f_ba)), (a_ad, (arI G 1536 f_ad)), (a_hl, (arI G 64 f_hl)), (a_lv, (arI G 64 k_f))] hP hD ?_
  clear hP hD
  intro hP hD
  refine lv_iload_n hx hb dX7_holdIn_2 rfl (lv_at hl 0 rfl) ?_
  refine lv_bipush (v := 64) hx hb dX7_holdIn_3 (by decide +kernel) ?_
  refine lv_icmp_ge (tgt := 42) hx hb dX7_holdIn_5 (by decide +kernel) (fun c_3 => ?_) (fun c_3 => ?_)
  ·
    have i_3 : k_i.toInt ≥ 64 := g5_ge (a := k_i.toInt) (b := 64) rfl (by decide +kernel) c_3
    refine lv_iconst (v := 0) hx hb dX7_holdIn_42 (by decide +kernel) ?_
    refine lv_istore_n (lv' := [(2, .int 0), (0, .ref a_th), (1, .int p_h)]) hx hb dX7_holdIn_43 rfl hl (by decide +kernel) rfl ?_
    clear hl
    intro ls hl
    refine g5_loop (α := (Int32) × (Nat → Int32)) (fun (q : (Int32) × (Nat → Int32)) (ls : Array Slot) (H : Heap) (locs : List Loc) => match q with | (m_i, m_f) => lv_has ls 6 [(2, .int m_i), (0, .ref a_th), (1, .int p_h)] ∧ va_P G.1 vwCl [(a_th, (oc7 a_h a_k a_ba a_ad e_fu a_cn a_nx a_hp a_hl a_lv)), (a_ba, (arJ G 24 f_ba)), (a_ad, (arI G 1536 f_ad)), (a_hl, (arI G 64 m_f)), (a_lv, (arI G 64 k_f))] H ∧ va_D A [(a_th, (oc7 a_h a_k a_ba a_ad e_fu a_cn a_nx a_hp a_hl a_lv)), (a_ba, (arJ G 24 f_ba)), (a_ad, (arI G 1536 f_ad)), (a_hl, (arI G 64 m_f)), (a_lv, (arI G 64 k_f))] ∧ va_S A s.heap H locs ∧ (0 ≤ m_i.toInt ∧ m_i.toInt ≤ 64)) (fun (q : (Int32) × (Nat → Int32)) => match q with | (m_i, m_f) => Int.toNat (64 - m_i.toInt)) (0, f_hl) ⟨lv_sub hl [0, 1, 2] rfl, hP, hD, hS, ⟨by decide, by decide⟩⟩ ?_
    rintro ⟨m_i, m_f⟩ ls H locs ⟨hl, hP, hD, hS, (i_4 : 0 ≤ m_i.toInt ∧ m_i.toInt ≤ 64)⟩ ih_44_5
    replace hl : lv_has ls 6 [(2, .int m_i), (0, .ref a_th), (1, .int p_h)] := hl
    refine g5_rs [(a_th, (oc7 a_h a_k a_ba a_ad e_fu a_cn a_nx a_hp a_hl a_lv)), (a_ba, (arJ G 24 f_ba)), (a_ad, (arI G 1536 f_ad)), (a_hl, (arI G 64 m_f)), (a_lv, (arI G 64 k_f))] hP hD ?_
    clear hP hD
    intro hP hD
    refine lv_iload_n hx hb dX7_holdIn_44 rfl (lv_at hl 0 rfl) ?_
    refine lv_bipush (v := 64) hx hb dX7_holdIn_45 (by decide +kernel) ?_
    refine lv_icmp_ge (tgt := 121) hx hb dX7_holdIn_47 (by decide +kernel) (fun c_6 => ?_) (fun c_6 => ?_)
    ·
      have i_6 : m_i.toInt ≥ 64 := g5_ge (a := m_i.toInt) (b := 64) rfl (by decide +kernel) c_6
      exact W.vret hx hb hr (fun t ht hW => ⟨⟨[(a_th, (oc7 a_h a_k a_ba a_ad e_fu a_cn a_nx a_hp a_hl a_lv)), (a_ba, (arJ G 24 f_ba)), (a_ad, (arI G 1536 f_ad)), (a_hl, (arI G 64 m_f)), (a_lv, (arI G 64 k_f))], rfl, ⟨m_f, k_f, rfl⟩, by rw [ht]; exact hP.sub [0, 1, 2, 3, 4] rfl, hD.sub [0, 1, 2, 3, 4] (by decide +kernel) rfl⟩, hS.F ht⟩) hS.2.2 dX7_holdIn_121
    ·
      have i_6 : m_i.toInt < 64 := g5_geN (a := m_i.toInt) (b := 64) rfl (by decide +kernel) c_6
      refine lv_iconst (v := 0) hx hb dX7_holdIn_50 (by decide +kernel) ?_
      refine lv_istore_n (lv' := [(3, .int 0), (2, .int m_i), (0, .ref a_th), (1, .int p_h)]) hx hb dX7_holdIn_51 rfl hl (by decide +kernel) rfl ?_
      clear hl
      intro ls hl
      refine lv_iconst (v := 0) hx hb dX7_holdIn_52 (by decide +kernel) ?_
      refine lv_istore (lv' := [(4, .int 0), (3, .int 0), (2, .int m_i), (0, .ref a_th), (1, .int p_h)]) hx hb dX7_holdIn_53 hl (by decide +kernel) rfl ?_
      clear hl
      intro ls hl
      refine g5_loop (α := (Int32) × (Int32)) (fun (q : (Int32) × (Int32)) (ls : Array Slot) (H : Heap) (locs : List Loc) => match q with | (n_w, n_t) => lv_has ls 6 [(3, .int n_t), (4, .int n_w), (2, .int m_i), (0, .ref a_th), (1, .int p_h)] ∧ va_P G.1 vwCl [(a_th, (oc7 a_h a_k a_ba a_ad e_fu a_cn a_nx a_hp a_hl a_lv)), (a_ba, (arJ G 24 f_ba)), (a_ad, (arI G 1536 f_ad)), (a_hl, (arI G 64 m_f)), (a_lv, (arI G 64 k_f))] H ∧ va_D A [(a_th, (oc7 a_h a_k a_ba a_ad e_fu a_cn a_nx a_hp a_hl a_lv)), (a_ba, (arJ G 24 f_ba)), (a_ad, (arI G 1536 f_ad)), (a_hl, (arI G 64 m_f)), (a_lv, (arI G 64 k_f))] ∧ va_S A s.heap H locs ∧ (0 ≤ n_w.toInt ∧ n_w.toInt ≤ 5)) (fun (q : (Int32) × (Int32)) => match q with | (n_w, n_t) => Int.toNat (5 - n_w.toInt)) (0, 0) ⟨lv_sub hl [1, 0, 2, 3, 4] rfl, hP, hD, hS, ⟨by decide, by decide⟩⟩ ?_
      rintro ⟨n_w, n_t⟩ ls H locs ⟨hl, hP, hD, hS, (i_7 : 0 ≤ n_w.toInt ∧ n_w.toInt ≤ 5)⟩ ih_55_8
      replace hl : lv_has ls 6 [(3, .int n_t), (4, .int n_w), (2, .int m_i), (0, .ref a_th), (1, .int p_h)] := hl
      refine g5_rs [(a_th, (oc7 a_h a_k a_ba a_ad e_fu a_cn a_nx a_hp a_hl a_lv)), (a_ba, (arJ G 24 f_ba)), (a_ad, (arI G 1536 f_ad)), (a_hl, (arI G 64 m_f)), (a_lv, (arI G 64 k_f))] hP hD ?_
      clear hP hD
      intro hP hD
      refine lv_iload hx hb dX7_holdIn_55 (lv_at hl 1 rfl) ?_
      refine lv_iconst (v := 4) hx hb dX7_holdIn_57 (by decide +kernel) ?_
      refine lv_icmp_gt (tgt := 108) hx hb dX7_holdIn_58 (by decide +kernel) (fun c_9 => ?_) (fun c_9 => ?_)
      ·
        have i_9 : n_w.toInt > 4 := g5_gt (a := n_w.toInt) (b := 4) rfl (by decide +kernel) c_9
        refine lv_aload_n hx hb dX7_holdIn_108 rfl (lv_at hl 3 rfl) ?_
        refine va_get (D := G.1) (ci := 7) (v := .ref a_hl) (C := RX7) (T := TX7) (N := 10) hx hb hts inG_X7 hown hK hP 0 rfl rfl 8 (by decide +kernel) (hts _ fl_X7_28) (fun _ h9 => h9) rfl dX7_holdIn_109 ?_
        refine lv_iload_n hx hb dX7_holdIn_112 rfl (lv_at hl 2 rfl) ?_
        refine lv_iload_n hx hb dX7_holdIn_113 rfl (lv_at hl 0 rfl) ?_
        refine W.eq (g2 := F0 m 114 ls [.int n_t, .int m_i, .ref a_hl]) rfl ?_
        refine va_iast hx hb hK hP hD hS 3 0 rfl rfl (i := m_i) (x := n_t) (vp_in_iff.mpr ⟨by omega, by omega⟩) dX7_holdIn_114 ?_
        clear hP hD hS
        intro H locs hP hD hS
        refine g5_rs [(a_th, (oc7 a_h a_k a_ba a_ad e_fu a_cn a_nx a_hp a_hl a_lv)), (a_ba, (arJ G 24 f_ba)), (a_ad, (arI G 1536 f_ad)), (a_hl, (arI G 64 (upd m_f m_i.toNatClampNeg n_t))), (a_lv, (arI G 64 k_f))] hP hD ?_
        clear hP hD
        intro hP hD
        refine lv_iinc (v := (m_i + 1)) (lv' := [(2, .int (m_i + 1)), (3, .int n_t), (4, .int n_w), (0, .ref a_th), (1, .int p_h)]) hx hb dX7_holdIn_115 hl (k := 2) rfl rfl (by decide +kernel) rfl ?_
        clear hl
        intro ls hl
        have t_10 : (m_i + 1).toInt = m_i.toInt + 1 := g5_iadd (a := m_i.toInt) (b := 1) rfl (by decide +kernel) (by omega) (by omega)
        refine lv_goto (tgt := 44) hx hb dX7_holdIn_118 (by decide +kernel) ?_
        exact ih_44_5 ((m_i + 1), (upd m_f m_i.toNatClampNeg n_t)) ls H locs (show Int.toNat (64 - (m_i + 1).toInt) < Int.toNat (64 - m_i.toInt) from g_up (show m_i.toInt < (m_i + 1).toInt by omega) (show m_i.toInt < 64 by omega)) ⟨lv_sub hl [0, 3, 4] rfl, hP, hD, hS, ⟨by omega, by omega⟩⟩
      ·
        have i_9 : n_w.toInt ≤ 4 := g5_gtN (a := n_w.toInt) (b := 4) rfl (by decide +kernel) c_9
        refine lv_aload_n hx hb dX7_holdIn_61 rfl (lv_at hl 3 rfl) ?_
        refine va_get (D := G.1) (ci := 7) (v := .ref a_ba) (C := RX7) (T := TX7) (N := 10) hx hb hts inG_X7 hown hK hP 0 rfl rfl 2 (by decide +kernel) (hts _ fl_X7_9) (fun _ h9 => h9) rfl dX7_holdIn_62 ?_
        refine lv_iload_n hx hb dX7_holdIn_65 rfl (lv_at hl 4 rfl) ?_
        refine va_lald hx hb hK hP 1 1 rfl rfl (i := p_h) (vp_in_iff.mpr ⟨by omega, by omega⟩) dX7_holdIn_66 ?_
        refine W.eq (g2 := F0 m 67 ls [.long (f_ba p_h.toNatClampNeg)]) rfl ?_
        refine lv_iload_n hx hb dX7_holdIn_67 rfl (lv_at hl 2 rfl) ?_
        obtain ⟨hPc, hDc, hFc⟩ := g5_sub3 (wc := []) hP hD hS hA [] (by decide +kernel) rfl
        refine va_calli (va_runSN (As := [.long (f_ba p_h.toNatClampNeg), .int m_i]) (rest := []) ⟨hx, hb, hml, hown, hts⟩ (k_isOn l G H.size m_i (f_ba p_h.toNatClampNeg) ⟨by omega, by omega⟩) ⟨va_cnB 2 hts gW_X11_isOn rfl rfl rfl (hN.1 _ g5_nw_X7_98) (hts _ ini_X11) hs_X11_isOn ⟨Nat.le_of_ble_eq_true rfl, Nat.le_of_ble_eq_true rfl⟩, hts _ st_X11_isOn, trivial⟩ (g5_preS hPc hK hDc hN hT hS hFc) rfl rfl hl.1 rfl (lv_room (Nat.le_of_ble_eq_true rfl)) dX7_holdIn_68 ⟨Nat.le_of_ble_eq_true rfl, Nat.le_of_ble_eq_true rfl⟩) hS (fun q _ h => hFc q h) hFc (fun r u t H locs ht hvm hw hB hz1 hk1 hS => ?_)
        obtain ⟨hP1, hD1⟩ := hB
        have hP1 := g5_ht ht hP1
        rcases hw with ⟨(i_11 : onB (f_ba p_h.toNatClampNeg) m_i.toInt = false), rfl, rfl⟩ | ⟨(i_12 : onB (f_ba p_h.toNatClampNeg) m_i.toInt = true), rfl, rfl⟩
        ·
          have hJ9 := g5_same hP hk1
          clear hP hPc hDc hFc ht hvm hz1 hk1 hP1 hD1
          have hP := hJ9
          clear hJ9
          refine lv_if_ne (tgt := 108) hx hb dX7_holdIn_71 (by decide +kernel) (fun c_13 => ?_) (fun c_13 => ?_)
          ·
            exact absurd c_13 (by decide +kernel)
          ·
            refine lv_iload_n hx hb dX7_holdIn_74 rfl (lv_at hl 2 rfl) ?_
            refine lv_iload hx hb dX7_holdIn_75 (lv_at hl 1 rfl) ?_
            obtain ⟨hPc, hDc, hFc⟩ := g5_sub3 (wc := []) hP hD hS hA [] (by decide +kernel) rfl
            refine va_calli (va_runSN (As := [.int m_i, .int n_w]) (rest := []) ⟨hx, hb, hml, hown, hts⟩ (k_beside l G H.size m_i n_w ⟨by omega, by omega⟩) ⟨va_cnB 2 hts gW_X11_beside rfl rfl rfl (hN.1 _ g5_nw_X7_105) (hts _ ini_X11) hs_X11_beside ⟨Nat.le_of_ble_eq_true rfl, Nat.le_of_ble_eq_true rfl⟩, hts _ st_X11_beside, trivial⟩ (g5_preS hPc hK hDc hN hT hS hFc) rfl rfl hl.1 rfl (lv_room (Nat.le_of_ble_eq_true rfl)) dX7_holdIn_77 ⟨Nat.le_of_ble_eq_true rfl, Nat.le_of_ble_eq_true rfl⟩) hS (fun q _ h => hFc q h) hFc (fun r u t H locs ht hvm hw hB hz1 hk1 hS => ?_)
            obtain ⟨hP1, hD1⟩ := hB
            have hP1 := g5_ht ht hP1
            obtain ⟨z16, (i_14 : z16.toInt = bs m_i.toInt n_w.toInt), (i_15 : -1 ≤ z16.toInt ∧ z16.toInt ≤ 63), y17, rfl⟩ := hw
            have hJ9 := g5_same hP hk1
            clear hP hPc hDc hFc ht hvm hz1 hk1 hP1 hD1
            have hP := hJ9
            clear hJ9
            refine g5_ti (v := z16) y17 ?_
            refine lv_istore (lv' := [(5, .int z16), (3, .int n_t), (4, .int n_w), (2, .int m_i), (0, .ref a_th), (1, .int p_h)]) hx hb dX7_holdIn_80 hl (by decide +kernel) rfl ?_
            clear hl
            intro ls hl
            refine W.eq (g2 := F0 m 82 ls []) rfl ?_
            refine lv_iload_n hx hb dX7_holdIn_82 rfl (lv_at hl 1 rfl) ?_
            refine lv_iload hx hb dX7_holdIn_83 (lv_at hl 0 rfl) ?_
            refine lv_iconst (v := (-1)) hx hb dX7_holdIn_85 (by decide +kernel) ?_
            refine lv_icmp_ne (tgt := 93) hx hb dX7_holdIn_86 (by decide +kernel) (fun c_18 => ?_) (fun c_18 => ?_)
            ·
              have n_18 : gNe (z16.toInt) ((-1)) := g5_ne (a := z16.toInt) (b := (-1)) rfl (by decide +kernel) c_18
              have i_18 : z16.toInt ≥ 0 := by have z := g5_ne (a := z16.toInt) (b := (-1)) (by rfl) (by decide +kernel) c_18; omega
              refine lv_aload_n hx hb dX7_holdIn_93 rfl (lv_at hl 4 rfl) ?_
              refine va_get (D := G.1) (ci := 7) (v := .ref a_lv) (C := RX7) (T := TX7) (N := 10) hx hb hts inG_X7 hown hK hP 0 rfl rfl 9 (by decide +kernel) (hts _ fl_X7_31) (fun _ h9 => h9) rfl dX7_holdIn_94 ?_
              refine lv_iload hx hb dX7_holdIn_97 (lv_at hl 0 rfl) ?_
              refine va_iald hx hb hK hP 4 0 rfl rfl (i := z16) (vp_in_iff.mpr ⟨by omega, by omega⟩) dX7_holdIn_99 ?_
              refine W.eq (g2 := F0 m 100 ls [.int (k_f z16.toNatClampNeg), .int n_t]) rfl ?_
              refine lv_ior hx hb dX7_holdIn_100 ?_
              refine lv_istore_n (lv' := [(3, .int (n_t ||| (k_f z16.toNatClampNeg))), (5, .int z16), (4, .int n_w), (2, .int m_i), (0, .ref a_th), (1, .int p_h)]) hx hb dX7_holdIn_101 rfl hl (by decide +kernel) rfl ?_
              clear hl
              intro ls hl
              refine lv_iinc (v := (n_w + 1)) (lv' := [(4, .int (n_w + 1)), (3, .int (n_t ||| (k_f z16.toNatClampNeg))), (5, .int z16), (2, .int m_i), (0, .ref a_th), (1, .int p_h)]) hx hb dX7_holdIn_102 hl (k := 2) rfl rfl (by decide +kernel) rfl ?_
              clear hl
              intro ls hl
              have t_19 : (n_w + 1).toInt = n_w.toInt + 1 := g5_iadd (a := n_w.toInt) (b := 1) rfl (by decide +kernel) (by omega) (by omega)
              refine lv_goto (tgt := 55) hx hb dX7_holdIn_105 (by decide +kernel) ?_
              exact ih_55_8 ((n_w + 1), (n_t ||| (k_f z16.toNatClampNeg))) ls H locs (show Int.toNat (5 - (n_w + 1).toInt) < Int.toNat (5 - n_w.toInt) from g_up (show n_w.toInt < (n_w + 1).toInt by omega) (show n_w.toInt < 5 by omega)) ⟨lv_sub hl [1, 0, 3, 4, 5] rfl, hP, hD, hS, ⟨by omega, by omega⟩⟩
            ·
              have i_18 : z16.toInt = (-1) := g5_neN (a := z16.toInt) (b := (-1)) rfl (by decide +kernel) c_18
              refine lv_iconst (v := 0) hx hb dX7_holdIn_89 (by decide +kernel) ?_
              refine lv_goto (tgt := 100) hx hb dX7_holdIn_90 (by decide +kernel) ?_
              refine lv_ior hx hb dX7_holdIn_100 ?_
              refine g5_ti (v := n_t) (by simp) ?_
              refine lv_istore_n (lv' := [(3, .int n_t), (5, .int z16), (4, .int n_w), (2, .int m_i), (0, .ref a_th), (1, .int p_h)]) hx hb dX7_holdIn_101 rfl hl (by decide +kernel) rfl ?_
              clear hl
              intro ls hl
              refine W.eq (g2 := F0 m 102 ls []) rfl ?_
              refine lv_iinc (v := (n_w + 1)) (lv' := [(4, .int (n_w + 1)), (3, .int n_t), (5, .int z16), (2, .int m_i), (0, .ref a_th), (1, .int p_h)]) hx hb dX7_holdIn_102 hl (k := 2) rfl rfl (by decide +kernel) rfl ?_
              clear hl
              intro ls hl
              have t_20 : (n_w + 1).toInt = n_w.toInt + 1 := g5_iadd (a := n_w.toInt) (b := 1) rfl (by decide +kernel) (by omega) (by omega)
              refine lv_goto (tgt := 55) hx hb dX7_holdIn_105 (by decide +kernel) ?_
              exact ih_55_8 ((n_w + 1), n_t) ls H locs (show Int.toNat (5 - (n_w + 1).toInt) < Int.toNat (5 - n_w.toInt) from g_up (show n_w.toInt < (n_w + 1).toInt by omega) (show n_w.toInt < 5 by omega)) ⟨lv_sub hl [1, 0, 3, 4, 5] rfl, hP, hD, hS, ⟨by omega, by omega⟩⟩
        ·
          have hJ9 := g5_same hP hk1
          clear hP hPc hDc hFc ht hvm hz1 hk1 hP1 hD1
          have hP := hJ9
          clear hJ9
          refine lv_if_ne (tgt := 108) hx hb dX7_holdIn_71 (by decide +kernel) (fun c_21 => ?_) (fun c_21 => ?_)
          ·
            refine lv_aload_n hx hb dX7_holdIn_108 rfl (lv_at hl 3 rfl) ?_
            refine va_get (D := G.1) (ci := 7) (v := .ref a_hl) (C := RX7) (T := TX7) (N := 10) hx hb hts inG_X7 hown hK hP 0 rfl rfl 8 (by decide +kernel) (hts _ fl_X7_28) (fun _ h9 => h9) rfl dX7_holdIn_109 ?_
            refine lv_iload_n hx hb dX7_holdIn_112 rfl (lv_at hl 2 rfl) ?_
            refine lv_iload_n hx hb dX7_holdIn_113 rfl (lv_at hl 0 rfl) ?_
            refine W.eq (g2 := F0 m 114 ls [.int n_t, .int m_i, .ref a_hl]) rfl ?_
            refine va_iast hx hb hK hP hD hS 3 0 rfl rfl (i := m_i) (x := n_t) (vp_in_iff.mpr ⟨by omega, by omega⟩) dX7_holdIn_114 ?_
            clear hP hD hS
            intro H locs hP hD hS
            refine g5_rs [(a_th, (oc7 a_h a_k a_ba a_ad e_fu a_cn a_nx a_hp a_hl a_lv)), (a_ba, (arJ G 24 f_ba)), (a_ad, (arI G 1536 f_ad)), (a_hl, (arI G 64 (upd m_f m_i.toNatClampNeg n_t))), (a_lv, (arI G 64 k_f))] hP hD ?_
            clear hP hD
            intro hP hD
            refine lv_iinc (v := (m_i + 1)) (lv' := [(2, .int (m_i + 1)), (3, .int n_t), (4, .int n_w), (0, .ref a_th), (1, .int p_h)]) hx hb dX7_holdIn_115 hl (k := 2) rfl rfl (by decide +kernel) rfl ?_
            clear hl
            intro ls hl
            have t_22 : (m_i + 1).toInt = m_i.toInt + 1 := g5_iadd (a := m_i.toInt) (b := 1) rfl (by decide +kernel) (by omega) (by omega)
            refine lv_goto (tgt := 44) hx hb dX7_holdIn_118 (by decide +kernel) ?_
            exact ih_44_5 ((m_i + 1), (upd m_f m_i.toNatClampNeg n_t)) ls H locs (show Int.toNat (64 - (m_i + 1).toInt) < Int.toNat (64 - m_i.toInt) from g_up (show m_i.toInt < (m_i + 1).toInt by omega) (show m_i.toInt < 64 by omega)) ⟨lv_sub hl [0, 3, 4] rfl, hP, hD, hS, ⟨by omega, by omega⟩⟩
          ·
            exact absurd c_21 (by decide +kernel)
  ·
    have i_3 : k_i.toInt < 64 := g5_geN (a := k_i.toInt) (b := 64) rfl (by decide +kernel) c_3
    refine lv_aload_n hx hb dX7_holdIn_8 rfl (lv_at hl 1 rfl) ?_
    refine va_get (D := G.1) (ci := 7) (v := .ref a_lv) (C := RX7) (T := TX7) (N := 10) hx hb hts inG_X7 hown hK hP 0 rfl rfl 9 (by decide +kernel) (hts _ fl_X7_31) (fun _ h9 => h9) rfl dX7_holdIn_9 ?_
    refine lv_iload_n hx hb dX7_holdIn_12 rfl (lv_at hl 0 rfl) ?_
    refine lv_aload_n hx hb dX7_holdIn_13 rfl (lv_at hl 1 rfl) ?_
    refine W.eq (g2 := F0 m 14 ls [.ref a_th, .int k_i, .ref a_lv]) rfl ?_
    refine va_get (D := G.1) (ci := 7) (v := .ref a_hl) (C := RX7) (T := TX7) (N := 10) hx hb hts inG_X7 hown hK hP 0 rfl rfl 8 (by decide +kernel) (hts _ fl_X7_28) (fun _ h9 => h9) rfl dX7_holdIn_14 ?_
    refine lv_iload_n hx hb dX7_holdIn_17 rfl (lv_at hl 0 rfl) ?_
    refine va_iald hx hb hK hP 3 0 rfl rfl (i := k_i) (vp_in_iff.mpr ⟨by omega, by omega⟩) dX7_holdIn_18 ?_
    refine lv_aload_n hx hb dX7_holdIn_19 rfl (lv_at hl 1 rfl) ?_
    refine va_get (D := G.1) (ci := 7) (v := .ref a_ad) (C := RX7) (T := TX7) (N := 10) hx hb hts inG_X7 hown hK hP 0 rfl rfl 3 (by decide +kernel) (hts _ fl_X7_15) (fun _ h9 => h9) rfl dX7_holdIn_20 ?_
    refine W.eq (g2 := F0 m 23 ls [.ref a_ad, .int (f_hl k_i.toNatClampNeg), .int k_i, .ref a_lv]) rfl ?_
    refine lv_iload_n hx hb dX7_holdIn_23 rfl (lv_at hl 2 rfl) ?_
    refine lv_iconst (v := 1) hx hb dX7_holdIn_24 (by decide +kernel) ?_
    refine lv_isub hx hb dX7_holdIn_25 ?_
    have t_23 : (p_h - 1).toInt = p_h.toInt - 1 := g5_isub (a := p_h.toInt) (b := 1) (by rfl) (by decide +kernel) (by omega) (by omega)
    refine lv_bipush (v := 64) hx hb dX7_holdIn_26 (by decide +kernel) ?_
    refine lv_imul hx hb dX7_holdIn_28 ?_
    have t_24 : ((p_h - 1) * 64).toInt = (p_h - 1).toInt * 64 := g5_imul (a := (p_h - 1).toInt) (b := 64) (by rfl) (by decide +kernel) (by omega) (by omega)
    refine W.eq (g2 := F0 m 29 ls [.int ((p_h - 1) * 64), .ref a_ad, .int (f_hl k_i.toNatClampNeg), .int k_i, .ref a_lv]) rfl ?_
    refine lv_iload_n hx hb dX7_holdIn_29 rfl (lv_at hl 0 rfl) ?_
    refine lv_iadd hx hb dX7_holdIn_30 ?_
    have t_25 : (((p_h - 1) * 64) + k_i).toInt = ((p_h - 1) * 64).toInt + k_i.toInt := g5_iadd (a := ((p_h - 1) * 64).toInt) (b := k_i.toInt) (by rfl) (by rfl) (by omega) (by omega)
    refine va_iald hx hb hK hP 2 0 rfl rfl (i := (((p_h - 1) * 64) + k_i)) (vp_in_iff.mpr ⟨by omega, by omega⟩) dX7_holdIn_31 ?_
    obtain ⟨hPc, hDc, hFc⟩ := g5_sub3 (wc := []) hP hD hS hA [] (by decide +kernel) rfl
    refine va_calli (va_runS (As := [.int (f_hl k_i.toNatClampNeg), .int (f_ad (((p_h - 1) * 64) + k_i).toNatClampNeg)]) (rest := [.int k_i, .ref a_lv]) ⟨hx, hb, hml, hown, hts⟩ (th_masksAfter l G H.size (f_hl k_i.toNatClampNeg) (f_ad (((p_h - 1) * 64) + k_i).toNatClampNeg)) (va_cwS 2 hts gS_X7_124 rfl rfl rfl hs_X7_masksAfter ⟨Nat.le_of_ble_eq_true rfl, Nat.le_of_ble_eq_true rfl⟩) (g5_preS hPc hK hDc hN hT hS hFc) rfl rfl hl.1 rfl (lv_room (Nat.le_of_ble_eq_true rfl)) dX7_holdIn_32 ⟨Nat.le_of_ble_eq_true rfl, Nat.le_of_ble_eq_true rfl⟩) hS (fun q _ h => hFc q h) hFc (fun r u t H locs ht hvm hw hB hz1 hk1 hS => ?_)
    obtain ⟨hP1, hD1⟩ := hB
    have hP1 := g5_ht ht hP1
    obtain ⟨z26, y27, rfl⟩ := hw
    have hJ9 := g5_same hP hk1
    clear hP hPc hDc hFc ht hvm hz1 hk1 hP1 hD1
    have hP := hJ9
    clear hJ9
    refine g5_ti (v := z26) y27 ?_
    refine va_iast hx hb hK hP hD hS 4 0 rfl rfl (i := k_i) (x := z26) (vp_in_iff.mpr ⟨by omega, by omega⟩) dX7_holdIn_35 ?_
    clear hP hD hS
    intro H locs hP hD hS
    refine g5_rs [(a_th, (oc7 a_h a_k a_ba a_ad e_fu a_cn a_nx a_hp a_hl a_lv)), (a_ba, (arJ G 24 f_ba)), (a_ad, (arI G 1536 f_ad)), (a_hl, (arI G 64 f_hl)), (a_lv, (arI G 64 (upd k_f k_i.toNatClampNeg z26)))] hP hD ?_
    clear hP hD
    intro hP hD
    refine W.eq (g2 := F0 m 36 ls []) rfl ?_
    refine lv_iinc (v := (k_i + 1)) (lv' := [(2, .int (k_i + 1)), (0, .ref a_th), (1, .int p_h)]) hx hb dX7_holdIn_36 hl (k := 0) rfl rfl (by decide +kernel) rfl ?_
    clear hl
    intro ls hl
    have t_28 : (k_i + 1).toInt = k_i.toInt + 1 := g5_iadd (a := k_i.toInt) (b := 1) rfl (by decide +kernel) (by omega) (by omega)
    refine lv_goto (tgt := 2) hx hb dX7_holdIn_39 (by decide +kernel) ?_
    exact ih_2_2 ((k_i + 1), (upd k_f k_i.toNatClampNeg z26)) ls H locs (show Int.toNat (64 - (k_i + 1).toInt) < Int.toNat (64 - k_i.toInt) from g_up (show k_i.toInt < (k_i + 1).toInt by omega) (show k_i.toInt < 64 by omega)) ⟨lv_sub hl [0, 1, 2] rfl, hP, hD, hS, ⟨by omega, by omega⟩⟩
theorem dgX7_cellsIn_0 : ∀ r ∈ ([(0, (.aload_n 0, 1)), (1, (.invokevirtual 117, 3)), (4, (.ifCond .ne 5, 3)), (7, (.lconst 0, 1)), (8, (.lreturn, 1)), (9, (.iconst 0, 1)), (10, (.istore_n 2, 1)), (11, (.iload_n 2, 1)), (12, (.bipush 64, 2)), (14, (.if_icmp .ge 33, 3)), (17, (.aload_n 0, 1)), (18, (.getfield 28, 3)), (21, (.iload_n 2, 1)), (22, (.aload_n 0, 1)), (23, (.getfield 9, 3)), (26, (.iconst 0, 1)), (27, (.laload, 1)), (28, (.iload_n 2, 1)), (29, (.invokestatic 98, 3)), (32, (.ifCond .eq 7, 3)), (35, (.iconst 0, 1)), (36, (.goto 4, 3)), (39, (.iconst 1, 1)), (40, (.iastore, 1)), (41, (.iinc 2 1, 3)), (44, (.goto (-33), 3)), (47, (.iconst 1, 1)), (48, (.istore_n 2, 1)), (49, (.iload_n 2, 1)), (50, (.iload_n 1, 1)), (51, (.if_icmp .gt 14, 3)), (54, (.aload_n 0, 1)), (55, (.iload_n 2, 1)), (56, (.invokevirtual 121, 3)), (59, (.iinc 2 1, 3)), (62, (.goto (-13), 3)), (65, (.lconst 0, 1)), (66, (.lstore_n 2, 1)), (67, (.iconst 0, 1)), (68, (.istore 4, 2))] : List (Nat × (Instr × Nat))), decode cX7_cellsIn r.1 = .ok r.2 := by decide +kernel
theorem dX7_cellsIn_0 : decode cX7_cellsIn 0 = .ok (.aload_n 0, 1) := dgX7_cellsIn_0 (0, (.aload_n 0, 1)) (List.mem_of_getElem? (i := 0) rfl)
theorem dX7_cellsIn_1 : decode cX7_cellsIn 1 = .ok (.invokevirtual 117, 3) := dgX7_cellsIn_0 (1, (.invokevirtual 117, 3)) (List.mem_of_getElem? (i := 1) rfl)
theorem dX7_cellsIn_4 : decode cX7_cellsIn 4 = .ok (.ifCond .ne 5, 3) := dgX7_cellsIn_0 (4, (.ifCond .ne 5, 3)) (List.mem_of_getElem? (i := 2) rfl)
theorem dX7_cellsIn_7 : decode cX7_cellsIn 7 = .ok (.lconst 0, 1) := dgX7_cellsIn_0 (7, (.lconst 0, 1)) (List.mem_of_getElem? (i := 3) rfl)
theorem dX7_cellsIn_8 : decode cX7_cellsIn 8 = .ok (.lreturn, 1) := dgX7_cellsIn_0 (8, (.lreturn, 1)) (List.mem_of_getElem? (i := 4) rfl)
theorem dX7_cellsIn_9 : decode cX7_cellsIn 9 = .ok (.iconst 0, 1) := dgX7_cellsIn_0 (9, (.iconst 0, 1)) (List.mem_of_getElem? (i := 5) rfl)
theorem dX7_cellsIn_10 : decode cX7_cellsIn 10 = .ok (.istore_n 2, 1) := dgX7_cellsIn_0 (10, (.istore_n 2, 1)) (List.mem_of_getElem? (i := 6) rfl)
theorem dX7_cellsIn_11 : decode cX7_cellsIn 11 = .ok (.iload_n 2, 1) := dgX7_cellsIn_0 (11, (.iload_n 2, 1)) (List.mem_of_getElem? (i := 7) rfl)
theorem dX7_cellsIn_12 : decode cX7_cellsIn 12 = .ok (.bipush 64, 2) := dgX7_cellsIn_0 (12, (.bipush 64, 2)) (List.mem_of_getElem? (i := 8) rfl)
theorem dX7_cellsIn_14 : decode cX7_cellsIn 14 = .ok (.if_icmp .ge 33, 3) := dgX7_cellsIn_0 (14, (.if_icmp .ge 33, 3)) (List.mem_of_getElem? (i := 9) rfl)
theorem dX7_cellsIn_17 : decode cX7_cellsIn 17 = .ok (.aload_n 0, 1) := dgX7_cellsIn_0 (17, (.aload_n 0, 1)) (List.mem_of_getElem? (i := 10) rfl)
theorem dX7_cellsIn_18 : decode cX7_cellsIn 18 = .ok (.getfield 28, 3) := dgX7_cellsIn_0 (18, (.getfield 28, 3)) (List.mem_of_getElem? (i := 11) rfl)
theorem dX7_cellsIn_21 : decode cX7_cellsIn 21 = .ok (.iload_n 2, 1) := dgX7_cellsIn_0 (21, (.iload_n 2, 1)) (List.mem_of_getElem? (i := 12) rfl)
theorem dX7_cellsIn_22 : decode cX7_cellsIn 22 = .ok (.aload_n 0, 1) := dgX7_cellsIn_0 (22, (.aload_n 0, 1)) (List.mem_of_getElem? (i := 13) rfl)
theorem dX7_cellsIn_23 : decode cX7_cellsIn 23 = .ok (.getfield 9, 3) := dgX7_cellsIn_0 (23, (.getfield 9, 3)) (List.mem_of_getElem? (i := 14) rfl)
theorem dX7_cellsIn_26 : decode cX7_cellsIn 26 = .ok (.iconst 0, 1) := dgX7_cellsIn_0 (26, (.iconst 0, 1)) (List.mem_of_getElem? (i := 15) rfl)
theorem dX7_cellsIn_27 : decode cX7_cellsIn 27 = .ok (.laload, 1) := dgX7_cellsIn_0 (27, (.laload, 1)) (List.mem_of_getElem? (i := 16) rfl)
theorem dX7_cellsIn_28 : decode cX7_cellsIn 28 = .ok (.iload_n 2, 1) := dgX7_cellsIn_0 (28, (.iload_n 2, 1)) (List.mem_of_getElem? (i := 17) rfl)
theorem dX7_cellsIn_29 : decode cX7_cellsIn 29 = .ok (.invokestatic 98, 3) := dgX7_cellsIn_0 (29, (.invokestatic 98, 3)) (List.mem_of_getElem? (i := 18) rfl)
theorem dX7_cellsIn_32 : decode cX7_cellsIn 32 = .ok (.ifCond .eq 7, 3) := dgX7_cellsIn_0 (32, (.ifCond .eq 7, 3)) (List.mem_of_getElem? (i := 19) rfl)
theorem dX7_cellsIn_35 : decode cX7_cellsIn 35 = .ok (.iconst 0, 1) := dgX7_cellsIn_0 (35, (.iconst 0, 1)) (List.mem_of_getElem? (i := 20) rfl)
theorem dX7_cellsIn_36 : decode cX7_cellsIn 36 = .ok (.goto 4, 3) := dgX7_cellsIn_0 (36, (.goto 4, 3)) (List.mem_of_getElem? (i := 21) rfl)
theorem dX7_cellsIn_39 : decode cX7_cellsIn 39 = .ok (.iconst 1, 1) := dgX7_cellsIn_0 (39, (.iconst 1, 1)) (List.mem_of_getElem? (i := 22) rfl)
theorem dX7_cellsIn_40 : decode cX7_cellsIn 40 = .ok (.iastore, 1) := dgX7_cellsIn_0 (40, (.iastore, 1)) (List.mem_of_getElem? (i := 23) rfl)
theorem dX7_cellsIn_41 : decode cX7_cellsIn 41 = .ok (.iinc 2 1, 3) := dgX7_cellsIn_0 (41, (.iinc 2 1, 3)) (List.mem_of_getElem? (i := 24) rfl)
theorem dX7_cellsIn_44 : decode cX7_cellsIn 44 = .ok (.goto (-33), 3) := dgX7_cellsIn_0 (44, (.goto (-33), 3)) (List.mem_of_getElem? (i := 25) rfl)
theorem dX7_cellsIn_47 : decode cX7_cellsIn 47 = .ok (.iconst 1, 1) := dgX7_cellsIn_0 (47, (.iconst 1, 1)) (List.mem_of_getElem? (i := 26) rfl)
theorem dX7_cellsIn_48 : decode cX7_cellsIn 48 = .ok (.istore_n 2, 1) := dgX7_cellsIn_0 (48, (.istore_n 2, 1)) (List.mem_of_getElem? (i := 27) rfl)
theorem dX7_cellsIn_49 : decode cX7_cellsIn 49 = .ok (.iload_n 2, 1) := dgX7_cellsIn_0 (49, (.iload_n 2, 1)) (List.mem_of_getElem? (i := 28) rfl)
theorem dX7_cellsIn_50 : decode cX7_cellsIn 50 = .ok (.iload_n 1, 1) := dgX7_cellsIn_0 (50, (.iload_n 1, 1)) (List.mem_of_getElem? (i := 29) rfl)
theorem dX7_cellsIn_51 : decode cX7_cellsIn 51 = .ok (.if_icmp .gt 14, 3) := dgX7_cellsIn_0 (51, (.if_icmp .gt 14, 3)) (List.mem_of_getElem? (i := 30) rfl)
theorem dX7_cellsIn_54 : decode cX7_cellsIn 54 = .ok (.aload_n 0, 1) := dgX7_cellsIn_0 (54, (.aload_n 0, 1)) (List.mem_of_getElem? (i := 31) rfl)
theorem dX7_cellsIn_55 : decode cX7_cellsIn 55 = .ok (.iload_n 2, 1) := dgX7_cellsIn_0 (55, (.iload_n 2, 1)) (List.mem_of_getElem? (i := 32) rfl)
theorem dX7_cellsIn_56 : decode cX7_cellsIn 56 = .ok (.invokevirtual 121, 3) := dgX7_cellsIn_0 (56, (.invokevirtual 121, 3)) (List.mem_of_getElem? (i := 33) rfl)
theorem dX7_cellsIn_59 : decode cX7_cellsIn 59 = .ok (.iinc 2 1, 3) := dgX7_cellsIn_0 (59, (.iinc 2 1, 3)) (List.mem_of_getElem? (i := 34) rfl)
theorem dX7_cellsIn_62 : decode cX7_cellsIn 62 = .ok (.goto (-13), 3) := dgX7_cellsIn_0 (62, (.goto (-13), 3)) (List.mem_of_getElem? (i := 35) rfl)
theorem dX7_cellsIn_65 : decode cX7_cellsIn 65 = .ok (.lconst 0, 1) := dgX7_cellsIn_0 (65, (.lconst 0, 1)) (List.mem_of_getElem? (i := 36) rfl)
theorem dX7_cellsIn_66 : decode cX7_cellsIn 66 = .ok (.lstore_n 2, 1) := dgX7_cellsIn_0 (66, (.lstore_n 2, 1)) (List.mem_of_getElem? (i := 37) rfl)
theorem dX7_cellsIn_67 : decode cX7_cellsIn 67 = .ok (.iconst 0, 1) := dgX7_cellsIn_0 (67, (.iconst 0, 1)) (List.mem_of_getElem? (i := 38) rfl)
theorem dX7_cellsIn_68 : decode cX7_cellsIn 68 = .ok (.istore 4, 2) := dgX7_cellsIn_0 (68, (.istore 4, 2)) (List.mem_of_getElem? (i := 39) rfl)
theorem dgX7_cellsIn_1 : ∀ r ∈ ([(70, (.iload 4, 2)), (72, (.bipush 64, 2)), (74, (.if_icmp .ge 39, 3)), (77, (.aload_n 0, 1)), (78, (.getfield 28, 3)), (81, (.iload 4, 2)), (83, (.iaload, 1)), (84, (.aload_n 0, 1)), (85, (.getfield 25, 3)), (88, (.iload_n 1, 1)), (89, (.bipush 64, 2)), (91, (.imul, 1)), (92, (.iload 4, 2)), (94, (.iadd, 1)), (95, (.iaload, 1)), (96, (.iand, 1)), (97, (.ifCond .eq 10, 3)), (100, (.lload_n 2, 1)), (101, (.lconst 1, 1)), (102, (.iload 4, 2)), (104, (.lshl, 1)), (105, (.lor, 1)), (106, (.lstore_n 2, 1)), (107, (.iinc 4 1, 3)), (110, (.goto (-40), 3)), (113, (.lload_n 2, 1)), (114, (.lreturn, 1))] : List (Nat × (Instr × Nat))), decode cX7_cellsIn r.1 = .ok r.2 := by decide +kernel
theorem dX7_cellsIn_70 : decode cX7_cellsIn 70 = .ok (.iload 4, 2) := dgX7_cellsIn_1 (70, (.iload 4, 2)) (List.mem_of_getElem? (i := 0) rfl)
theorem dX7_cellsIn_72 : decode cX7_cellsIn 72 = .ok (.bipush 64, 2) := dgX7_cellsIn_1 (72, (.bipush 64, 2)) (List.mem_of_getElem? (i := 1) rfl)
theorem dX7_cellsIn_74 : decode cX7_cellsIn 74 = .ok (.if_icmp .ge 39, 3) := dgX7_cellsIn_1 (74, (.if_icmp .ge 39, 3)) (List.mem_of_getElem? (i := 2) rfl)
theorem dX7_cellsIn_77 : decode cX7_cellsIn 77 = .ok (.aload_n 0, 1) := dgX7_cellsIn_1 (77, (.aload_n 0, 1)) (List.mem_of_getElem? (i := 3) rfl)
theorem dX7_cellsIn_78 : decode cX7_cellsIn 78 = .ok (.getfield 28, 3) := dgX7_cellsIn_1 (78, (.getfield 28, 3)) (List.mem_of_getElem? (i := 4) rfl)
theorem dX7_cellsIn_81 : decode cX7_cellsIn 81 = .ok (.iload 4, 2) := dgX7_cellsIn_1 (81, (.iload 4, 2)) (List.mem_of_getElem? (i := 5) rfl)
theorem dX7_cellsIn_83 : decode cX7_cellsIn 83 = .ok (.iaload, 1) := dgX7_cellsIn_1 (83, (.iaload, 1)) (List.mem_of_getElem? (i := 6) rfl)
theorem dX7_cellsIn_84 : decode cX7_cellsIn 84 = .ok (.aload_n 0, 1) := dgX7_cellsIn_1 (84, (.aload_n 0, 1)) (List.mem_of_getElem? (i := 7) rfl)
theorem dX7_cellsIn_85 : decode cX7_cellsIn 85 = .ok (.getfield 25, 3) := dgX7_cellsIn_1 (85, (.getfield 25, 3)) (List.mem_of_getElem? (i := 8) rfl)
theorem dX7_cellsIn_88 : decode cX7_cellsIn 88 = .ok (.iload_n 1, 1) := dgX7_cellsIn_1 (88, (.iload_n 1, 1)) (List.mem_of_getElem? (i := 9) rfl)
theorem dX7_cellsIn_89 : decode cX7_cellsIn 89 = .ok (.bipush 64, 2) := dgX7_cellsIn_1 (89, (.bipush 64, 2)) (List.mem_of_getElem? (i := 10) rfl)
theorem dX7_cellsIn_91 : decode cX7_cellsIn 91 = .ok (.imul, 1) := dgX7_cellsIn_1 (91, (.imul, 1)) (List.mem_of_getElem? (i := 11) rfl)
theorem dX7_cellsIn_92 : decode cX7_cellsIn 92 = .ok (.iload 4, 2) := dgX7_cellsIn_1 (92, (.iload 4, 2)) (List.mem_of_getElem? (i := 12) rfl)
theorem dX7_cellsIn_94 : decode cX7_cellsIn 94 = .ok (.iadd, 1) := dgX7_cellsIn_1 (94, (.iadd, 1)) (List.mem_of_getElem? (i := 13) rfl)
theorem dX7_cellsIn_95 : decode cX7_cellsIn 95 = .ok (.iaload, 1) := dgX7_cellsIn_1 (95, (.iaload, 1)) (List.mem_of_getElem? (i := 14) rfl)
theorem dX7_cellsIn_96 : decode cX7_cellsIn 96 = .ok (.iand, 1) := dgX7_cellsIn_1 (96, (.iand, 1)) (List.mem_of_getElem? (i := 15) rfl)
theorem dX7_cellsIn_97 : decode cX7_cellsIn 97 = .ok (.ifCond .eq 10, 3) := dgX7_cellsIn_1 (97, (.ifCond .eq 10, 3)) (List.mem_of_getElem? (i := 16) rfl)
theorem dX7_cellsIn_100 : decode cX7_cellsIn 100 = .ok (.lload_n 2, 1) := dgX7_cellsIn_1 (100, (.lload_n 2, 1)) (List.mem_of_getElem? (i := 17) rfl)
theorem dX7_cellsIn_101 : decode cX7_cellsIn 101 = .ok (.lconst 1, 1) := dgX7_cellsIn_1 (101, (.lconst 1, 1)) (List.mem_of_getElem? (i := 18) rfl)
theorem dX7_cellsIn_102 : decode cX7_cellsIn 102 = .ok (.iload 4, 2) := dgX7_cellsIn_1 (102, (.iload 4, 2)) (List.mem_of_getElem? (i := 19) rfl)
theorem dX7_cellsIn_104 : decode cX7_cellsIn 104 = .ok (.lshl, 1) := dgX7_cellsIn_1 (104, (.lshl, 1)) (List.mem_of_getElem? (i := 20) rfl)
theorem dX7_cellsIn_105 : decode cX7_cellsIn 105 = .ok (.lor, 1) := dgX7_cellsIn_1 (105, (.lor, 1)) (List.mem_of_getElem? (i := 21) rfl)
theorem dX7_cellsIn_106 : decode cX7_cellsIn 106 = .ok (.lstore_n 2, 1) := dgX7_cellsIn_1 (106, (.lstore_n 2, 1)) (List.mem_of_getElem? (i := 22) rfl)
theorem dX7_cellsIn_107 : decode cX7_cellsIn 107 = .ok (.iinc 4 1, 3) := dgX7_cellsIn_1 (107, (.iinc 4 1, 3)) (List.mem_of_getElem? (i := 23) rfl)
theorem dX7_cellsIn_110 : decode cX7_cellsIn 110 = .ok (.goto (-40), 3) := dgX7_cellsIn_1 (110, (.goto (-40), 3)) (List.mem_of_getElem? (i := 24) rfl)
theorem dX7_cellsIn_113 : decode cX7_cellsIn 113 = .ok (.lload_n 2, 1) := dgX7_cellsIn_1 (113, (.lload_n 2, 1)) (List.mem_of_getElem? (i := 25) rfl)
theorem dX7_cellsIn_114 : decode cX7_cellsIn 114 = .ok (.lreturn, 1) := dgX7_cellsIn_1 (114, (.lreturn, 1)) (List.mem_of_getElem? (i := 26) rfl)
theorem ml_X7_121 : Cond.methodLink RX7 121 yX7_holdIn ∈ tblG := tg 1009 (by decide +kernel) (by decide +kernel)
theorem im_X7_holdIn : Cond.instanceMethod yX7_holdIn ∈ tblG := tg 1011 (by decide +kernel) (by decide +kernel)
theorem se_X7_holdIn : Cond.selects RX7 yX7_holdIn yX7_holdIn ∈ tblG := tg 24 (by decide +kernel) (by decide +kernel)
theorem cd_X7_holdIn : Cond.code yX7_holdIn cX7_holdIn 6 none ∈ tblG := tg 1012 (by decide +kernel) (by decide +kernel)
theorem gW_X7_holdIn : GoodIn tblG (wsG yX7_holdIn cX7_holdIn 6 none) := tgi cd_X7_holdIn
theorem gV_X7_121 : GoodIn tblG (wsV RX7 121 RX7 yX7_holdIn (wsG yX7_holdIn cX7_holdIn 6 none)) := tgV ml_X7_121 im_X7_holdIn se_X7_holdIn ini_X7 gW_X7_holdIn
theorem hv_X7_holdIn : yX7_holdIn.cls = RX7 ∧ yX7_holdIn.cls ≠ "java/lang/invoke/MethodHandle" ∧ yX7_holdIn.cls ≠ "java/lang/invoke/VarHandle" ∧ (parseMethodDescriptor yX7_holdIn.desc).map (fun d => d.parameters.length) = some 1 := by decide +kernel
set_option maxHeartbeats 4000000 in
set_option maxRecDepth 100000 in
theorem th_cells (l : Launch) (G : g5_G) (a_th a_ba a_ad a_hp a_hl a_lv a_h a_k a_cn a_nx : Nat) (sz : Nat) (e_fu : Int32) (p_h : Int32) (f_ba : Nat → Int64) (f_ad : Nat → Int32) (f_hp : Nat → Int32) (f_hl : Nat → Int32) (f_lv : Nat → Int32) (h_p_h : 0 ≤ p_h.toInt ∧ p_h.toInt ≤ 23) : Met l yX7_cellsIn (wsG yX7_cellsIn cX7_cellsIn 5 (some .long)) ({ frames := 3, cells := 0, slots := 0, locals := 70 }) (va_Pc [.ref a_th, .int p_h] (g5_P G [(a_th, (oc7 a_h a_k a_ba a_ad e_fu a_cn a_nx a_hp a_hl a_lv)), (a_ba, (arJ G 24 f_ba)), (a_ad, (arI G 1536 f_ad)), (a_hp, (arI G 1536 f_hp)), (a_hl, (arI G 64 f_hl)), (a_lv, (arI G 64 f_lv))] sz)) (va_Ql (fun (r : Int64) (u : va_W) => (∃ (o_r : Int64) (o_p : Nat → Int32) (o_f : Nat → Int32) (o_g : Nat → Int32), (r = o_r) ∧ (u = [(a_th, (oc7 a_h a_k a_ba a_ad e_fu a_cn a_nx a_hp a_hl a_lv)), (a_ba, (arJ G 24 f_ba)), (a_ad, (arI G 1536 f_ad)), (a_hp, (arI G 1536 o_p)), (a_hl, (arI G 64 o_f)), (a_lv, (arI G 64 o_g))]))) (g5_B G (va_A [(a_th, (oc7 a_h a_k a_ba a_ad e_fu a_cn a_nx a_hp a_hl a_lv)), (a_ba, (arJ G 24 f_ba)), (a_ad, (arI G 1536 f_ad)), (a_hp, (arI G 1536 f_hp)), (a_hl, (arI G 64 f_hl)), (a_lv, (arI G 64 f_lv))] sz)) (va_A [(a_th, (oc7 a_h a_k a_ba a_ad e_fu a_cn a_nx a_hp a_hl a_lv)), (a_ba, (arJ G 24 f_ba)), (a_ad, (arI G 1536 f_ad)), (a_hp, (arI G 1536 f_hp)), (a_hl, (arI G 64 f_hl)), (a_lv, (arI G 64 f_lv))] sz)) 0 0 (va_A [(a_th, (oc7 a_h a_k a_ba a_ad e_fu a_cn a_nx a_hp a_hl a_lv)), (a_ba, (arJ G 24 f_ba)), (a_ad, (arI G 1536 f_ad)), (a_hp, (arI G 1536 f_hp)), (a_hl, (arI G 64 f_hl)), (a_lv, (arI G 64 f_lv))] sz) := by
  refine Met.ofW (cc := cX7_cellsIn) (maxL := 5) (ret := (some .long)) (by decide +kernel) rfl ?_
  intro p e s m args below meth c s₁ B hml hv
  obtain ⟨rfl, hsz, hP, hK, hD0, hN, hT⟩ := hv
  have hx := B.exec
  have hb := B.bytes
  have hr := B.returns
  have hts : ∀ w ∈ tblG, w.before _ s = true := fun w h => atoms_spec (ws := (wsG yX7_cellsIn cX7_cellsIn 5 (some .long))) B.pre w (List.mem_cons_of_mem _ h)
  have hown : s.vm.findClass RX7 = some m.cls := findClass_of_methodNamed B.named
  have hlocks := B.notSynchronized
  subst hsz
  have hD := hD0.self (sz := s.heap.size)
  generalize hAe : va_A [(a_th, (oc7 a_h a_k a_ba a_ad e_fu a_cn a_nx a_hp a_hl a_lv)), (a_ba, (arJ G 24 f_ba)), (a_ad, (arI G 1536 f_ad)), (a_hp, (arI G 1536 f_hp)), (a_hl, (arI G 64 f_hl)), (a_lv, (arI G 64 f_lv))] s.heap.size = A at hD hT ⊢
  have hA : ∀ q : Nat, s.heap.size ≤ q → A q := fun q h => by rw [← hAe]; exact Or.inr h
  have hS : va_S A s.heap s.heap [] := va_S.rf
  replace hP : va_P G.1 vwCl [(a_th, (oc7 a_h a_k a_ba a_ad e_fu a_cn a_nx a_hp a_hl a_lv)), (a_ba, (arJ G 24 f_ba)), (a_ad, (arI G 1536 f_ad)), (a_hp, (arI G 1536 f_hp)), (a_hl, (arI G 64 f_hl)), (a_lv, (arI G 64 f_lv))] s.heap := hP
  have hl := lv_entry ([.ref a_th, .int p_h]) (n := 5) (Nat.le_of_ble_eq_true rfl)
  rw [lg_entry_eq]
  generalize (lg_sl ([.ref a_th, .int p_h]) ++ List.replicate (5 - (lg_sl ([.ref a_th, .int p_h])).length) Slot.unset).toArray = ls at hl ⊢
  replace hl : lv_has ls 5 [(0, .ref a_th), (1, .int p_h)] := hl
  refine lv_aload_n hx hb dX7_cellsIn_0 rfl (lv_at hl 0 rfl) ?_
  obtain ⟨hPc, hDc, hFc⟩ := g5_sub3 (wc := [(a_th, (oc7 a_h a_k a_ba a_ad e_fu a_cn a_nx a_hp a_hl a_lv)), (a_ba, (arJ G 24 f_ba)), (a_ad, (arI G 1536 f_ad)), (a_hp, (arI G 1536 f_hp))]) hP hD hS hA [0, 1, 2, 3] (by decide +kernel) rfl
  refine va_calli (va_runV (As := []) (rest := []) ⟨hx, hb, hml, hown, hts⟩ (th_anyFits l G a_th a_ba a_ad a_hp a_h a_k a_cn a_nx a_hl a_lv s.heap.size e_fu f_ba f_ad f_hp) (cwV 0 hts gV_X7_117 rfl rfl rfl hv_X7_anyFits ⟨Nat.le_of_ble_eq_true rfl, Nat.le_of_ble_eq_true rfl⟩) (g5_preV hPc hK hDc hN hT hS hFc (ci := 7) (q0 := 0) rfl rfl) rfl rfl hl.1 rfl (lv_room (Nat.le_of_ble_eq_true rfl)) dX7_cellsIn_1 ⟨Nat.le_of_ble_eq_true rfl, Nat.le_of_ble_eq_true rfl⟩) hS (fun q _ h => hFc q h) hFc (fun r u t H locs ht hvm hw hB hz1 hk1 hS => ?_)
  obtain ⟨hP1, hD1⟩ := hB
  have hP1 := g5_ht ht hP1
  obtain ⟨z2, z3, (i_1 : 0 ≤ z2.toInt ∧ z2.toInt ≤ 1), y4, rfl⟩ := hw
  have hJ9 := va_join (wr := [(a_hl, (arI G 64 f_hl)), (a_lv, (arI G 64 f_lv))]) hP hD [0, 1, 2, 3] [4, 5] rfl rfl (by decide +kernel) (by decide +kernel) hk1 hFc hP1 hD1
  clear hP hD hPc hDc hFc ht hvm hz1 hk1 hP1 hD1
  obtain ⟨hP, hD⟩ := hJ9
  refine g5_rs [(a_hl, (arI G 64 f_hl)), (a_lv, (arI G 64 f_lv)), (a_th, (oc7 a_h a_k a_ba a_ad e_fu a_cn a_nx a_hp a_hl a_lv)), (a_ba, (arJ G 24 f_ba)), (a_ad, (arI G 1536 f_ad)), (a_hp, (arI G 1536 z3))] hP hD ?_
  clear hP hD
  intro hP hD
  refine g5_ti (v := z2) y4 ?_
  refine lv_if_ne (tgt := 9) hx hb dX7_cellsIn_4 (by decide +kernel) (fun c_5 => ?_) (fun c_5 => ?_)
  ·
    have n_5 : gNe (z2.toInt) (0) := g5_ne (a := z2.toInt) (b := 0) rfl (by decide +kernel) c_5
    have i_5 : z2.toInt ≥ 1 := by have z := g5_ne (a := z2.toInt) (b := 0) (by rfl) (by decide +kernel) c_5; omega
    refine lv_iconst (v := 0) hx hb dX7_cellsIn_9 (by decide +kernel) ?_
    refine lv_istore_n (lv' := [(2, .int 0), (0, .ref a_th), (1, .int p_h)]) hx hb dX7_cellsIn_10 rfl hl (by decide +kernel) rfl ?_
    clear hl
    intro ls hl
    refine g5_loop (α := (Int32) × (Nat → Int32)) (fun (q : (Int32) × (Nat → Int32)) (ls : Array Slot) (H : Heap) (locs : List Loc) => match q with | (k_i, k_f) => lv_has ls 5 [(2, .int k_i), (0, .ref a_th), (1, .int p_h)] ∧ va_P G.1 vwCl [(a_hl, (arI G 64 k_f)), (a_lv, (arI G 64 f_lv)), (a_th, (oc7 a_h a_k a_ba a_ad e_fu a_cn a_nx a_hp a_hl a_lv)), (a_ba, (arJ G 24 f_ba)), (a_ad, (arI G 1536 f_ad)), (a_hp, (arI G 1536 z3))] H ∧ va_D A [(a_hl, (arI G 64 k_f)), (a_lv, (arI G 64 f_lv)), (a_th, (oc7 a_h a_k a_ba a_ad e_fu a_cn a_nx a_hp a_hl a_lv)), (a_ba, (arJ G 24 f_ba)), (a_ad, (arI G 1536 f_ad)), (a_hp, (arI G 1536 z3))] ∧ va_S A s.heap H locs ∧ (0 ≤ k_i.toInt ∧ k_i.toInt ≤ 64)) (fun (q : (Int32) × (Nat → Int32)) => match q with | (k_i, k_f) => Int.toNat (64 - k_i.toInt)) (0, f_hl) ⟨lv_sub hl [0, 1, 2] rfl, hP, hD, hS, ⟨by decide, by decide⟩⟩ ?_
    rintro ⟨k_i, k_f⟩ ls H locs ⟨hl, hP, hD, hS, (i_6 : 0 ≤ k_i.toInt ∧ k_i.toInt ≤ 64)⟩ ih_11_7
    replace hl : lv_has ls 5 [(2, .int k_i), (0, .ref a_th), (1, .int p_h)] := hl
    refine g5_rs [(a_hl, (arI G 64 k_f)), (a_lv, (arI G 64 f_lv)), (a_th, (oc7 a_h a_k a_ba a_ad e_fu a_cn a_nx a_hp a_hl a_lv)), (a_ba, (arJ G 24 f_ba)), (a_ad, (arI G 1536 f_ad)), (a_hp, (arI G 1536 z3))] hP hD ?_
    clear hP hD
    intro hP hD
    refine lv_iload_n hx hb dX7_cellsIn_11 rfl (lv_at hl 0 rfl) ?_
    refine lv_bipush (v := 64) hx hb dX7_cellsIn_12 (by decide +kernel) ?_
    refine lv_icmp_ge (tgt := 47) hx hb dX7_cellsIn_14 (by decide +kernel) (fun c_8 => ?_) (fun c_8 => ?_)
    ·
      have i_8 : k_i.toInt ≥ 64 := g5_ge (a := k_i.toInt) (b := 64) rfl (by decide +kernel) c_8
      refine lv_iconst (v := 1) hx hb dX7_cellsIn_47 (by decide +kernel) ?_
      refine lv_istore_n (lv' := [(2, .int 1), (0, .ref a_th), (1, .int p_h)]) hx hb dX7_cellsIn_48 rfl hl (by decide +kernel) rfl ?_
      clear hl
      intro ls hl
      refine g5_loop (α := (Int32) × (Nat → Int32) × (Nat → Int32)) (fun (q : (Int32) × (Nat → Int32) × (Nat → Int32)) (ls : Array Slot) (H : Heap) (locs : List Loc) => match q with | (m_h, m_f, m_g) => lv_has ls 5 [(2, .int m_h), (0, .ref a_th), (1, .int p_h)] ∧ va_P G.1 vwCl [(a_hl, (arI G 64 m_f)), (a_lv, (arI G 64 m_g)), (a_th, (oc7 a_h a_k a_ba a_ad e_fu a_cn a_nx a_hp a_hl a_lv)), (a_ba, (arJ G 24 f_ba)), (a_ad, (arI G 1536 f_ad)), (a_hp, (arI G 1536 z3))] H ∧ va_D A [(a_hl, (arI G 64 m_f)), (a_lv, (arI G 64 m_g)), (a_th, (oc7 a_h a_k a_ba a_ad e_fu a_cn a_nx a_hp a_hl a_lv)), (a_ba, (arJ G 24 f_ba)), (a_ad, (arI G 1536 f_ad)), (a_hp, (arI G 1536 z3))] ∧ va_S A s.heap H locs ∧ (1 ≤ m_h.toInt ∧ m_h.toInt ≤ 24)) (fun (q : (Int32) × (Nat → Int32) × (Nat → Int32)) => match q with | (m_h, m_f, m_g) => Int.toNat (24 - m_h.toInt)) (1, k_f, f_lv) ⟨lv_sub hl [0, 1, 2] rfl, hP, hD, hS, ⟨by decide, by decide⟩⟩ ?_
      rintro ⟨m_h, m_f, m_g⟩ ls H locs ⟨hl, hP, hD, hS, (i_9 : 1 ≤ m_h.toInt ∧ m_h.toInt ≤ 24)⟩ ih_49_10
      replace hl : lv_has ls 5 [(2, .int m_h), (0, .ref a_th), (1, .int p_h)] := hl
      refine g5_rs [(a_hl, (arI G 64 m_f)), (a_lv, (arI G 64 m_g)), (a_th, (oc7 a_h a_k a_ba a_ad e_fu a_cn a_nx a_hp a_hl a_lv)), (a_ba, (arJ G 24 f_ba)), (a_ad, (arI G 1536 f_ad)), (a_hp, (arI G 1536 z3))] hP hD ?_
      clear hP hD
      intro hP hD
      refine lv_iload_n hx hb dX7_cellsIn_49 rfl (lv_at hl 0 rfl) ?_
      refine lv_iload_n hx hb dX7_cellsIn_50 rfl (lv_at hl 2 rfl) ?_
      refine lv_icmp_gt (tgt := 65) hx hb dX7_cellsIn_51 (by decide +kernel) (fun c_11 => ?_) (fun c_11 => ?_)
      ·
        have i_11 : m_h.toInt > p_h.toInt := g5_gt (a := m_h.toInt) (b := p_h.toInt) rfl rfl c_11
        refine lv_lconst (v := 0) hx hb dX7_cellsIn_65 (by decide +kernel) ?_
        refine lv_lstore_n (lv' := [(2, .long 0), (0, .ref a_th), (1, .int p_h)]) hx hb dX7_cellsIn_66 rfl hl (by decide +kernel) rfl ?_
        clear hl
        intro ls hl
        refine lv_iconst (v := 0) hx hb dX7_cellsIn_67 (by decide +kernel) ?_
        refine lv_istore (lv' := [(4, .int 0), (2, .long 0), (0, .ref a_th), (1, .int p_h)]) hx hb dX7_cellsIn_68 hl (by decide +kernel) rfl ?_
        clear hl
        intro ls hl
        refine g5_loop (α := (Int32) × (Int64)) (fun (q : (Int32) × (Int64)) (ls : Array Slot) (H : Heap) (locs : List Loc) => match q with | (n_i, n_x) => lv_has ls 5 [(2, .long n_x), (4, .int n_i), (0, .ref a_th), (1, .int p_h)] ∧ va_P G.1 vwCl [(a_hl, (arI G 64 m_f)), (a_lv, (arI G 64 m_g)), (a_th, (oc7 a_h a_k a_ba a_ad e_fu a_cn a_nx a_hp a_hl a_lv)), (a_ba, (arJ G 24 f_ba)), (a_ad, (arI G 1536 f_ad)), (a_hp, (arI G 1536 z3))] H ∧ va_D A [(a_hl, (arI G 64 m_f)), (a_lv, (arI G 64 m_g)), (a_th, (oc7 a_h a_k a_ba a_ad e_fu a_cn a_nx a_hp a_hl a_lv)), (a_ba, (arJ G 24 f_ba)), (a_ad, (arI G 1536 f_ad)), (a_hp, (arI G 1536 z3))] ∧ va_S A s.heap H locs ∧ (0 ≤ n_i.toInt ∧ n_i.toInt ≤ 64)) (fun (q : (Int32) × (Int64)) => match q with | (n_i, n_x) => Int.toNat (64 - n_i.toInt)) (0, 0) ⟨lv_sub hl [1, 0, 2, 3] rfl, hP, hD, hS, ⟨by decide, by decide⟩⟩ ?_
        rintro ⟨n_i, n_x⟩ ls H locs ⟨hl, hP, hD, hS, (i_12 : 0 ≤ n_i.toInt ∧ n_i.toInt ≤ 64)⟩ ih_70_13
        replace hl : lv_has ls 5 [(2, .long n_x), (4, .int n_i), (0, .ref a_th), (1, .int p_h)] := hl
        refine g5_rs [(a_hl, (arI G 64 m_f)), (a_lv, (arI G 64 m_g)), (a_th, (oc7 a_h a_k a_ba a_ad e_fu a_cn a_nx a_hp a_hl a_lv)), (a_ba, (arJ G 24 f_ba)), (a_ad, (arI G 1536 f_ad)), (a_hp, (arI G 1536 z3))] hP hD ?_
        clear hP hD
        intro hP hD
        refine lv_iload hx hb dX7_cellsIn_70 (lv_at hl 1 rfl) ?_
        refine lv_bipush (v := 64) hx hb dX7_cellsIn_72 (by decide +kernel) ?_
        refine lv_icmp_ge (tgt := 113) hx hb dX7_cellsIn_74 (by decide +kernel) (fun c_14 => ?_) (fun c_14 => ?_)
        ·
          have i_14 : n_i.toInt ≥ 64 := g5_ge (a := n_i.toInt) (b := 64) rfl (by decide +kernel) c_14
          refine lv_lload_n hx hb dX7_cellsIn_113 rfl (lv_at hl 0 rfl) ?_
          exact W.lret (v := n_x) hx hb hr (fun t ht hW => ⟨⟨n_x, [(a_th, (oc7 a_h a_k a_ba a_ad e_fu a_cn a_nx a_hp a_hl a_lv)), (a_ba, (arJ G 24 f_ba)), (a_ad, (arI G 1536 f_ad)), (a_hp, (arI G 1536 z3)), (a_hl, (arI G 64 m_f)), (a_lv, (arI G 64 m_g))], rfl, ⟨n_x, z3, m_f, m_g, rfl, rfl⟩, by rw [ht]; exact hP.sub [2, 3, 4, 5, 0, 1] rfl, hD.sub [2, 3, 4, 5, 0, 1] (by decide +kernel) rfl⟩, hS.F ht⟩) hS.2.2 dX7_cellsIn_114
        ·
          have i_14 : n_i.toInt < 64 := g5_geN (a := n_i.toInt) (b := 64) rfl (by decide +kernel) c_14
          refine lv_aload_n hx hb dX7_cellsIn_77 rfl (lv_at hl 2 rfl) ?_
          refine va_get (D := G.1) (ci := 7) (v := .ref a_hl) (C := RX7) (T := TX7) (N := 10) hx hb hts inG_X7 hown hK hP 2 rfl rfl 8 (by decide +kernel) (hts _ fl_X7_28) (fun _ h9 => h9) rfl dX7_cellsIn_78 ?_
          refine lv_iload hx hb dX7_cellsIn_81 (lv_at hl 1 rfl) ?_
          refine va_iald hx hb hK hP 0 0 rfl rfl (i := n_i) (vp_in_iff.mpr ⟨by omega, by omega⟩) dX7_cellsIn_83 ?_
          refine W.eq (g2 := F0 m 84 ls [.int (m_f n_i.toNatClampNeg)]) rfl ?_
          refine lv_aload_n hx hb dX7_cellsIn_84 rfl (lv_at hl 2 rfl) ?_
          refine va_get (D := G.1) (ci := 7) (v := .ref a_hp) (C := RX7) (T := TX7) (N := 10) hx hb hts inG_X7 hown hK hP 2 rfl rfl 7 (by decide +kernel) (hts _ fl_X7_25) (fun _ h9 => h9) rfl dX7_cellsIn_85 ?_
          refine lv_iload_n hx hb dX7_cellsIn_88 rfl (lv_at hl 3 rfl) ?_
          refine lv_bipush (v := 64) hx hb dX7_cellsIn_89 (by decide +kernel) ?_
          refine lv_imul hx hb dX7_cellsIn_91 ?_
          have t_15 : (p_h * 64).toInt = p_h.toInt * 64 := g5_imul (a := p_h.toInt) (b := 64) (by rfl) (by decide +kernel) (by omega) (by omega)
          refine W.eq (g2 := F0 m 92 ls [.int (p_h * 64), .ref a_hp, .int (m_f n_i.toNatClampNeg)]) rfl ?_
          refine lv_iload hx hb dX7_cellsIn_92 (lv_at hl 1 rfl) ?_
          refine lv_iadd hx hb dX7_cellsIn_94 ?_
          have t_16 : ((p_h * 64) + n_i).toInt = (p_h * 64).toInt + n_i.toInt := g5_iadd (a := (p_h * 64).toInt) (b := n_i.toInt) (by rfl) (by rfl) (by omega) (by omega)
          refine va_iald hx hb hK hP 5 0 rfl rfl (i := ((p_h * 64) + n_i)) (vp_in_iff.mpr ⟨by omega, by omega⟩) dX7_cellsIn_95 ?_
          refine lv_iand hx hb dX7_cellsIn_96 ?_
          refine lv_if_eq (tgt := 107) hx hb dX7_cellsIn_97 (by decide +kernel) (fun c_17 => ?_) (fun c_17 => ?_)
          ·
            have i_17 : ((m_f n_i.toNatClampNeg) &&& (z3 ((p_h * 64) + n_i).toNatClampNeg)).toInt = 0 := g5_eq (a := ((m_f n_i.toNatClampNeg) &&& (z3 ((p_h * 64) + n_i).toNatClampNeg)).toInt) (b := 0) rfl (by decide +kernel) c_17
            refine lv_iinc (v := (n_i + 1)) (lv' := [(4, .int (n_i + 1)), (2, .long n_x), (0, .ref a_th), (1, .int p_h)]) hx hb dX7_cellsIn_107 hl (k := 1) rfl rfl (by decide +kernel) rfl ?_
            clear hl
            intro ls hl
            have t_18 : (n_i + 1).toInt = n_i.toInt + 1 := g5_iadd (a := n_i.toInt) (b := 1) rfl (by decide +kernel) (by omega) (by omega)
            refine lv_goto (tgt := 70) hx hb dX7_cellsIn_110 (by decide +kernel) ?_
            exact ih_70_13 ((n_i + 1), n_x) ls H locs (show Int.toNat (64 - (n_i + 1).toInt) < Int.toNat (64 - n_i.toInt) from g_up (show n_i.toInt < (n_i + 1).toInt by omega) (show n_i.toInt < 64 by omega)) ⟨lv_sub hl [1, 0, 2, 3] rfl, hP, hD, hS, ⟨by omega, by omega⟩⟩
          ·
            have n_17 : gNe (((m_f n_i.toNatClampNeg) &&& (z3 ((p_h * 64) + n_i).toNatClampNeg)).toInt) (0) := g5_eqN (a := ((m_f n_i.toNatClampNeg) &&& (z3 ((p_h * 64) + n_i).toNatClampNeg)).toInt) (b := 0) rfl (by decide +kernel) c_17
            refine lv_lload_n hx hb dX7_cellsIn_100 rfl (lv_at hl 0 rfl) ?_
            refine lv_lconst (v := 1) hx hb dX7_cellsIn_101 (by decide +kernel) ?_
            refine lv_iload hx hb dX7_cellsIn_102 (lv_at hl 1 rfl) ?_
            refine lv_lshl (v := ((1 : Int64) <<< (n_i.toInt64 &&& 63))) hx hb dX7_cellsIn_104 rfl ?_
            refine W.eq (g2 := F0 m 105 ls [.long ((1 : Int64) <<< (n_i.toInt64 &&& 63)), .long n_x]) rfl ?_
            refine lv_lor hx hb dX7_cellsIn_105 ?_
            refine lv_lstore_n (lv' := [(2, .long (n_x ||| ((1 : Int64) <<< (n_i.toInt64 &&& 63)))), (4, .int n_i), (0, .ref a_th), (1, .int p_h)]) hx hb dX7_cellsIn_106 rfl hl (by decide +kernel) rfl ?_
            clear hl
            intro ls hl
            refine lv_iinc (v := (n_i + 1)) (lv' := [(4, .int (n_i + 1)), (2, .long (n_x ||| ((1 : Int64) <<< (n_i.toInt64 &&& 63)))), (0, .ref a_th), (1, .int p_h)]) hx hb dX7_cellsIn_107 hl (k := 1) rfl rfl (by decide +kernel) rfl ?_
            clear hl
            intro ls hl
            have t_19 : (n_i + 1).toInt = n_i.toInt + 1 := g5_iadd (a := n_i.toInt) (b := 1) rfl (by decide +kernel) (by omega) (by omega)
            refine lv_goto (tgt := 70) hx hb dX7_cellsIn_110 (by decide +kernel) ?_
            exact ih_70_13 ((n_i + 1), (n_x ||| ((1 : Int64) <<< (n_i.toInt64 &&& 63)))) ls H locs (show Int.toNat (64 - (n_i + 1).toInt) < Int.toNat (64 - n_i.toInt) from g_up (show n_i.toInt < (n_i + 1).toInt by omega) (show n_i.toInt < 64 by omega)) ⟨lv_sub hl [1, 0, 2, 3] rfl, hP, hD, hS, ⟨by omega, by omega⟩⟩
      ·
        have i_11 : m_h.toInt ≤ p_h.toInt := g5_gtN (a := m_h.toInt) (b := p_h.toInt) rfl rfl c_11
        refine lv_aload_n hx hb dX7_cellsIn_54 rfl (lv_at hl 1 rfl) ?_
        refine lv_iload_n hx hb dX7_cellsIn_55 rfl (lv_at hl 0 rfl) ?_
        obtain ⟨hPc, hDc, hFc⟩ := g5_sub3 (wc := [(a_th, (oc7 a_h a_k a_ba a_ad e_fu a_cn a_nx a_hp a_hl a_lv)), (a_ba, (arJ G 24 f_ba)), (a_ad, (arI G 1536 f_ad)), (a_hl, (arI G 64 m_f)), (a_lv, (arI G 64 m_g))]) hP hD hS hA [2, 3, 4, 0, 1] (by decide +kernel) rfl
        refine va_callv (va_runV (As := [.int m_h]) (rest := []) ⟨hx, hb, hml, hown, hts⟩ (th_hold l G a_th a_ba a_ad a_hl a_lv a_h a_k a_cn a_nx a_hp H.size e_fu m_h f_ba f_ad m_f m_g ⟨by omega, by omega⟩) (cwV 1 hts gV_X7_121 rfl rfl rfl hv_X7_holdIn ⟨Nat.le_of_ble_eq_true rfl, Nat.le_of_ble_eq_true rfl⟩) (g5_preV hPc hK hDc hN hT hS hFc (ci := 7) (q0 := 0) rfl rfl) rfl rfl hl.1 rfl (lv_room (Nat.le_of_ble_eq_true rfl)) dX7_cellsIn_56 ⟨Nat.le_of_ble_eq_true rfl, Nat.le_of_ble_eq_true rfl⟩) hS (fun q _ h => hFc q h) hFc (fun u t H locs ht hvm hw hB hz1 hk1 hS => ?_)
        obtain ⟨hP1, hD1⟩ := hB
        have hP1 := g5_ht ht hP1
        obtain ⟨z20, z21, rfl⟩ := hw
        have hJ9 := va_join (wr := [(a_hp, (arI G 1536 z3))]) hP hD [2, 3, 4, 0, 1] [5] rfl rfl (by decide +kernel) (by decide +kernel) hk1 hFc hP1 hD1
        clear hP hD hPc hDc hFc ht hvm hz1 hk1 hP1 hD1
        obtain ⟨hP, hD⟩ := hJ9
        refine g5_rs [(a_hp, (arI G 1536 z3)), (a_th, (oc7 a_h a_k a_ba a_ad e_fu a_cn a_nx a_hp a_hl a_lv)), (a_ba, (arJ G 24 f_ba)), (a_ad, (arI G 1536 f_ad)), (a_hl, (arI G 64 z20)), (a_lv, (arI G 64 z21))] hP hD ?_
        clear hP hD
        intro hP hD
        refine lv_iinc (v := (m_h + 1)) (lv' := [(2, .int (m_h + 1)), (0, .ref a_th), (1, .int p_h)]) hx hb dX7_cellsIn_59 hl (k := 0) rfl rfl (by decide +kernel) rfl ?_
        clear hl
        intro ls hl
        have t_22 : (m_h + 1).toInt = m_h.toInt + 1 := g5_iadd (a := m_h.toInt) (b := 1) rfl (by decide +kernel) (by omega) (by omega)
        refine W.eq (g2 := F0 m 62 ls []) rfl ?_
        refine lv_goto (tgt := 49) hx hb dX7_cellsIn_62 (by decide +kernel) ?_
        exact ih_49_10 ((m_h + 1), z20, z21) ls H locs (show Int.toNat (24 - (m_h + 1).toInt) < Int.toNat (24 - m_h.toInt) from g_up (show m_h.toInt < (m_h + 1).toInt by omega) (show m_h.toInt < 24 by omega)) ⟨lv_sub hl [0, 1, 2] rfl, hP.sub [4, 5, 1, 2, 3, 0] rfl, hD.sub [4, 5, 1, 2, 3, 0] (by decide +kernel) rfl, hS, ⟨by omega, by omega⟩⟩
    ·
      have i_8 : k_i.toInt < 64 := g5_geN (a := k_i.toInt) (b := 64) rfl (by decide +kernel) c_8
      refine lv_aload_n hx hb dX7_cellsIn_17 rfl (lv_at hl 1 rfl) ?_
      refine va_get (D := G.1) (ci := 7) (v := .ref a_hl) (C := RX7) (T := TX7) (N := 10) hx hb hts inG_X7 hown hK hP 2 rfl rfl 8 (by decide +kernel) (hts _ fl_X7_28) (fun _ h9 => h9) rfl dX7_cellsIn_18 ?_
      refine lv_iload_n hx hb dX7_cellsIn_21 rfl (lv_at hl 0 rfl) ?_
      refine lv_aload_n hx hb dX7_cellsIn_22 rfl (lv_at hl 1 rfl) ?_
      refine W.eq (g2 := F0 m 23 ls [.ref a_th, .int k_i, .ref a_hl]) rfl ?_
      refine va_get (D := G.1) (ci := 7) (v := .ref a_ba) (C := RX7) (T := TX7) (N := 10) hx hb hts inG_X7 hown hK hP 2 rfl rfl 2 (by decide +kernel) (hts _ fl_X7_9) (fun _ h9 => h9) rfl dX7_cellsIn_23 ?_
      refine lv_iconst (v := 0) hx hb dX7_cellsIn_26 (by decide +kernel) ?_
      refine va_lald hx hb hK hP 3 1 rfl rfl (i := 0) (by unfold vp_in; decide) dX7_cellsIn_27 ?_
      refine g5_tl (v := (f_ba 0)) rfl ?_
      refine lv_iload_n hx hb dX7_cellsIn_28 rfl (lv_at hl 0 rfl) ?_
      obtain ⟨hPc, hDc, hFc⟩ := g5_sub3 (wc := []) hP hD hS hA [] (by decide +kernel) rfl
      refine va_calli (va_runSN (As := [.long (f_ba 0), .int k_i]) (rest := [.int k_i, .ref a_hl]) ⟨hx, hb, hml, hown, hts⟩ (k_isOn l G H.size k_i (f_ba 0) ⟨by omega, by omega⟩) ⟨va_cnB 2 hts gW_X11_isOn rfl rfl rfl (hN.1 _ g5_nw_X7_98) (hts _ ini_X11) hs_X11_isOn ⟨Nat.le_of_ble_eq_true rfl, Nat.le_of_ble_eq_true rfl⟩, hts _ st_X11_isOn, trivial⟩ (g5_preS hPc hK hDc hN hT hS hFc) rfl rfl hl.1 rfl (lv_room (Nat.le_of_ble_eq_true rfl)) dX7_cellsIn_29 ⟨Nat.le_of_ble_eq_true rfl, Nat.le_of_ble_eq_true rfl⟩) hS (fun q _ h => hFc q h) hFc (fun r u t H locs ht hvm hw hB hz1 hk1 hS => ?_)
      obtain ⟨hP1, hD1⟩ := hB
      have hP1 := g5_ht ht hP1
      rcases hw with ⟨(i_23 : onB (f_ba 0) k_i.toInt = false), rfl, rfl⟩ | ⟨(i_24 : onB (f_ba 0) k_i.toInt = true), rfl, rfl⟩
      ·
        have hJ9 := g5_same hP hk1
        clear hP hPc hDc hFc ht hvm hz1 hk1 hP1 hD1
        have hP := hJ9
        clear hJ9
        refine lv_if_eq (tgt := 39) hx hb dX7_cellsIn_32 (by decide +kernel) (fun c_25 => ?_) (fun c_25 => ?_)
        ·
          refine lv_iconst (v := 1) hx hb dX7_cellsIn_39 (by decide +kernel) ?_
          refine va_iast hx hb hK hP hD hS 0 0 rfl rfl (i := k_i) (x := 1) (vp_in_iff.mpr ⟨by omega, by omega⟩) dX7_cellsIn_40 ?_
          clear hP hD hS
          intro H locs hP hD hS
          refine g5_rs [(a_hl, (arI G 64 (upd k_f k_i.toNatClampNeg 1))), (a_lv, (arI G 64 f_lv)), (a_th, (oc7 a_h a_k a_ba a_ad e_fu a_cn a_nx a_hp a_hl a_lv)), (a_ba, (arJ G 24 f_ba)), (a_ad, (arI G 1536 f_ad)), (a_hp, (arI G 1536 z3))] hP hD ?_
          clear hP hD
          intro hP hD
          refine lv_iinc (v := (k_i + 1)) (lv' := [(2, .int (k_i + 1)), (0, .ref a_th), (1, .int p_h)]) hx hb dX7_cellsIn_41 hl (k := 0) rfl rfl (by decide +kernel) rfl ?_
          clear hl
          intro ls hl
          have t_26 : (k_i + 1).toInt = k_i.toInt + 1 := g5_iadd (a := k_i.toInt) (b := 1) rfl (by decide +kernel) (by omega) (by omega)
          refine lv_goto (tgt := 11) hx hb dX7_cellsIn_44 (by decide +kernel) ?_
          exact ih_11_7 ((k_i + 1), (upd k_f k_i.toNatClampNeg 1)) ls H locs (show Int.toNat (64 - (k_i + 1).toInt) < Int.toNat (64 - k_i.toInt) from g_up (show k_i.toInt < (k_i + 1).toInt by omega) (show k_i.toInt < 64 by omega)) ⟨lv_sub hl [0, 1, 2] rfl, hP, hD, hS, ⟨by omega, by omega⟩⟩
        ·
          exact absurd c_25 (by decide +kernel)
      ·
        have hJ9 := g5_same hP hk1
        clear hP hPc hDc hFc ht hvm hz1 hk1 hP1 hD1
        have hP := hJ9
        clear hJ9
        refine lv_if_eq (tgt := 39) hx hb dX7_cellsIn_32 (by decide +kernel) (fun c_27 => ?_) (fun c_27 => ?_)
        ·
          exact absurd c_27 (by decide +kernel)
        ·
          refine lv_iconst (v := 0) hx hb dX7_cellsIn_35 (by decide +kernel) ?_
          refine lv_goto (tgt := 40) hx hb dX7_cellsIn_36 (by decide +kernel) ?_
          refine va_iast hx hb hK hP hD hS 0 0 rfl rfl (i := k_i) (x := 0) (vp_in_iff.mpr ⟨by omega, by omega⟩) dX7_cellsIn_40 ?_
          clear hP hD hS
          intro H locs hP hD hS
          refine g5_rs [(a_hl, (arI G 64 (upd k_f k_i.toNatClampNeg 0))), (a_lv, (arI G 64 f_lv)), (a_th, (oc7 a_h a_k a_ba a_ad e_fu a_cn a_nx a_hp a_hl a_lv)), (a_ba, (arJ G 24 f_ba)), (a_ad, (arI G 1536 f_ad)), (a_hp, (arI G 1536 z3))] hP hD ?_
          clear hP hD
          intro hP hD
          refine lv_iinc (v := (k_i + 1)) (lv' := [(2, .int (k_i + 1)), (0, .ref a_th), (1, .int p_h)]) hx hb dX7_cellsIn_41 hl (k := 0) rfl rfl (by decide +kernel) rfl ?_
          clear hl
          intro ls hl
          have t_28 : (k_i + 1).toInt = k_i.toInt + 1 := g5_iadd (a := k_i.toInt) (b := 1) rfl (by decide +kernel) (by omega) (by omega)
          refine W.eq (g2 := F0 m 44 ls []) rfl ?_
          refine lv_goto (tgt := 11) hx hb dX7_cellsIn_44 (by decide +kernel) ?_
          exact ih_11_7 ((k_i + 1), (upd k_f k_i.toNatClampNeg 0)) ls H locs (show Int.toNat (64 - (k_i + 1).toInt) < Int.toNat (64 - k_i.toInt) from g_up (show k_i.toInt < (k_i + 1).toInt by omega) (show k_i.toInt < 64 by omega)) ⟨lv_sub hl [0, 1, 2] rfl, hP, hD, hS, ⟨by omega, by omega⟩⟩
  ·
    have i_5 : z2.toInt = 0 := g5_neN (a := z2.toInt) (b := 0) rfl (by decide +kernel) c_5
    refine lv_lconst (v := 0) hx hb dX7_cellsIn_7 (by decide +kernel) ?_
    exact W.lret (v := 0) hx hb hr (fun t ht hW => ⟨⟨0, [(a_th, (oc7 a_h a_k a_ba a_ad e_fu a_cn a_nx a_hp a_hl a_lv)), (a_ba, (arJ G 24 f_ba)), (a_ad, (arI G 1536 f_ad)), (a_hp, (arI G 1536 z3)), (a_hl, (arI G 64 f_hl)), (a_lv, (arI G 64 f_lv))], rfl, ⟨0, z3, f_hl, f_lv, rfl, rfl⟩, by rw [ht]; exact hP.sub [2, 3, 4, 5, 0, 1] rfl, hD.sub [2, 3, 4, 5, 0, 1] (by decide +kernel) rfl⟩, hS.F ht⟩) hS.2.2 dX7_cellsIn_8
theorem dgX9_lowestNext_0 : ∀ r ∈ ([(0, (.iconst 0, 1)), (1, (.istore_n 3, 1)), (2, (.iload_n 3, 1)), (3, (.getstatic 64, 3)), (6, (.arraylength, 1)), (7, (.if_icmp .ge 38, 3)), (10, (.iload_n 0, 1)), (11, (.getstatic 64, 3)), (14, (.iload_n 3, 1)), (15, (.iaload, 1)), (16, (.invokestatic 67, 3)), (19, (.istore 4, 2)), (21, (.iload 4, 2)), (23, (.iconst (-1), 1)), (24, (.if_icmp .eq 15, 3)), (27, (.lload_n 1, 1)), (28, (.iload 4, 2)), (30, (.invokestatic 43, 3)), (33, (.ifCond .eq 6, 3)), (36, (.iload 4, 2)), (38, (.ireturn, 1)), (39, (.iinc 3 1, 3)), (42, (.goto (-40), 3)), (45, (.iload_n 0, 1)), (46, (.ireturn, 1))] : List (Nat × (Instr × Nat))), decode cX9_lowestNext r.1 = .ok r.2 := by decide +kernel
theorem dX9_lowestNext_0 : decode cX9_lowestNext 0 = .ok (.iconst 0, 1) := dgX9_lowestNext_0 (0, (.iconst 0, 1)) (List.mem_of_getElem? (i := 0) rfl)
theorem dX9_lowestNext_1 : decode cX9_lowestNext 1 = .ok (.istore_n 3, 1) := dgX9_lowestNext_0 (1, (.istore_n 3, 1)) (List.mem_of_getElem? (i := 1) rfl)
theorem dX9_lowestNext_2 : decode cX9_lowestNext 2 = .ok (.iload_n 3, 1) := dgX9_lowestNext_0 (2, (.iload_n 3, 1)) (List.mem_of_getElem? (i := 2) rfl)
theorem dX9_lowestNext_3 : decode cX9_lowestNext 3 = .ok (.getstatic 64, 3) := dgX9_lowestNext_0 (3, (.getstatic 64, 3)) (List.mem_of_getElem? (i := 3) rfl)
theorem dX9_lowestNext_6 : decode cX9_lowestNext 6 = .ok (.arraylength, 1) := dgX9_lowestNext_0 (6, (.arraylength, 1)) (List.mem_of_getElem? (i := 4) rfl)
theorem dX9_lowestNext_7 : decode cX9_lowestNext 7 = .ok (.if_icmp .ge 38, 3) := dgX9_lowestNext_0 (7, (.if_icmp .ge 38, 3)) (List.mem_of_getElem? (i := 5) rfl)
theorem dX9_lowestNext_10 : decode cX9_lowestNext 10 = .ok (.iload_n 0, 1) := dgX9_lowestNext_0 (10, (.iload_n 0, 1)) (List.mem_of_getElem? (i := 6) rfl)
theorem dX9_lowestNext_11 : decode cX9_lowestNext 11 = .ok (.getstatic 64, 3) := dgX9_lowestNext_0 (11, (.getstatic 64, 3)) (List.mem_of_getElem? (i := 7) rfl)
theorem dX9_lowestNext_14 : decode cX9_lowestNext 14 = .ok (.iload_n 3, 1) := dgX9_lowestNext_0 (14, (.iload_n 3, 1)) (List.mem_of_getElem? (i := 8) rfl)
theorem dX9_lowestNext_15 : decode cX9_lowestNext 15 = .ok (.iaload, 1) := dgX9_lowestNext_0 (15, (.iaload, 1)) (List.mem_of_getElem? (i := 9) rfl)
theorem dX9_lowestNext_16 : decode cX9_lowestNext 16 = .ok (.invokestatic 67, 3) := dgX9_lowestNext_0 (16, (.invokestatic 67, 3)) (List.mem_of_getElem? (i := 10) rfl)
theorem dX9_lowestNext_19 : decode cX9_lowestNext 19 = .ok (.istore 4, 2) := dgX9_lowestNext_0 (19, (.istore 4, 2)) (List.mem_of_getElem? (i := 11) rfl)
theorem dX9_lowestNext_21 : decode cX9_lowestNext 21 = .ok (.iload 4, 2) := dgX9_lowestNext_0 (21, (.iload 4, 2)) (List.mem_of_getElem? (i := 12) rfl)
theorem dX9_lowestNext_23 : decode cX9_lowestNext 23 = .ok (.iconst (-1), 1) := dgX9_lowestNext_0 (23, (.iconst (-1), 1)) (List.mem_of_getElem? (i := 13) rfl)
theorem dX9_lowestNext_24 : decode cX9_lowestNext 24 = .ok (.if_icmp .eq 15, 3) := dgX9_lowestNext_0 (24, (.if_icmp .eq 15, 3)) (List.mem_of_getElem? (i := 14) rfl)
theorem dX9_lowestNext_27 : decode cX9_lowestNext 27 = .ok (.lload_n 1, 1) := dgX9_lowestNext_0 (27, (.lload_n 1, 1)) (List.mem_of_getElem? (i := 15) rfl)
theorem dX9_lowestNext_28 : decode cX9_lowestNext 28 = .ok (.iload 4, 2) := dgX9_lowestNext_0 (28, (.iload 4, 2)) (List.mem_of_getElem? (i := 16) rfl)
theorem dX9_lowestNext_30 : decode cX9_lowestNext 30 = .ok (.invokestatic 43, 3) := dgX9_lowestNext_0 (30, (.invokestatic 43, 3)) (List.mem_of_getElem? (i := 17) rfl)
theorem dX9_lowestNext_33 : decode cX9_lowestNext 33 = .ok (.ifCond .eq 6, 3) := dgX9_lowestNext_0 (33, (.ifCond .eq 6, 3)) (List.mem_of_getElem? (i := 18) rfl)
theorem dX9_lowestNext_36 : decode cX9_lowestNext 36 = .ok (.iload 4, 2) := dgX9_lowestNext_0 (36, (.iload 4, 2)) (List.mem_of_getElem? (i := 19) rfl)
theorem dX9_lowestNext_38 : decode cX9_lowestNext 38 = .ok (.ireturn, 1) := dgX9_lowestNext_0 (38, (.ireturn, 1)) (List.mem_of_getElem? (i := 20) rfl)
theorem dX9_lowestNext_39 : decode cX9_lowestNext 39 = .ok (.iinc 3 1, 3) := dgX9_lowestNext_0 (39, (.iinc 3 1, 3)) (List.mem_of_getElem? (i := 21) rfl)
theorem dX9_lowestNext_42 : decode cX9_lowestNext 42 = .ok (.goto (-40), 3) := dgX9_lowestNext_0 (42, (.goto (-40), 3)) (List.mem_of_getElem? (i := 22) rfl)
theorem dX9_lowestNext_45 : decode cX9_lowestNext 45 = .ok (.iload_n 0, 1) := dgX9_lowestNext_0 (45, (.iload_n 0, 1)) (List.mem_of_getElem? (i := 23) rfl)
theorem dX9_lowestNext_46 : decode cX9_lowestNext 46 = .ok (.ireturn, 1) := dgX9_lowestNext_0 (46, (.ireturn, 1)) (List.mem_of_getElem? (i := 24) rfl)
set_option maxHeartbeats 4000000 in
set_option maxRecDepth 100000 in
theorem a_next (l : Launch) (G : g5_G) (sz : Nat) (p_c : Int32) (p_x : Int64) (h_p_c : 0 ≤ p_c.toInt ∧ p_c.toInt ≤ 63) : Met l yX9_lowestNext (wsG yX9_lowestNext cX9_lowestNext 5 (some .int)) ({ frames := 1, cells := 0, slots := 0, locals := 22 }) (va_Pc [.int p_c, .long p_x] (g5_P G [] sz)) (va_Qi (fun (r : Int32) (u : va_W) => (∃ (o_r : Int32), (0 ≤ o_r.toInt ∧ o_r.toInt ≤ 63) ∧ (r = o_r) ∧ (u = []))) (g5_B G (va_A [] sz)) (va_A [] sz)) 0 0 (va_A [] sz) := by
  refine Met.ofW (cc := cX9_lowestNext) (maxL := 5) (ret := (some .int)) (by decide +kernel) rfl ?_
  intro p e s m args below meth c s₁ B hml hv
  obtain ⟨rfl, hsz, hP, hK, hD0, hN, hT⟩ := hv
  have hx := B.exec
  have hb := B.bytes
  have hr := B.returns
  have hts : ∀ w ∈ tblG, w.before _ s = true := fun w h => atoms_spec (ws := (wsG yX9_lowestNext cX9_lowestNext 5 (some .int))) B.pre w (List.mem_cons_of_mem _ h)
  have hown : s.vm.findClass RX9 = some m.cls := findClass_of_methodNamed B.named
  have hlocks := B.notSynchronized
  subst hsz
  have hD := hD0.self (sz := s.heap.size)
  generalize hAe : va_A [] s.heap.size = A at hD hT ⊢
  have hA : ∀ q : Nat, s.heap.size ≤ q → A q := fun q h => by rw [← hAe]; exact Or.inr h
  have hS : va_S A s.heap s.heap [] := va_S.rf
  replace hP : va_P G.1 vwCl [] s.heap := hP
  have hl := lv_entry ([.int p_c, .long p_x]) (n := 5) (Nat.le_of_ble_eq_true rfl)
  rw [lg_entry_eq]
  generalize (lg_sl ([.int p_c, .long p_x]) ++ List.replicate (5 - (lg_sl ([.int p_c, .long p_x])).length) Slot.unset).toArray = ls at hl ⊢
  replace hl : lv_has ls 5 [(0, .int p_c), (1, .long p_x)] := hl
  refine lv_iconst (v := 0) hx hb dX9_lowestNext_0 (by decide +kernel) ?_
  refine lv_istore_n (lv' := [(3, .int 0), (0, .int p_c), (1, .long p_x)]) hx hb dX9_lowestNext_1 rfl hl (by decide +kernel) rfl ?_
  clear hl
  intro ls hl
  refine g5_loop (α := (Int32)) (fun (k_i : (Int32)) (ls : Array Slot) (H : Heap) (locs : List Loc) => lv_has ls 5 [(3, .int k_i), (0, .int p_c), (1, .long p_x)] ∧ va_P G.1 vwCl [] H ∧ va_D A [] ∧ va_S A s.heap H locs ∧ (0 ≤ k_i.toInt ∧ k_i.toInt ≤ 5)) (fun (k_i : (Int32)) => Int.toNat (5 - k_i.toInt)) 0 ⟨lv_sub hl [0, 1, 2] rfl, hP, hD, hS, ⟨by decide, by decide⟩⟩ ?_
  rintro k_i ls H locs ⟨hl, hP, hD, hS, (i_1 : 0 ≤ k_i.toInt ∧ k_i.toInt ≤ 5)⟩ ih_2_2
  replace hl : lv_has ls 5 [(3, .int k_i), (0, .int p_c), (1, .long p_x)] := hl
  refine g5_rs [] hP hD ?_
  clear hP hD
  intro hP hD
  refine lv_iload_n hx hb dX9_lowestNext_2 rfl (lv_at hl 0 rfl) ?_
  obtain ⟨tH, tL, tK, tV, tF, hZH, hTH, hZL, hTL, -⟩ := id hT
  refine va_getsN hx hb hZL hS hown (hN.1 _ g5_nw_X9_64) (fun _ h9 => h9) dX9_lowestNext_3 ?_
  refine va_tlen hx hb hTL hS (v := 5) (by decide +kernel) dX9_lowestNext_6 ?_
  refine lv_icmp_ge (tgt := 45) hx hb dX9_lowestNext_7 (by decide +kernel) (fun c_3 => ?_) (fun c_3 => ?_)
  ·
    have i_3 : k_i.toInt ≥ 5 := g5_ge (a := k_i.toInt) (b := 5) rfl (by decide +kernel) c_3
    refine lv_iload_n hx hb dX9_lowestNext_45 rfl (lv_at hl 1 rfl) ?_
    exact W.iret (v := p_c) hx hb hr (fun t ht hW => ⟨⟨p_c, [], rfl, ⟨p_c, h_p_c, rfl, rfl⟩, by rw [ht]; exact hP.sub [] rfl, hD.sub [] (by decide +kernel) rfl⟩, hS.F ht⟩) hS.2.2 dX9_lowestNext_46
  ·
    have i_3 : k_i.toInt < 5 := g5_geN (a := k_i.toInt) (b := 5) rfl (by decide +kernel) c_3
    refine lv_iload_n hx hb dX9_lowestNext_10 rfl (lv_at hl 1 rfl) ?_
    obtain ⟨tH, tL, tK, tV, tF, hZH, hTH, hZL, hTL, -⟩ := id hT
    refine va_getsN hx hb hZL hS hown (hN.1 _ g5_nw_X9_64) (fun _ h9 => h9) dX9_lowestNext_11 ?_
    refine lv_iload_n hx hb dX9_lowestNext_14 rfl (lv_at hl 0 rfl) ?_
    refine va_ti hx hb hTL hS (i := k_i) (vp_in_iff.mpr ⟨by omega, by omega⟩) (v := .int (g_low k_i.toNatClampNeg)) (g_low_eq _) dX9_lowestNext_15 ?_
    refine W.eq (g2 := F0 m 16 ls [.int (g_low k_i.toNatClampNeg), .int p_c]) rfl ?_
    obtain ⟨hPc, hDc, hFc⟩ := g5_sub3 (wc := []) hP hD hS hA [] (by decide +kernel) rfl
    refine va_calli (va_runSN (As := [.int p_c, .int (g_low k_i.toNatClampNeg)]) (rest := []) ⟨hx, hb, hml, hown, hts⟩ (k_beside l G H.size p_c (g_low k_i.toNatClampNeg) h_p_c) ⟨va_cnB 2 hts gW_X11_beside rfl rfl rfl (hN.1 _ g5_nw_X9_67) (hts _ ini_X11) hs_X11_beside ⟨Nat.le_of_ble_eq_true rfl, Nat.le_of_ble_eq_true rfl⟩, hts _ st_X11_beside, trivial⟩ (g5_preS hPc hK hDc hN hT hS hFc) rfl rfl hl.1 rfl (lv_room (Nat.le_of_ble_eq_true rfl)) dX9_lowestNext_16 ⟨Nat.le_of_ble_eq_true rfl, Nat.le_of_ble_eq_true rfl⟩) hS (fun q _ h => hFc q h) hFc (fun r u t H locs ht hvm hw hB hz1 hk1 hS => ?_)
    obtain ⟨hP1, hD1⟩ := hB
    have hP1 := g5_ht ht hP1
    obtain ⟨z6, (i_4 : z6.toInt = bs p_c.toInt (g_low k_i.toNatClampNeg).toInt), (i_5 : -1 ≤ z6.toInt ∧ z6.toInt ≤ 63), y7, rfl⟩ := hw
    have hJ9 := g5_same hP hk1
    clear hP hPc hDc hFc ht hvm hz1 hk1 hP1 hD1
    have hP := hJ9
    clear hJ9
    refine g5_ti (v := z6) y7 ?_
    refine lv_istore (lv' := [(4, .int z6), (3, .int k_i), (0, .int p_c), (1, .long p_x)]) hx hb dX9_lowestNext_19 hl (by decide +kernel) rfl ?_
    clear hl
    intro ls hl
    refine lv_iload hx hb dX9_lowestNext_21 (lv_at hl 0 rfl) ?_
    refine lv_iconst (v := (-1)) hx hb dX9_lowestNext_23 (by decide +kernel) ?_
    refine lv_icmp_eq (tgt := 39) hx hb dX9_lowestNext_24 (by decide +kernel) (fun c_8 => ?_) (fun c_8 => ?_)
    ·
      have i_8 : z6.toInt = (-1) := g5_eq (a := z6.toInt) (b := (-1)) rfl (by decide +kernel) c_8
      refine lv_iinc (v := (k_i + 1)) (lv' := [(3, .int (k_i + 1)), (4, .int z6), (0, .int p_c), (1, .long p_x)]) hx hb dX9_lowestNext_39 hl (k := 1) rfl rfl (by decide +kernel) rfl ?_
      clear hl
      intro ls hl
      have t_9 : (k_i + 1).toInt = k_i.toInt + 1 := g5_iadd (a := k_i.toInt) (b := 1) rfl (by decide +kernel) (by omega) (by omega)
      refine lv_goto (tgt := 2) hx hb dX9_lowestNext_42 (by decide +kernel) ?_
      exact ih_2_2 (k_i + 1) ls H locs (show Int.toNat (5 - (k_i + 1).toInt) < Int.toNat (5 - k_i.toInt) from g_up (show k_i.toInt < (k_i + 1).toInt by omega) (show k_i.toInt < 5 by omega)) ⟨lv_sub hl [0, 2, 3] rfl, hP, hD, hS, ⟨by omega, by omega⟩⟩
    ·
      have n_8 : gNe (z6.toInt) ((-1)) := g5_eqN (a := z6.toInt) (b := (-1)) rfl (by decide +kernel) c_8
      have i_8 : z6.toInt ≥ 0 := by have z := g5_eqN (a := z6.toInt) (b := (-1)) (by rfl) (by decide +kernel) c_8; omega
      refine lv_lload_n hx hb dX9_lowestNext_27 rfl (lv_at hl 3 rfl) ?_
      refine lv_iload hx hb dX9_lowestNext_28 (lv_at hl 0 rfl) ?_
      obtain ⟨hPc, hDc, hFc⟩ := g5_sub3 (wc := []) hP hD hS hA [] (by decide +kernel) rfl
      refine va_calli (va_runSN (As := [.long p_x, .int z6]) (rest := []) ⟨hx, hb, hml, hown, hts⟩ (k_isOn l G H.size z6 p_x ⟨by omega, by omega⟩) ⟨va_cnB 2 hts gW_X11_isOn rfl rfl rfl (hN.1 _ g5_nw_X9_43) (hts _ ini_X11) hs_X11_isOn ⟨Nat.le_of_ble_eq_true rfl, Nat.le_of_ble_eq_true rfl⟩, hts _ st_X11_isOn, trivial⟩ (g5_preS hPc hK hDc hN hT hS hFc) rfl rfl hl.1 rfl (lv_room (Nat.le_of_ble_eq_true rfl)) dX9_lowestNext_30 ⟨Nat.le_of_ble_eq_true rfl, Nat.le_of_ble_eq_true rfl⟩) hS (fun q _ h => hFc q h) hFc (fun r u t H locs ht hvm hw hB hz1 hk1 hS => ?_)
      obtain ⟨hP1, hD1⟩ := hB
      have hP1 := g5_ht ht hP1
      rcases hw with ⟨(i_10 : onB p_x z6.toInt = false), rfl, rfl⟩ | ⟨(i_11 : onB p_x z6.toInt = true), rfl, rfl⟩
      ·
        have hJ9 := g5_same hP hk1
        clear hP hPc hDc hFc ht hvm hz1 hk1 hP1 hD1
        have hP := hJ9
        clear hJ9
        refine lv_if_eq (tgt := 39) hx hb dX9_lowestNext_33 (by decide +kernel) (fun c_12 => ?_) (fun c_12 => ?_)
        ·
          refine lv_iinc (v := (k_i + 1)) (lv' := [(3, .int (k_i + 1)), (4, .int z6), (0, .int p_c), (1, .long p_x)]) hx hb dX9_lowestNext_39 hl (k := 1) rfl rfl (by decide +kernel) rfl ?_
          clear hl
          intro ls hl
          have t_13 : (k_i + 1).toInt = k_i.toInt + 1 := g5_iadd (a := k_i.toInt) (b := 1) rfl (by decide +kernel) (by omega) (by omega)
          refine lv_goto (tgt := 2) hx hb dX9_lowestNext_42 (by decide +kernel) ?_
          exact ih_2_2 (k_i + 1) ls H locs (show Int.toNat (5 - (k_i + 1).toInt) < Int.toNat (5 - k_i.toInt) from g_up (show k_i.toInt < (k_i + 1).toInt by omega) (show k_i.toInt < 5 by omega)) ⟨lv_sub hl [0, 2, 3] rfl, hP, hD, hS, ⟨by omega, by omega⟩⟩
        ·
          exact absurd c_12 (by decide +kernel)
      ·
        have hJ9 := g5_same hP hk1
        clear hP hPc hDc hFc ht hvm hz1 hk1 hP1 hD1
        have hP := hJ9
        clear hJ9
        refine lv_if_eq (tgt := 39) hx hb dX9_lowestNext_33 (by decide +kernel) (fun c_14 => ?_) (fun c_14 => ?_)
        ·
          exact absurd c_14 (by decide +kernel)
        ·
          refine lv_iload hx hb dX9_lowestNext_36 (lv_at hl 0 rfl) ?_
          exact W.iret (v := z6) hx hb hr (fun t ht hW => ⟨⟨z6, [], rfl, ⟨z6, ⟨by omega, by omega⟩, rfl, rfl⟩, by rw [ht]; exact hP.sub [] rfl, hD.sub [] (by decide +kernel) rfl⟩, hS.F ht⟩) hS.2.2 dX9_lowestNext_38
theorem dgX9_firstRowAt_0 : ∀ r ∈ ([(0, (.iload_n 3, 1)), (1, (.iconst 1, 1)), (2, (.isub, 1)), (3, (.istore 5, 2)), (5, (.iload 5, 2)), (7, (.iload_n 2, 1)), (8, (.if_icmp .lt 29, 3)), (11, (.aload_n 0, 1)), (12, (.getfield 9, 3)), (15, (.iload 5, 2)), (17, (.aload_n 0, 1)), (18, (.aload_n 0, 1)), (19, (.getfield 9, 3)), (22, (.iload 5, 2)), (24, (.iconst 1, 1)), (25, (.iadd, 1)), (26, (.laload, 1)), (27, (.invokevirtual 56, 3)), (30, (.lastore, 1)), (31, (.iinc 5 (-1), 3)), (34, (.goto (-29), 3)), (37, (.iload_n 1, 1)), (38, (.istore 5, 2)), (40, (.iload_n 2, 1)), (41, (.iconst 1, 1)), (42, (.iadd, 1)), (43, (.istore 6, 2)), (45, (.iload 6, 2)), (47, (.iload 4, 2)), (49, (.if_icmp .gt 23, 3)), (52, (.iload 5, 2)), (54, (.aload_n 0, 1)), (55, (.getfield 9, 3)), (58, (.iload 6, 2)), (60, (.laload, 1)), (61, (.invokestatic 60, 3)), (64, (.istore 5, 2)), (66, (.iinc 6 1, 3)), (69, (.goto (-24), 3)), (72, (.iload 5, 2))] : List (Nat × (Instr × Nat))), decode cX9_firstRowAt r.1 = .ok r.2 := by decide +kernel
theorem dX9_firstRowAt_0 : decode cX9_firstRowAt 0 = .ok (.iload_n 3, 1) := dgX9_firstRowAt_0 (0, (.iload_n 3, 1)) (List.mem_of_getElem? (i := 0) rfl)
theorem dX9_firstRowAt_1 : decode cX9_firstRowAt 1 = .ok (.iconst 1, 1) := dgX9_firstRowAt_0 (1, (.iconst 1, 1)) (List.mem_of_getElem? (i := 1) rfl)
theorem dX9_firstRowAt_2 : decode cX9_firstRowAt 2 = .ok (.isub, 1) := dgX9_firstRowAt_0 (2, (.isub, 1)) (List.mem_of_getElem? (i := 2) rfl)
theorem dX9_firstRowAt_3 : decode cX9_firstRowAt 3 = .ok (.istore 5, 2) := dgX9_firstRowAt_0 (3, (.istore 5, 2)) (List.mem_of_getElem? (i := 3) rfl)
theorem dX9_firstRowAt_5 : decode cX9_firstRowAt 5 = .ok (.iload 5, 2) := dgX9_firstRowAt_0 (5, (.iload 5, 2)) (List.mem_of_getElem? (i := 4) rfl)
theorem dX9_firstRowAt_7 : decode cX9_firstRowAt 7 = .ok (.iload_n 2, 1) := dgX9_firstRowAt_0 (7, (.iload_n 2, 1)) (List.mem_of_getElem? (i := 5) rfl)
theorem dX9_firstRowAt_8 : decode cX9_firstRowAt 8 = .ok (.if_icmp .lt 29, 3) := dgX9_firstRowAt_0 (8, (.if_icmp .lt 29, 3)) (List.mem_of_getElem? (i := 6) rfl)
theorem dX9_firstRowAt_11 : decode cX9_firstRowAt 11 = .ok (.aload_n 0, 1) := dgX9_firstRowAt_0 (11, (.aload_n 0, 1)) (List.mem_of_getElem? (i := 7) rfl)
theorem dX9_firstRowAt_12 : decode cX9_firstRowAt 12 = .ok (.getfield 9, 3) := dgX9_firstRowAt_0 (12, (.getfield 9, 3)) (List.mem_of_getElem? (i := 8) rfl)
theorem dX9_firstRowAt_15 : decode cX9_firstRowAt 15 = .ok (.iload 5, 2) := dgX9_firstRowAt_0 (15, (.iload 5, 2)) (List.mem_of_getElem? (i := 9) rfl)
theorem dX9_firstRowAt_17 : decode cX9_firstRowAt 17 = .ok (.aload_n 0, 1) := dgX9_firstRowAt_0 (17, (.aload_n 0, 1)) (List.mem_of_getElem? (i := 10) rfl)
theorem dX9_firstRowAt_18 : decode cX9_firstRowAt 18 = .ok (.aload_n 0, 1) := dgX9_firstRowAt_0 (18, (.aload_n 0, 1)) (List.mem_of_getElem? (i := 11) rfl)
theorem dX9_firstRowAt_19 : decode cX9_firstRowAt 19 = .ok (.getfield 9, 3) := dgX9_firstRowAt_0 (19, (.getfield 9, 3)) (List.mem_of_getElem? (i := 12) rfl)
theorem dX9_firstRowAt_22 : decode cX9_firstRowAt 22 = .ok (.iload 5, 2) := dgX9_firstRowAt_0 (22, (.iload 5, 2)) (List.mem_of_getElem? (i := 13) rfl)
theorem dX9_firstRowAt_24 : decode cX9_firstRowAt 24 = .ok (.iconst 1, 1) := dgX9_firstRowAt_0 (24, (.iconst 1, 1)) (List.mem_of_getElem? (i := 14) rfl)
theorem dX9_firstRowAt_25 : decode cX9_firstRowAt 25 = .ok (.iadd, 1) := dgX9_firstRowAt_0 (25, (.iadd, 1)) (List.mem_of_getElem? (i := 15) rfl)
theorem dX9_firstRowAt_26 : decode cX9_firstRowAt 26 = .ok (.laload, 1) := dgX9_firstRowAt_0 (26, (.laload, 1)) (List.mem_of_getElem? (i := 16) rfl)
theorem dX9_firstRowAt_27 : decode cX9_firstRowAt 27 = .ok (.invokevirtual 56, 3) := dgX9_firstRowAt_0 (27, (.invokevirtual 56, 3)) (List.mem_of_getElem? (i := 17) rfl)
theorem dX9_firstRowAt_30 : decode cX9_firstRowAt 30 = .ok (.lastore, 1) := dgX9_firstRowAt_0 (30, (.lastore, 1)) (List.mem_of_getElem? (i := 18) rfl)
theorem dX9_firstRowAt_31 : decode cX9_firstRowAt 31 = .ok (.iinc 5 (-1), 3) := dgX9_firstRowAt_0 (31, (.iinc 5 (-1), 3)) (List.mem_of_getElem? (i := 19) rfl)
theorem dX9_firstRowAt_34 : decode cX9_firstRowAt 34 = .ok (.goto (-29), 3) := dgX9_firstRowAt_0 (34, (.goto (-29), 3)) (List.mem_of_getElem? (i := 20) rfl)
theorem dX9_firstRowAt_37 : decode cX9_firstRowAt 37 = .ok (.iload_n 1, 1) := dgX9_firstRowAt_0 (37, (.iload_n 1, 1)) (List.mem_of_getElem? (i := 21) rfl)
theorem dX9_firstRowAt_38 : decode cX9_firstRowAt 38 = .ok (.istore 5, 2) := dgX9_firstRowAt_0 (38, (.istore 5, 2)) (List.mem_of_getElem? (i := 22) rfl)
theorem dX9_firstRowAt_40 : decode cX9_firstRowAt 40 = .ok (.iload_n 2, 1) := dgX9_firstRowAt_0 (40, (.iload_n 2, 1)) (List.mem_of_getElem? (i := 23) rfl)
theorem dX9_firstRowAt_41 : decode cX9_firstRowAt 41 = .ok (.iconst 1, 1) := dgX9_firstRowAt_0 (41, (.iconst 1, 1)) (List.mem_of_getElem? (i := 24) rfl)
theorem dX9_firstRowAt_42 : decode cX9_firstRowAt 42 = .ok (.iadd, 1) := dgX9_firstRowAt_0 (42, (.iadd, 1)) (List.mem_of_getElem? (i := 25) rfl)
theorem dX9_firstRowAt_43 : decode cX9_firstRowAt 43 = .ok (.istore 6, 2) := dgX9_firstRowAt_0 (43, (.istore 6, 2)) (List.mem_of_getElem? (i := 26) rfl)
theorem dX9_firstRowAt_45 : decode cX9_firstRowAt 45 = .ok (.iload 6, 2) := dgX9_firstRowAt_0 (45, (.iload 6, 2)) (List.mem_of_getElem? (i := 27) rfl)
theorem dX9_firstRowAt_47 : decode cX9_firstRowAt 47 = .ok (.iload 4, 2) := dgX9_firstRowAt_0 (47, (.iload 4, 2)) (List.mem_of_getElem? (i := 28) rfl)
theorem dX9_firstRowAt_49 : decode cX9_firstRowAt 49 = .ok (.if_icmp .gt 23, 3) := dgX9_firstRowAt_0 (49, (.if_icmp .gt 23, 3)) (List.mem_of_getElem? (i := 29) rfl)
theorem dX9_firstRowAt_52 : decode cX9_firstRowAt 52 = .ok (.iload 5, 2) := dgX9_firstRowAt_0 (52, (.iload 5, 2)) (List.mem_of_getElem? (i := 30) rfl)
theorem dX9_firstRowAt_54 : decode cX9_firstRowAt 54 = .ok (.aload_n 0, 1) := dgX9_firstRowAt_0 (54, (.aload_n 0, 1)) (List.mem_of_getElem? (i := 31) rfl)
theorem dX9_firstRowAt_55 : decode cX9_firstRowAt 55 = .ok (.getfield 9, 3) := dgX9_firstRowAt_0 (55, (.getfield 9, 3)) (List.mem_of_getElem? (i := 32) rfl)
theorem dX9_firstRowAt_58 : decode cX9_firstRowAt 58 = .ok (.iload 6, 2) := dgX9_firstRowAt_0 (58, (.iload 6, 2)) (List.mem_of_getElem? (i := 33) rfl)
theorem dX9_firstRowAt_60 : decode cX9_firstRowAt 60 = .ok (.laload, 1) := dgX9_firstRowAt_0 (60, (.laload, 1)) (List.mem_of_getElem? (i := 34) rfl)
theorem dX9_firstRowAt_61 : decode cX9_firstRowAt 61 = .ok (.invokestatic 60, 3) := dgX9_firstRowAt_0 (61, (.invokestatic 60, 3)) (List.mem_of_getElem? (i := 35) rfl)
theorem dX9_firstRowAt_64 : decode cX9_firstRowAt 64 = .ok (.istore 5, 2) := dgX9_firstRowAt_0 (64, (.istore 5, 2)) (List.mem_of_getElem? (i := 36) rfl)
theorem dX9_firstRowAt_66 : decode cX9_firstRowAt 66 = .ok (.iinc 6 1, 3) := dgX9_firstRowAt_0 (66, (.iinc 6 1, 3)) (List.mem_of_getElem? (i := 37) rfl)
theorem dX9_firstRowAt_69 : decode cX9_firstRowAt 69 = .ok (.goto (-24), 3) := dgX9_firstRowAt_0 (69, (.goto (-24), 3)) (List.mem_of_getElem? (i := 38) rfl)
theorem dX9_firstRowAt_72 : decode cX9_firstRowAt 72 = .ok (.iload 5, 2) := dgX9_firstRowAt_0 (72, (.iload 5, 2)) (List.mem_of_getElem? (i := 39) rfl)
theorem dgX9_firstRowAt_1 : ∀ r ∈ ([(74, (.ireturn, 1))] : List (Nat × (Instr × Nat))), decode cX9_firstRowAt r.1 = .ok r.2 := by decide +kernel
theorem dX9_firstRowAt_74 : decode cX9_firstRowAt 74 = .ok (.ireturn, 1) := dgX9_firstRowAt_1 (74, (.ireturn, 1)) (List.mem_of_getElem? (i := 0) rfl)
theorem ml_X9_60 : Cond.methodLink RX9 60 yX9_lowestNext ∈ tblG := tg 1130 (by decide +kernel) (by decide +kernel)
theorem st_X9_lowestNext : Cond.static yX9_lowestNext ∈ tblG := tg 1131 (by decide +kernel) (by decide +kernel)
theorem cd_X9_lowestNext : Cond.code yX9_lowestNext cX9_lowestNext 5 (some .int) ∈ tblG := tg 1132 (by decide +kernel) (by decide +kernel)
theorem gW_X9_lowestNext : GoodIn tblG (wsG yX9_lowestNext cX9_lowestNext 5 (some .int)) := tgi cd_X9_lowestNext
theorem gS_X9_60 : GoodIn tblG (va_wsS RX9 60 yX9_lowestNext (wsG yX9_lowestNext cX9_lowestNext 5 (some .int))) := tgS ml_X9_60 st_X9_lowestNext ini_X9 gW_X9_lowestNext
theorem hs_X9_lowestNext : yX9_lowestNext.cls ≠ "java/lang/invoke/MethodHandle" ∧ yX9_lowestNext.cls ≠ "java/lang/invoke/VarHandle" ∧ (parseMethodDescriptor yX9_lowestNext.desc).map (fun d => d.parameters.length) = some 2 := by decide +kernel
set_option maxHeartbeats 4000000 in
set_option maxRecDepth 100000 in
theorem a_row (l : Launch) (G : g5_G) (a_h a_wk a_go a_l a_g a_b a_s a_p a_w a_bb a_k a_mt : Nat) (sz : Nat) (e_le : Int32) (e_st : Int32) (e_fo : Int32) (e_lc : Int32) (p_c : Int32) (p_f : Int32) (p_l : Int32) (p_h : Int32) (e_wa : Int64) (e_gb : Int64) (f_go : Nat → Int64) (h_p_c : 0 ≤ p_c.toInt ∧ p_c.toInt ≤ 63) (h_p_f : 0 ≤ p_f.toInt ∧ p_f.toInt ≤ 23) (h_p_l : 0 ≤ p_l.toInt ∧ p_l.toInt ≤ 23) (h_p_h : 0 ≤ p_h.toInt ∧ p_h.toInt ≤ 23) : Met l yX9_firstRowAt (wsG yX9_firstRowAt cX9_firstRowAt 7 (some .int)) ({ frames := 2, cells := 0, slots := 0, locals := 46 }) (va_Pc [.ref a_wk, .int p_c, .int p_f, .int p_l, .int p_h] (g5_P G [(a_h, (oc1 e_wa e_le e_st e_fo e_lc a_l a_g a_b a_s a_p a_w e_gb a_bb)), (a_wk, (oc9 a_h a_k a_go a_mt)), (a_go, (arJ G 24 f_go))] sz)) (va_Qi (fun (r : Int32) (u : va_W) => (∃ (o_r : Int32) (o_f : Nat → Int64), (0 ≤ o_r.toInt ∧ o_r.toInt ≤ 63) ∧ (r = o_r) ∧ (u = [(a_h, (oc1 e_wa e_le e_st e_fo e_lc a_l a_g a_b a_s a_p a_w e_gb a_bb)), (a_wk, (oc9 a_h a_k a_go a_mt)), (a_go, (arJ G 24 o_f))]))) (g5_B G (va_A [(a_h, (oc1 e_wa e_le e_st e_fo e_lc a_l a_g a_b a_s a_p a_w e_gb a_bb)), (a_wk, (oc9 a_h a_k a_go a_mt)), (a_go, (arJ G 24 f_go))] sz)) (va_A [(a_h, (oc1 e_wa e_le e_st e_fo e_lc a_l a_g a_b a_s a_p a_w e_gb a_bb)), (a_wk, (oc9 a_h a_k a_go a_mt)), (a_go, (arJ G 24 f_go))] sz)) 0 0 (va_A [(a_h, (oc1 e_wa e_le e_st e_fo e_lc a_l a_g a_b a_s a_p a_w e_gb a_bb)), (a_wk, (oc9 a_h a_k a_go a_mt)), (a_go, (arJ G 24 f_go))] sz) := by
  refine Met.ofW (cc := cX9_firstRowAt) (maxL := 7) (ret := (some .int)) (by decide +kernel) rfl ?_
  intro p e s m args below meth c s₁ B hml hv
  obtain ⟨rfl, hsz, hP, hK, hD0, hN, hT⟩ := hv
  have hx := B.exec
  have hb := B.bytes
  have hr := B.returns
  have hts : ∀ w ∈ tblG, w.before _ s = true := fun w h => atoms_spec (ws := (wsG yX9_firstRowAt cX9_firstRowAt 7 (some .int))) B.pre w (List.mem_cons_of_mem _ h)
  have hown : s.vm.findClass RX9 = some m.cls := findClass_of_methodNamed B.named
  have hlocks := B.notSynchronized
  subst hsz
  have hD := hD0.self (sz := s.heap.size)
  generalize hAe : va_A [(a_h, (oc1 e_wa e_le e_st e_fo e_lc a_l a_g a_b a_s a_p a_w e_gb a_bb)), (a_wk, (oc9 a_h a_k a_go a_mt)), (a_go, (arJ G 24 f_go))] s.heap.size = A at hD hT ⊢
  have hA : ∀ q : Nat, s.heap.size ≤ q → A q := fun q h => by rw [← hAe]; exact Or.inr h
  have hS : va_S A s.heap s.heap [] := va_S.rf
  replace hP : va_P G.1 vwCl [(a_h, (oc1 e_wa e_le e_st e_fo e_lc a_l a_g a_b a_s a_p a_w e_gb a_bb)), (a_wk, (oc9 a_h a_k a_go a_mt)), (a_go, (arJ G 24 f_go))] s.heap := hP
  have hl := lv_entry ([.ref a_wk, .int p_c, .int p_f, .int p_l, .int p_h]) (n := 7) (Nat.le_of_ble_eq_true rfl)
  rw [lg_entry_eq]
  generalize (lg_sl ([.ref a_wk, .int p_c, .int p_f, .int p_l, .int p_h]) ++ List.replicate (7 - (lg_sl ([.ref a_wk, .int p_c, .int p_f, .int p_l, .int p_h])).length) Slot.unset).toArray = ls at hl ⊢
  replace hl : lv_has ls 7 [(0, .ref a_wk), (1, .int p_c), (2, .int p_f), (3, .int p_l), (4, .int p_h)] := hl
  refine lv_iload_n hx hb dX9_firstRowAt_0 rfl (lv_at hl 3 rfl) ?_
  refine lv_iconst (v := 1) hx hb dX9_firstRowAt_1 (by decide +kernel) ?_
  refine lv_isub hx hb dX9_firstRowAt_2 ?_
  have t_1 : (p_l - 1).toInt = p_l.toInt - 1 := g5_isub (a := p_l.toInt) (b := 1) (by rfl) (by decide +kernel) (by omega) (by omega)
  refine lv_istore (lv' := [(5, .int (p_l - 1)), (0, .ref a_wk), (1, .int p_c), (2, .int p_f), (3, .int p_l), (4, .int p_h)]) hx hb dX9_firstRowAt_3 hl (by decide +kernel) rfl ?_
  clear hl
  intro ls hl
  refine g5_loop (α := (Int32) × (Nat → Int64)) (fun (q : (Int32) × (Nat → Int64)) (ls : Array Slot) (H : Heap) (locs : List Loc) => match q with | (k_e, k_f) => lv_has ls 7 [(5, .int k_e), (0, .ref a_wk), (1, .int p_c), (2, .int p_f), (3, .int p_l), (4, .int p_h)] ∧ va_P G.1 vwCl [(a_h, (oc1 e_wa e_le e_st e_fo e_lc a_l a_g a_b a_s a_p a_w e_gb a_bb)), (a_wk, (oc9 a_h a_k a_go a_mt)), (a_go, (arJ G 24 k_f))] H ∧ va_D A [(a_h, (oc1 e_wa e_le e_st e_fo e_lc a_l a_g a_b a_s a_p a_w e_gb a_bb)), (a_wk, (oc9 a_h a_k a_go a_mt)), (a_go, (arJ G 24 k_f))] ∧ va_S A s.heap H locs ∧ ((-1) ≤ k_e.toInt ∧ k_e.toInt ≤ 22)) (fun (q : (Int32) × (Nat → Int64)) => match q with | (k_e, k_f) => Int.toNat (k_e.toInt + 1)) ((p_l - 1), f_go) ⟨lv_sub hl [0, 1, 2, 3, 4, 5] rfl, hP, hD, hS, ⟨by omega, by omega⟩⟩ ?_
  rintro ⟨k_e, k_f⟩ ls H locs ⟨hl, hP, hD, hS, (i_2 : (-1) ≤ k_e.toInt ∧ k_e.toInt ≤ 22)⟩ ih_5_3
  replace hl : lv_has ls 7 [(5, .int k_e), (0, .ref a_wk), (1, .int p_c), (2, .int p_f), (3, .int p_l), (4, .int p_h)] := hl
  refine g5_rs [(a_h, (oc1 e_wa e_le e_st e_fo e_lc a_l a_g a_b a_s a_p a_w e_gb a_bb)), (a_wk, (oc9 a_h a_k a_go a_mt)), (a_go, (arJ G 24 k_f))] hP hD ?_
  clear hP hD
  intro hP hD
  refine lv_iload hx hb dX9_firstRowAt_5 (lv_at hl 0 rfl) ?_
  refine lv_iload_n hx hb dX9_firstRowAt_7 rfl (lv_at hl 3 rfl) ?_
  refine lv_icmp_lt (tgt := 37) hx hb dX9_firstRowAt_8 (by decide +kernel) (fun c_4 => ?_) (fun c_4 => ?_)
  ·
    have i_4 : k_e.toInt < p_f.toInt := g5_lt (a := k_e.toInt) (b := p_f.toInt) rfl rfl c_4
    refine lv_iload_n hx hb dX9_firstRowAt_37 rfl (lv_at hl 2 rfl) ?_
    refine lv_istore (lv' := [(5, .int p_c), (0, .ref a_wk), (1, .int p_c), (2, .int p_f), (3, .int p_l), (4, .int p_h)]) hx hb dX9_firstRowAt_38 hl (by decide +kernel) rfl ?_
    clear hl
    intro ls hl
    refine lv_iload_n hx hb dX9_firstRowAt_40 rfl (lv_at hl 3 rfl) ?_
    refine lv_iconst (v := 1) hx hb dX9_firstRowAt_41 (by decide +kernel) ?_
    refine W.eq (g2 := F0 m 42 ls [.int 1, .int p_f]) rfl ?_
    refine lv_iadd hx hb dX9_firstRowAt_42 ?_
    have t_5 : (p_f + 1).toInt = p_f.toInt + 1 := g5_iadd (a := p_f.toInt) (b := 1) (by rfl) (by decide +kernel) (by omega) (by omega)
    refine lv_istore (lv' := [(6, .int (p_f + 1)), (5, .int p_c), (0, .ref a_wk), (1, .int p_c), (2, .int p_f), (3, .int p_l), (4, .int p_h)]) hx hb dX9_firstRowAt_43 hl (by decide +kernel) rfl ?_
    clear hl
    intro ls hl
    refine g5_loop (α := (Int32) × (Int32)) (fun (q : (Int32) × (Int32)) (ls : Array Slot) (H : Heap) (locs : List Loc) => match q with | (m_a, m_h) => lv_has ls 7 [(5, .int m_a), (6, .int m_h), (0, .ref a_wk), (1, .int p_c), (2, .int p_f), (3, .int p_l), (4, .int p_h)] ∧ va_P G.1 vwCl [(a_h, (oc1 e_wa e_le e_st e_fo e_lc a_l a_g a_b a_s a_p a_w e_gb a_bb)), (a_wk, (oc9 a_h a_k a_go a_mt)), (a_go, (arJ G 24 k_f))] H ∧ va_D A [(a_h, (oc1 e_wa e_le e_st e_fo e_lc a_l a_g a_b a_s a_p a_w e_gb a_bb)), (a_wk, (oc9 a_h a_k a_go a_mt)), (a_go, (arJ G 24 k_f))] ∧ va_S A s.heap H locs ∧ (0 ≤ m_a.toInt ∧ m_a.toInt ≤ 63) ∧ (1 ≤ m_h.toInt ∧ m_h.toInt ≤ 24)) (fun (q : (Int32) × (Int32)) => match q with | (m_a, m_h) => Int.toNat (24 - m_h.toInt)) (p_c, (p_f + 1)) ⟨lv_sub hl [1, 0, 2, 3, 4, 5, 6] rfl, hP, hD, hS, h_p_c, ⟨by omega, by omega⟩⟩ ?_
    rintro ⟨m_a, m_h⟩ ls H locs ⟨hl, hP, hD, hS, (i_6 : 0 ≤ m_a.toInt ∧ m_a.toInt ≤ 63), (i_7 : 1 ≤ m_h.toInt ∧ m_h.toInt ≤ 24)⟩ ih_45_8
    replace hl : lv_has ls 7 [(5, .int m_a), (6, .int m_h), (0, .ref a_wk), (1, .int p_c), (2, .int p_f), (3, .int p_l), (4, .int p_h)] := hl
    refine g5_rs [(a_h, (oc1 e_wa e_le e_st e_fo e_lc a_l a_g a_b a_s a_p a_w e_gb a_bb)), (a_wk, (oc9 a_h a_k a_go a_mt)), (a_go, (arJ G 24 k_f))] hP hD ?_
    clear hP hD
    intro hP hD
    refine lv_iload hx hb dX9_firstRowAt_45 (lv_at hl 1 rfl) ?_
    refine lv_iload hx hb dX9_firstRowAt_47 (lv_at hl 6 rfl) ?_
    refine lv_icmp_gt (tgt := 72) hx hb dX9_firstRowAt_49 (by decide +kernel) (fun c_9 => ?_) (fun c_9 => ?_)
    ·
      have i_9 : m_h.toInt > p_h.toInt := g5_gt (a := m_h.toInt) (b := p_h.toInt) rfl rfl c_9
      refine lv_iload hx hb dX9_firstRowAt_72 (lv_at hl 0 rfl) ?_
      exact W.iret (v := m_a) hx hb hr (fun t ht hW => ⟨⟨m_a, [(a_h, (oc1 e_wa e_le e_st e_fo e_lc a_l a_g a_b a_s a_p a_w e_gb a_bb)), (a_wk, (oc9 a_h a_k a_go a_mt)), (a_go, (arJ G 24 k_f))], rfl, ⟨m_a, k_f, i_6, rfl, rfl⟩, by rw [ht]; exact hP.sub [0, 1, 2] rfl, hD.sub [0, 1, 2] (by decide +kernel) rfl⟩, hS.F ht⟩) hS.2.2 dX9_firstRowAt_74
    ·
      have i_9 : m_h.toInt ≤ p_h.toInt := g5_gtN (a := m_h.toInt) (b := p_h.toInt) rfl rfl c_9
      refine lv_iload hx hb dX9_firstRowAt_52 (lv_at hl 0 rfl) ?_
      refine lv_aload_n hx hb dX9_firstRowAt_54 rfl (lv_at hl 2 rfl) ?_
      refine va_get (D := G.1) (ci := 9) (v := .ref a_go) (C := RX9) (T := TX9) (N := 4) hx hb hts inG_X9 hown hK hP 1 rfl rfl 2 (by decide +kernel) (hts _ fl_X9_9) (fun _ h9 => h9) rfl dX9_firstRowAt_55 ?_
      refine lv_iload hx hb dX9_firstRowAt_58 (lv_at hl 1 rfl) ?_
      refine W.eq (g2 := F0 m 60 ls [.int m_h, .ref a_go, .int m_a]) rfl ?_
      refine va_lald hx hb hK hP 2 1 rfl rfl (i := m_h) (vp_in_iff.mpr ⟨by omega, by omega⟩) dX9_firstRowAt_60 ?_
      obtain ⟨hPc, hDc, hFc⟩ := g5_sub3 (wc := []) hP hD hS hA [] (by decide +kernel) rfl
      refine va_calli (va_runS (As := [.int m_a, .long (k_f m_h.toNatClampNeg)]) (rest := []) ⟨hx, hb, hml, hown, hts⟩ (a_next l G H.size m_a (k_f m_h.toNatClampNeg) i_6) (va_cwS 2 hts gS_X9_60 rfl rfl rfl hs_X9_lowestNext ⟨Nat.le_of_ble_eq_true rfl, Nat.le_of_ble_eq_true rfl⟩) (g5_preS hPc hK hDc hN hT hS hFc) rfl rfl hl.1 rfl (lv_room (Nat.le_of_ble_eq_true rfl)) dX9_firstRowAt_61 ⟨Nat.le_of_ble_eq_true rfl, Nat.le_of_ble_eq_true rfl⟩) hS (fun q _ h => hFc q h) hFc (fun r u t H locs ht hvm hw hB hz1 hk1 hS => ?_)
      obtain ⟨hP1, hD1⟩ := hB
      have hP1 := g5_ht ht hP1
      obtain ⟨z11, (i_10 : 0 ≤ z11.toInt ∧ z11.toInt ≤ 63), y12, rfl⟩ := hw
      have hJ9 := g5_same hP hk1
      clear hP hPc hDc hFc ht hvm hz1 hk1 hP1 hD1
      have hP := hJ9
      clear hJ9
      refine g5_ti (v := z11) y12 ?_
      refine lv_istore (lv' := [(5, .int z11), (6, .int m_h), (0, .ref a_wk), (1, .int p_c), (2, .int p_f), (3, .int p_l), (4, .int p_h)]) hx hb dX9_firstRowAt_64 hl (by decide +kernel) rfl ?_
      clear hl
      intro ls hl
      refine lv_iinc (v := (m_h + 1)) (lv' := [(6, .int (m_h + 1)), (5, .int z11), (0, .ref a_wk), (1, .int p_c), (2, .int p_f), (3, .int p_l), (4, .int p_h)]) hx hb dX9_firstRowAt_66 hl (k := 1) rfl rfl (by decide +kernel) rfl ?_
      clear hl
      intro ls hl
      have t_13 : (m_h + 1).toInt = m_h.toInt + 1 := g5_iadd (a := m_h.toInt) (b := 1) rfl (by decide +kernel) (by omega) (by omega)
      refine lv_goto (tgt := 45) hx hb dX9_firstRowAt_69 (by decide +kernel) ?_
      exact ih_45_8 (z11, (m_h + 1)) ls H locs (show Int.toNat (24 - (m_h + 1).toInt) < Int.toNat (24 - m_h.toInt) from g_up (show m_h.toInt < (m_h + 1).toInt by omega) (show m_h.toInt < 24 by omega)) ⟨lv_sub hl [1, 0, 2, 3, 4, 5, 6] rfl, hP, hD, hS, i_10, ⟨by omega, by omega⟩⟩
  ·
    have i_4 : k_e.toInt ≥ p_f.toInt := g5_ltN (a := k_e.toInt) (b := p_f.toInt) rfl rfl c_4
    refine lv_aload_n hx hb dX9_firstRowAt_11 rfl (lv_at hl 1 rfl) ?_
    refine va_get (D := G.1) (ci := 9) (v := .ref a_go) (C := RX9) (T := TX9) (N := 4) hx hb hts inG_X9 hown hK hP 1 rfl rfl 2 (by decide +kernel) (hts _ fl_X9_9) (fun _ h9 => h9) rfl dX9_firstRowAt_12 ?_
    refine lv_iload hx hb dX9_firstRowAt_15 (lv_at hl 0 rfl) ?_
    refine lv_aload_n hx hb dX9_firstRowAt_17 rfl (lv_at hl 1 rfl) ?_
    refine W.eq (g2 := F0 m 18 ls [.ref a_wk, .int k_e, .ref a_go]) rfl ?_
    refine lv_aload_n hx hb dX9_firstRowAt_18 rfl (lv_at hl 1 rfl) ?_
    refine va_get (D := G.1) (ci := 9) (v := .ref a_go) (C := RX9) (T := TX9) (N := 4) hx hb hts inG_X9 hown hK hP 1 rfl rfl 2 (by decide +kernel) (hts _ fl_X9_9) (fun _ h9 => h9) rfl dX9_firstRowAt_19 ?_
    refine lv_iload hx hb dX9_firstRowAt_22 (lv_at hl 0 rfl) ?_
    refine lv_iconst (v := 1) hx hb dX9_firstRowAt_24 (by decide +kernel) ?_
    refine lv_iadd hx hb dX9_firstRowAt_25 ?_
    have t_14 : (k_e + 1).toInt = k_e.toInt + 1 := g5_iadd (a := k_e.toInt) (b := 1) (by rfl) (by decide +kernel) (by omega) (by omega)
    refine W.eq (g2 := F0 m 26 ls [.int (k_e + 1), .ref a_go, .ref a_wk, .int k_e, .ref a_go]) rfl ?_
    refine va_lald hx hb hK hP 2 1 rfl rfl (i := (k_e + 1)) (vp_in_iff.mpr ⟨by omega, by omega⟩) dX9_firstRowAt_26 ?_
    obtain ⟨hPc, hDc, hFc⟩ := g5_sub3 (wc := [(a_h, (oc1 e_wa e_le e_st e_fo e_lc a_l a_g a_b a_s a_p a_w e_gb a_bb)), (a_wk, (oc9 a_h a_k a_go a_mt))]) hP hD hS hA [0, 1] (by decide +kernel) rfl
    refine va_calll (va_runV (As := [.long (k_f (k_e + 1).toNatClampNeg)]) (rest := [.int k_e, .ref a_go]) ⟨hx, hb, hml, hown, hts⟩ (a_spread l G a_h a_wk a_l a_g a_b a_s a_p a_w a_bb a_k a_go a_mt H.size e_le e_st e_fo e_lc e_wa e_gb (k_f (k_e + 1).toNatClampNeg)) (cwV 1 hts gV_X9_56 rfl rfl rfl hv_X9_spread ⟨Nat.le_of_ble_eq_true rfl, Nat.le_of_ble_eq_true rfl⟩) (g5_preV hPc hK hDc hN hT hS hFc (ci := 9) (q0 := 1) rfl rfl) rfl rfl hl.1 rfl (lv_room (Nat.le_of_ble_eq_true rfl)) dX9_firstRowAt_27 ⟨Nat.le_of_ble_eq_true rfl, Nat.le_of_ble_eq_true rfl⟩) hS (fun q _ h => hFc q h) hFc (fun r u t H locs ht hvm hw hB hz1 hk1 hS => ?_)
    obtain ⟨hP1, hD1⟩ := hB
    have hP1 := g5_ht ht hP1
    obtain ⟨z15, y16, rfl⟩ := hw
    have hJ9 := va_join (wr := [(a_go, (arJ G 24 k_f))]) hP hD [0, 1] [2] rfl rfl (by decide +kernel) (by decide +kernel) hk1 hFc hP1 hD1
    clear hP hD hPc hDc hFc ht hvm hz1 hk1 hP1 hD1
    obtain ⟨hP, hD⟩ := hJ9
    refine g5_rs [(a_go, (arJ G 24 k_f)), (a_h, (oc1 e_wa e_le e_st e_fo e_lc a_l a_g a_b a_s a_p a_w e_gb a_bb)), (a_wk, (oc9 a_h a_k a_go a_mt))] hP hD ?_
    clear hP hD
    intro hP hD
    refine g5_tl (v := z15) y16 ?_
    refine va_last hx hb hK hP hD hS 0 1 rfl rfl (i := k_e) (x := z15) (vp_in_iff.mpr ⟨by omega, by omega⟩) dX9_firstRowAt_30 ?_
    clear hP hD hS
    intro H locs hP hD hS
    refine g5_rs [(a_go, (arJ G 24 (vp_updL k_f k_e.toNatClampNeg z15))), (a_h, (oc1 e_wa e_le e_st e_fo e_lc a_l a_g a_b a_s a_p a_w e_gb a_bb)), (a_wk, (oc9 a_h a_k a_go a_mt))] hP hD ?_
    clear hP hD
    intro hP hD
    obtain ⟨y17, hy_17, t_17⟩ := g_incN k_e (-1) (by decide +kernel) (by omega) (by omega)
    have t_17 : y17.toInt = k_e.toInt + (-1) := t_17
    refine lv_iinc (v := y17) (lv' := [(5, .int y17), (0, .ref a_wk), (1, .int p_c), (2, .int p_f), (3, .int p_l), (4, .int p_h)]) hx hb dX9_firstRowAt_31 hl (k := 0) rfl hy_17 (by decide +kernel) rfl ?_
    clear hl
    intro ls hl
    refine lv_goto (tgt := 5) hx hb dX9_firstRowAt_34 (by decide +kernel) ?_
    exact ih_5_3 (y17, (vp_updL k_f k_e.toNatClampNeg z15)) ls H locs (show Int.toNat (y17.toInt + 1) < Int.toNat (k_e.toInt + 1) from g_dn (show y17.toInt < k_e.toInt by omega) (show 0 ≤ k_e.toInt by omega)) ⟨lv_sub hl [0, 1, 2, 3, 4, 5] rfl, hP.sub [1, 2, 0] rfl, hD.sub [1, 2, 0] (by decide +kernel) rfl, hS, ⟨by omega, by omega⟩⟩
theorem dgJ7_fill_53178_0 : ∀ r ∈ ([(0, (.iconst 0, 1)), (1, (.istore_n 2, 1)), (2, (.aload_n 0, 1)), (3, (.arraylength, 1)), (4, (.istore_n 3, 1)), (5, (.iload_n 2, 1)), (6, (.iload_n 3, 1)), (7, (.if_icmp .ge 13, 3)), (10, (.aload_n 0, 1)), (11, (.iload_n 2, 1)), (12, (.iload_n 1, 1)), (13, (.iastore, 1)), (14, (.iinc 2 1, 3)), (17, (.goto (-12), 3)), (20, (.return_, 1))] : List (Nat × (Instr × Nat))), decode cJ7_fill_53178 r.1 = .ok r.2 := by decide +kernel
theorem dJ7_fill_53178_0 : decode cJ7_fill_53178 0 = .ok (.iconst 0, 1) := dgJ7_fill_53178_0 (0, (.iconst 0, 1)) (List.mem_of_getElem? (i := 0) rfl)
theorem dJ7_fill_53178_1 : decode cJ7_fill_53178 1 = .ok (.istore_n 2, 1) := dgJ7_fill_53178_0 (1, (.istore_n 2, 1)) (List.mem_of_getElem? (i := 1) rfl)
theorem dJ7_fill_53178_2 : decode cJ7_fill_53178 2 = .ok (.aload_n 0, 1) := dgJ7_fill_53178_0 (2, (.aload_n 0, 1)) (List.mem_of_getElem? (i := 2) rfl)
theorem dJ7_fill_53178_3 : decode cJ7_fill_53178 3 = .ok (.arraylength, 1) := dgJ7_fill_53178_0 (3, (.arraylength, 1)) (List.mem_of_getElem? (i := 3) rfl)
theorem dJ7_fill_53178_4 : decode cJ7_fill_53178 4 = .ok (.istore_n 3, 1) := dgJ7_fill_53178_0 (4, (.istore_n 3, 1)) (List.mem_of_getElem? (i := 4) rfl)
theorem dJ7_fill_53178_5 : decode cJ7_fill_53178 5 = .ok (.iload_n 2, 1) := dgJ7_fill_53178_0 (5, (.iload_n 2, 1)) (List.mem_of_getElem? (i := 5) rfl)
theorem dJ7_fill_53178_6 : decode cJ7_fill_53178 6 = .ok (.iload_n 3, 1) := dgJ7_fill_53178_0 (6, (.iload_n 3, 1)) (List.mem_of_getElem? (i := 6) rfl)
theorem dJ7_fill_53178_7 : decode cJ7_fill_53178 7 = .ok (.if_icmp .ge 13, 3) := dgJ7_fill_53178_0 (7, (.if_icmp .ge 13, 3)) (List.mem_of_getElem? (i := 7) rfl)
theorem dJ7_fill_53178_10 : decode cJ7_fill_53178 10 = .ok (.aload_n 0, 1) := dgJ7_fill_53178_0 (10, (.aload_n 0, 1)) (List.mem_of_getElem? (i := 8) rfl)
theorem dJ7_fill_53178_11 : decode cJ7_fill_53178 11 = .ok (.iload_n 2, 1) := dgJ7_fill_53178_0 (11, (.iload_n 2, 1)) (List.mem_of_getElem? (i := 9) rfl)
theorem dJ7_fill_53178_12 : decode cJ7_fill_53178 12 = .ok (.iload_n 1, 1) := dgJ7_fill_53178_0 (12, (.iload_n 1, 1)) (List.mem_of_getElem? (i := 10) rfl)
theorem dJ7_fill_53178_13 : decode cJ7_fill_53178 13 = .ok (.iastore, 1) := dgJ7_fill_53178_0 (13, (.iastore, 1)) (List.mem_of_getElem? (i := 11) rfl)
theorem dJ7_fill_53178_14 : decode cJ7_fill_53178 14 = .ok (.iinc 2 1, 3) := dgJ7_fill_53178_0 (14, (.iinc 2 1, 3)) (List.mem_of_getElem? (i := 12) rfl)
theorem dJ7_fill_53178_17 : decode cJ7_fill_53178 17 = .ok (.goto (-12), 3) := dgJ7_fill_53178_0 (17, (.goto (-12), 3)) (List.mem_of_getElem? (i := 13) rfl)
theorem dJ7_fill_53178_20 : decode cJ7_fill_53178 20 = .ok (.return_, 1) := dgJ7_fill_53178_0 (20, (.return_, 1)) (List.mem_of_getElem? (i := 14) rfl)
set_option maxHeartbeats 4000000 in
set_option maxRecDepth 100000 in
theorem k_fillI1536 (l : Launch) (G : g5_G) (a_0 : Nat) (sz : Nat) (p_v : Int32) (f_a : Nat → Int32) : Met l yJ7_fill_53178 (wsG yJ7_fill_53178 cJ7_fill_53178 4 none) ({ frames := 0, cells := 0, slots := 0, locals := 0 }) (va_Pc [.ref a_0, .int p_v] (g5_P G [(a_0, (arI G 1536 f_a))] sz)) (va_Qv (fun (u : va_W) => ((u = [(a_0, (arI G 1536 (fun _ => p_v)))]))) (g5_B G (va_A [(a_0, (arI G 1536 f_a))] sz)) (va_A [(a_0, (arI G 1536 f_a))] sz)) 0 0 (va_A [(a_0, (arI G 1536 f_a))] sz) := by
  refine Met.ofW (cc := cJ7_fill_53178) (maxL := 4) (ret := none) (by decide +kernel) rfl ?_
  intro p e s m args below meth c s₁ B hml hv
  obtain ⟨rfl, hsz, hP, hK, hD0, hN, hT⟩ := hv
  have hx := B.exec
  have hb := B.bytes
  have hr := B.returns
  have hts : ∀ w ∈ tblG, w.before _ s = true := fun w h => atoms_spec (ws := (wsG yJ7_fill_53178 cJ7_fill_53178 4 none)) B.pre w (List.mem_cons_of_mem _ h)
  have hown : s.vm.findClass RJ7 = some m.cls := findClass_of_methodNamed B.named
  have hlocks := B.notSynchronized
  subst hsz
  have hD := hD0.self (sz := s.heap.size)
  generalize hAe : va_A [(a_0, (arI G 1536 f_a))] s.heap.size = A at hD hT ⊢
  have hA : ∀ q : Nat, s.heap.size ≤ q → A q := fun q h => by rw [← hAe]; exact Or.inr h
  have hS : va_S A s.heap s.heap [] := va_S.rf
  replace hP : va_P G.1 vwCl [(a_0, (arI G 1536 f_a))] s.heap := hP
  have hl := lv_entry ([.ref a_0, .int p_v]) (n := 4) (Nat.le_of_ble_eq_true rfl)
  rw [lg_entry_eq]
  generalize (lg_sl ([.ref a_0, .int p_v]) ++ List.replicate (4 - (lg_sl ([.ref a_0, .int p_v])).length) Slot.unset).toArray = ls at hl ⊢
  replace hl : lv_has ls 4 [(0, .ref a_0), (1, .int p_v)] := hl
  refine lv_iconst (v := 0) hx hb dJ7_fill_53178_0 (by decide +kernel) ?_
  refine lv_istore_n (lv' := [(2, .int 0), (0, .ref a_0), (1, .int p_v)]) hx hb dJ7_fill_53178_1 rfl hl (by decide +kernel) rfl ?_
  clear hl
  intro ls hl
  refine lv_aload_n hx hb dJ7_fill_53178_2 rfl (lv_at hl 1 rfl) ?_
  refine va_alen hx hb hK hP 0 0 rfl rfl (v := 1536) (by show Int32.ofNat 1536 = 1536; decide) dJ7_fill_53178_3 ?_
  refine W.eq (g2 := F0 m 4 ls [.int 1536]) rfl ?_
  refine lv_istore_n (lv' := [(3, .int 1536), (2, .int 0), (0, .ref a_0), (1, .int p_v)]) hx hb dJ7_fill_53178_4 rfl hl (by decide +kernel) rfl ?_
  clear hl
  intro ls hl
  refine g5_loop (α := (Int32) × (Nat → Int32)) (fun (q : (Int32) × (Nat → Int32)) (ls : Array Slot) (H : Heap) (locs : List Loc) => match q with | (k_i, k_f) => lv_has ls 4 [(2, .int k_i), (3, .int 1536), (0, .ref a_0), (1, .int p_v)] ∧ va_P G.1 vwCl [(a_0, (arI G 1536 k_f))] H ∧ va_D A [(a_0, (arI G 1536 k_f))] ∧ va_S A s.heap H locs ∧ (0 ≤ k_i.toInt ∧ k_i.toInt ≤ 1536) ∧ (∀ j : Nat, (j : Int) < k_i.toInt → k_f j = (fun _ => p_v) j)) (fun (q : (Int32) × (Nat → Int32)) => match q with | (k_i, k_f) => Int.toNat (1536 - k_i.toInt)) (0, f_a) ⟨lv_sub hl [1, 0, 2, 3] rfl, hP, hD, hS, ⟨by decide, by decide⟩, fun j h => absurd h (by have z : (0 : Int32).toInt = 0 := (by decide +kernel); omega)⟩ ?_
  rintro ⟨k_i, k_f⟩ ls H locs ⟨hl, hP, hD, hS, (i_1 : 0 ≤ k_i.toInt ∧ k_i.toInt ≤ 1536), (i_2 : ∀ j : Nat, (j : Int) < k_i.toInt → k_f j = (fun _ => p_v) j)⟩ ih_5_3
  replace hl : lv_has ls 4 [(2, .int k_i), (3, .int 1536), (0, .ref a_0), (1, .int p_v)] := hl
  refine g5_rs [(a_0, (arI G 1536 k_f))] hP hD ?_
  clear hP hD
  intro hP hD
  refine lv_iload_n hx hb dJ7_fill_53178_5 rfl (lv_at hl 0 rfl) ?_
  refine lv_iload_n hx hb dJ7_fill_53178_6 rfl (lv_at hl 1 rfl) ?_
  refine lv_icmp_ge (tgt := 20) hx hb dJ7_fill_53178_7 (by decide +kernel) (fun c_4 => ?_) (fun c_4 => ?_)
  ·
    have i_4 : k_i.toInt ≥ 1536 := g5_ge (a := k_i.toInt) (b := 1536) rfl (by decide +kernel) c_4
    obtain ⟨hP, hD⟩ := g5_cvI hP hD 0 (f := k_f) (g := (fun _ => p_v)) rfl (fun j h => i_2 j (by omega))
    refine g5_rs [(a_0, (arI G 1536 (fun _ => p_v)))] hP hD ?_
    clear hP hD
    intro hP hD
    exact W.vret hx hb hr (fun t ht hW => ⟨⟨[(a_0, (arI G 1536 (fun _ => p_v)))], rfl, rfl, by rw [ht]; exact hP.sub [0] rfl, hD.sub [0] (by decide +kernel) rfl⟩, hS.F ht⟩) hS.2.2 dJ7_fill_53178_20
  ·
    have i_4 : k_i.toInt < 1536 := g5_geN (a := k_i.toInt) (b := 1536) rfl (by decide +kernel) c_4
    refine lv_aload_n hx hb dJ7_fill_53178_10 rfl (lv_at hl 2 rfl) ?_
    refine lv_iload_n hx hb dJ7_fill_53178_11 rfl (lv_at hl 0 rfl) ?_
    refine lv_iload_n hx hb dJ7_fill_53178_12 rfl (lv_at hl 3 rfl) ?_
    refine va_iast hx hb hK hP hD hS 0 0 rfl rfl (i := k_i) (x := p_v) (vp_in_iff.mpr ⟨by omega, by omega⟩) dJ7_fill_53178_13 ?_
    clear hP hD hS
    intro H locs hP hD hS
    refine g5_rs [(a_0, (arI G 1536 (upd k_f k_i.toNatClampNeg p_v)))] hP hD ?_
    clear hP hD
    intro hP hD
    refine W.eq (g2 := F0 m 14 ls []) rfl ?_
    refine lv_iinc (v := (k_i + 1)) (lv' := [(2, .int (k_i + 1)), (3, .int 1536), (0, .ref a_0), (1, .int p_v)]) hx hb dJ7_fill_53178_14 hl (k := 0) rfl rfl (by decide +kernel) rfl ?_
    clear hl
    intro ls hl
    have t_5 : (k_i + 1).toInt = k_i.toInt + 1 := g5_iadd (a := k_i.toInt) (b := 1) rfl (by decide +kernel) (by omega) (by omega)
    refine lv_goto (tgt := 5) hx hb dJ7_fill_53178_17 (by decide +kernel) ?_
    exact ih_5_3 ((k_i + 1), (upd k_f k_i.toNatClampNeg p_v)) ls H locs (show Int.toNat (1536 - (k_i + 1).toInt) < Int.toNat (1536 - k_i.toInt) from g_up (show k_i.toInt < (k_i + 1).toInt by omega) (show k_i.toInt < 1536 by omega)) ⟨lv_sub hl [0, 1, 2, 3] rfl, hP, hD, hS, ⟨by omega, by omega⟩, g5_fillI i_2 (by omega) (by omega) rfl⟩
set_option maxHeartbeats 4000000 in
set_option maxRecDepth 100000 in
theorem k_fillJ2048 (l : Launch) (G : g5_G) (a_0 : Nat) (sz : Nat) (p_v : Int64) (f_a : Nat → Int64) : Met l yJ7_fill_d0a16 (wsG yJ7_fill_d0a16 cJ7_fill_d0a16 5 none) ({ frames := 0, cells := 0, slots := 0, locals := 0 }) (va_Pc [.ref a_0, .long p_v] (g5_P G [(a_0, (arJ G 2048 f_a))] sz)) (va_Qv (fun (u : va_W) => ((u = [(a_0, (arJ G 2048 (fun _ => p_v)))]))) (g5_B G (va_A [(a_0, (arJ G 2048 f_a))] sz)) (va_A [(a_0, (arJ G 2048 f_a))] sz)) 0 0 (va_A [(a_0, (arJ G 2048 f_a))] sz) := by
  refine Met.ofW (cc := cJ7_fill_d0a16) (maxL := 5) (ret := none) (by decide +kernel) rfl ?_
  intro p e s m args below meth c s₁ B hml hv
  obtain ⟨rfl, hsz, hP, hK, hD0, hN, hT⟩ := hv
  have hx := B.exec
  have hb := B.bytes
  have hr := B.returns
  have hts : ∀ w ∈ tblG, w.before _ s = true := fun w h => atoms_spec (ws := (wsG yJ7_fill_d0a16 cJ7_fill_d0a16 5 none)) B.pre w (List.mem_cons_of_mem _ h)
  have hown : s.vm.findClass RJ7 = some m.cls := findClass_of_methodNamed B.named
  have hlocks := B.notSynchronized
  subst hsz
  have hD := hD0.self (sz := s.heap.size)
  generalize hAe : va_A [(a_0, (arJ G 2048 f_a))] s.heap.size = A at hD hT ⊢
  have hA : ∀ q : Nat, s.heap.size ≤ q → A q := fun q h => by rw [← hAe]; exact Or.inr h
  have hS : va_S A s.heap s.heap [] := va_S.rf
  replace hP : va_P G.1 vwCl [(a_0, (arJ G 2048 f_a))] s.heap := hP
  have hl := lv_entry ([.ref a_0, .long p_v]) (n := 5) (Nat.le_of_ble_eq_true rfl)
  rw [lg_entry_eq]
  generalize (lg_sl ([.ref a_0, .long p_v]) ++ List.replicate (5 - (lg_sl ([.ref a_0, .long p_v])).length) Slot.unset).toArray = ls at hl ⊢
  replace hl : lv_has ls 5 [(0, .ref a_0), (1, .long p_v)] := hl
  refine lv_iconst (v := 0) hx hb dJ7_fill_d0a16_0 (by decide +kernel) ?_
  refine lv_istore_n (lv' := [(3, .int 0), (0, .ref a_0), (1, .long p_v)]) hx hb dJ7_fill_d0a16_1 rfl hl (by decide +kernel) rfl ?_
  clear hl
  intro ls hl
  refine lv_aload_n hx hb dJ7_fill_d0a16_2 rfl (lv_at hl 1 rfl) ?_
  refine va_alen hx hb hK hP 0 1 rfl rfl (v := 2048) (by show Int32.ofNat 2048 = 2048; decide) dJ7_fill_d0a16_3 ?_
  refine W.eq (g2 := F0 m 4 ls [.int 2048]) rfl ?_
  refine lv_istore (lv' := [(4, .int 2048), (3, .int 0), (0, .ref a_0), (1, .long p_v)]) hx hb dJ7_fill_d0a16_4 hl (by decide +kernel) rfl ?_
  clear hl
  intro ls hl
  refine g5_loop (α := (Int32) × (Nat → Int64)) (fun (q : (Int32) × (Nat → Int64)) (ls : Array Slot) (H : Heap) (locs : List Loc) => match q with | (k_i, k_f) => lv_has ls 5 [(3, .int k_i), (4, .int 2048), (0, .ref a_0), (1, .long p_v)] ∧ va_P G.1 vwCl [(a_0, (arJ G 2048 k_f))] H ∧ va_D A [(a_0, (arJ G 2048 k_f))] ∧ va_S A s.heap H locs ∧ (0 ≤ k_i.toInt ∧ k_i.toInt ≤ 2048) ∧ (∀ j : Nat, (j : Int) < k_i.toInt → k_f j = (fun _ => p_v) j)) (fun (q : (Int32) × (Nat → Int64)) => match q with | (k_i, k_f) => Int.toNat (2048 - k_i.toInt)) (0, f_a) ⟨lv_sub hl [1, 0, 2, 3] rfl, hP, hD, hS, ⟨by decide, by decide⟩, fun j h => absurd h (by have z : (0 : Int32).toInt = 0 := (by decide +kernel); omega)⟩ ?_
  rintro ⟨k_i, k_f⟩ ls H locs ⟨hl, hP, hD, hS, (i_1 : 0 ≤ k_i.toInt ∧ k_i.toInt ≤ 2048), (i_2 : ∀ j : Nat, (j : Int) < k_i.toInt → k_f j = (fun _ => p_v) j)⟩ ih_6_3
  replace hl : lv_has ls 5 [(3, .int k_i), (4, .int 2048), (0, .ref a_0), (1, .long p_v)] := hl
  refine g5_rs [(a_0, (arJ G 2048 k_f))] hP hD ?_
  clear hP hD
  intro hP hD
  refine lv_iload_n hx hb dJ7_fill_d0a16_6 rfl (lv_at hl 0 rfl) ?_
  refine lv_iload hx hb dJ7_fill_d0a16_7 (lv_at hl 1 rfl) ?_
  refine lv_icmp_ge (tgt := 22) hx hb dJ7_fill_d0a16_9 (by decide +kernel) (fun c_4 => ?_) (fun c_4 => ?_)
  ·
    have i_4 : k_i.toInt ≥ 2048 := g5_ge (a := k_i.toInt) (b := 2048) rfl (by decide +kernel) c_4
    obtain ⟨hP, hD⟩ := g5_cvJ hP hD 0 (f := k_f) (g := (fun _ => p_v)) rfl (fun j h => i_2 j (by omega))
    refine g5_rs [(a_0, (arJ G 2048 (fun _ => p_v)))] hP hD ?_
    clear hP hD
    intro hP hD
    exact W.vret hx hb hr (fun t ht hW => ⟨⟨[(a_0, (arJ G 2048 (fun _ => p_v)))], rfl, rfl, by rw [ht]; exact hP.sub [0] rfl, hD.sub [0] (by decide +kernel) rfl⟩, hS.F ht⟩) hS.2.2 dJ7_fill_d0a16_22
  ·
    have i_4 : k_i.toInt < 2048 := g5_geN (a := k_i.toInt) (b := 2048) rfl (by decide +kernel) c_4
    refine lv_aload_n hx hb dJ7_fill_d0a16_12 rfl (lv_at hl 2 rfl) ?_
    refine lv_iload_n hx hb dJ7_fill_d0a16_13 rfl (lv_at hl 0 rfl) ?_
    refine lv_lload_n hx hb dJ7_fill_d0a16_14 rfl (lv_at hl 3 rfl) ?_
    refine va_last hx hb hK hP hD hS 0 1 rfl rfl (i := k_i) (x := p_v) (vp_in_iff.mpr ⟨by omega, by omega⟩) dJ7_fill_d0a16_15 ?_
    clear hP hD hS
    intro H locs hP hD hS
    refine g5_rs [(a_0, (arJ G 2048 (vp_updL k_f k_i.toNatClampNeg p_v)))] hP hD ?_
    clear hP hD
    intro hP hD
    refine W.eq (g2 := F0 m 16 ls []) rfl ?_
    refine lv_iinc (v := (k_i + 1)) (lv' := [(3, .int (k_i + 1)), (4, .int 2048), (0, .ref a_0), (1, .long p_v)]) hx hb dJ7_fill_d0a16_16 hl (k := 0) rfl rfl (by decide +kernel) rfl ?_
    clear hl
    intro ls hl
    have t_5 : (k_i + 1).toInt = k_i.toInt + 1 := g5_iadd (a := k_i.toInt) (b := 1) rfl (by decide +kernel) (by omega) (by omega)
    refine lv_goto (tgt := 6) hx hb dJ7_fill_d0a16_19 (by decide +kernel) ?_
    exact ih_6_3 ((k_i + 1), (vp_updL k_f k_i.toNatClampNeg p_v)) ls H locs (show Int.toNat (2048 - (k_i + 1).toInt) < Int.toNat (2048 - k_i.toInt) from g_up (show k_i.toInt < (k_i + 1).toInt by omega) (show k_i.toInt < 2048 by omega)) ⟨lv_sub hl [0, 1, 2, 3] rfl, hP, hD, hS, ⟨by omega, by omega⟩, g5_fillJ i_2 (by omega) (by omega) rfl⟩
theorem dgX7_load_0 : ∀ r ∈ ([(0, (.aload_n 0, 1)), (1, (.getfield 9, 3)), (4, (.aload_n 0, 1)), (5, (.getfield 34, 3)), (8, (.getfield 54, 3)), (11, (.invokestatic 58, 3)), (14, (.aload_n 0, 1)), (15, (.getfield 15, 3)), (18, (.iconst 0, 1)), (19, (.invokestatic 64, 3)), (22, (.aload_n 0, 1)), (23, (.getfield 34, 3)), (26, (.getfield 67, 3)), (29, (.iconst (-1), 1)), (30, (.if_icmp .eq 25, 3)), (33, (.aload_n 0, 1)), (34, (.getfield 9, 3)), (37, (.iconst 0, 1)), (38, (.dup2, 1)), (39, (.laload, 1)), (40, (.lconst 1, 1)), (41, (.aload_n 0, 1)), (42, (.getfield 34, 3)), (45, (.getfield 67, 3)), (48, (.lshl, 1)), (49, (.ldc2_w 70, 3)), (52, (.lxor, 1)), (53, (.lor, 1)), (54, (.lastore, 1)), (55, (.iconst 1, 1)), (56, (.istore_n 2, 1)), (57, (.aload_n 0, 1)), (58, (.getfield 34, 3)), (61, (.getfield 42, 3)), (64, (.astore_n 3, 1)), (65, (.iconst 0, 1)), (66, (.istore 4, 2)), (68, (.iload 4, 2)), (70, (.aload_n 3, 1)), (71, (.getfield 48, 3))] : List (Nat × (Instr × Nat))), decode cX7_load r.1 = .ok r.2 := by decide +kernel
theorem dX7_load_0 : decode cX7_load 0 = .ok (.aload_n 0, 1) := dgX7_load_0 (0, (.aload_n 0, 1)) (List.mem_of_getElem? (i := 0) rfl)
theorem dX7_load_1 : decode cX7_load 1 = .ok (.getfield 9, 3) := dgX7_load_0 (1, (.getfield 9, 3)) (List.mem_of_getElem? (i := 1) rfl)
theorem dX7_load_4 : decode cX7_load 4 = .ok (.aload_n 0, 1) := dgX7_load_0 (4, (.aload_n 0, 1)) (List.mem_of_getElem? (i := 2) rfl)
theorem dX7_load_5 : decode cX7_load 5 = .ok (.getfield 34, 3) := dgX7_load_0 (5, (.getfield 34, 3)) (List.mem_of_getElem? (i := 3) rfl)
theorem dX7_load_8 : decode cX7_load 8 = .ok (.getfield 54, 3) := dgX7_load_0 (8, (.getfield 54, 3)) (List.mem_of_getElem? (i := 4) rfl)
theorem dX7_load_11 : decode cX7_load 11 = .ok (.invokestatic 58, 3) := dgX7_load_0 (11, (.invokestatic 58, 3)) (List.mem_of_getElem? (i := 5) rfl)
theorem dX7_load_14 : decode cX7_load 14 = .ok (.aload_n 0, 1) := dgX7_load_0 (14, (.aload_n 0, 1)) (List.mem_of_getElem? (i := 6) rfl)
theorem dX7_load_15 : decode cX7_load 15 = .ok (.getfield 15, 3) := dgX7_load_0 (15, (.getfield 15, 3)) (List.mem_of_getElem? (i := 7) rfl)
theorem dX7_load_18 : decode cX7_load 18 = .ok (.iconst 0, 1) := dgX7_load_0 (18, (.iconst 0, 1)) (List.mem_of_getElem? (i := 8) rfl)
theorem dX7_load_19 : decode cX7_load 19 = .ok (.invokestatic 64, 3) := dgX7_load_0 (19, (.invokestatic 64, 3)) (List.mem_of_getElem? (i := 9) rfl)
theorem dX7_load_22 : decode cX7_load 22 = .ok (.aload_n 0, 1) := dgX7_load_0 (22, (.aload_n 0, 1)) (List.mem_of_getElem? (i := 10) rfl)
theorem dX7_load_23 : decode cX7_load 23 = .ok (.getfield 34, 3) := dgX7_load_0 (23, (.getfield 34, 3)) (List.mem_of_getElem? (i := 11) rfl)
theorem dX7_load_26 : decode cX7_load 26 = .ok (.getfield 67, 3) := dgX7_load_0 (26, (.getfield 67, 3)) (List.mem_of_getElem? (i := 12) rfl)
theorem dX7_load_29 : decode cX7_load 29 = .ok (.iconst (-1), 1) := dgX7_load_0 (29, (.iconst (-1), 1)) (List.mem_of_getElem? (i := 13) rfl)
theorem dX7_load_30 : decode cX7_load 30 = .ok (.if_icmp .eq 25, 3) := dgX7_load_0 (30, (.if_icmp .eq 25, 3)) (List.mem_of_getElem? (i := 14) rfl)
theorem dX7_load_33 : decode cX7_load 33 = .ok (.aload_n 0, 1) := dgX7_load_0 (33, (.aload_n 0, 1)) (List.mem_of_getElem? (i := 15) rfl)
theorem dX7_load_34 : decode cX7_load 34 = .ok (.getfield 9, 3) := dgX7_load_0 (34, (.getfield 9, 3)) (List.mem_of_getElem? (i := 16) rfl)
theorem dX7_load_37 : decode cX7_load 37 = .ok (.iconst 0, 1) := dgX7_load_0 (37, (.iconst 0, 1)) (List.mem_of_getElem? (i := 17) rfl)
theorem dX7_load_38 : decode cX7_load 38 = .ok (.dup2, 1) := dgX7_load_0 (38, (.dup2, 1)) (List.mem_of_getElem? (i := 18) rfl)
theorem dX7_load_39 : decode cX7_load 39 = .ok (.laload, 1) := dgX7_load_0 (39, (.laload, 1)) (List.mem_of_getElem? (i := 19) rfl)
theorem dX7_load_40 : decode cX7_load 40 = .ok (.lconst 1, 1) := dgX7_load_0 (40, (.lconst 1, 1)) (List.mem_of_getElem? (i := 20) rfl)
theorem dX7_load_41 : decode cX7_load 41 = .ok (.aload_n 0, 1) := dgX7_load_0 (41, (.aload_n 0, 1)) (List.mem_of_getElem? (i := 21) rfl)
theorem dX7_load_42 : decode cX7_load 42 = .ok (.getfield 34, 3) := dgX7_load_0 (42, (.getfield 34, 3)) (List.mem_of_getElem? (i := 22) rfl)
theorem dX7_load_45 : decode cX7_load 45 = .ok (.getfield 67, 3) := dgX7_load_0 (45, (.getfield 67, 3)) (List.mem_of_getElem? (i := 23) rfl)
theorem dX7_load_48 : decode cX7_load 48 = .ok (.lshl, 1) := dgX7_load_0 (48, (.lshl, 1)) (List.mem_of_getElem? (i := 24) rfl)
theorem dX7_load_49 : decode cX7_load 49 = .ok (.ldc2_w 70, 3) := dgX7_load_0 (49, (.ldc2_w 70, 3)) (List.mem_of_getElem? (i := 25) rfl)
theorem dX7_load_52 : decode cX7_load 52 = .ok (.lxor, 1) := dgX7_load_0 (52, (.lxor, 1)) (List.mem_of_getElem? (i := 26) rfl)
theorem dX7_load_53 : decode cX7_load 53 = .ok (.lor, 1) := dgX7_load_0 (53, (.lor, 1)) (List.mem_of_getElem? (i := 27) rfl)
theorem dX7_load_54 : decode cX7_load 54 = .ok (.lastore, 1) := dgX7_load_0 (54, (.lastore, 1)) (List.mem_of_getElem? (i := 28) rfl)
theorem dX7_load_55 : decode cX7_load 55 = .ok (.iconst 1, 1) := dgX7_load_0 (55, (.iconst 1, 1)) (List.mem_of_getElem? (i := 29) rfl)
theorem dX7_load_56 : decode cX7_load 56 = .ok (.istore_n 2, 1) := dgX7_load_0 (56, (.istore_n 2, 1)) (List.mem_of_getElem? (i := 30) rfl)
theorem dX7_load_57 : decode cX7_load 57 = .ok (.aload_n 0, 1) := dgX7_load_0 (57, (.aload_n 0, 1)) (List.mem_of_getElem? (i := 31) rfl)
theorem dX7_load_58 : decode cX7_load 58 = .ok (.getfield 34, 3) := dgX7_load_0 (58, (.getfield 34, 3)) (List.mem_of_getElem? (i := 32) rfl)
theorem dX7_load_61 : decode cX7_load 61 = .ok (.getfield 42, 3) := dgX7_load_0 (61, (.getfield 42, 3)) (List.mem_of_getElem? (i := 33) rfl)
theorem dX7_load_64 : decode cX7_load 64 = .ok (.astore_n 3, 1) := dgX7_load_0 (64, (.astore_n 3, 1)) (List.mem_of_getElem? (i := 34) rfl)
theorem dX7_load_65 : decode cX7_load 65 = .ok (.iconst 0, 1) := dgX7_load_0 (65, (.iconst 0, 1)) (List.mem_of_getElem? (i := 35) rfl)
theorem dX7_load_66 : decode cX7_load 66 = .ok (.istore 4, 2) := dgX7_load_0 (66, (.istore 4, 2)) (List.mem_of_getElem? (i := 36) rfl)
theorem dX7_load_68 : decode cX7_load 68 = .ok (.iload 4, 2) := dgX7_load_0 (68, (.iload 4, 2)) (List.mem_of_getElem? (i := 37) rfl)
theorem dX7_load_70 : decode cX7_load 70 = .ok (.aload_n 3, 1) := dgX7_load_0 (70, (.aload_n 3, 1)) (List.mem_of_getElem? (i := 38) rfl)
theorem dX7_load_71 : decode cX7_load 71 = .ok (.getfield 48, 3) := dgX7_load_0 (71, (.getfield 48, 3)) (List.mem_of_getElem? (i := 39) rfl)
theorem dgX7_load_1 : ∀ r ∈ ([(74, (.if_icmp .ge 74, 3)), (77, (.iload_n 1, 1)), (78, (.iload 4, 2)), (80, (.ishr, 1)), (81, (.iconst 1, 1)), (82, (.iand, 1)), (83, (.ifCond .eq 59, 3)), (86, (.aload_n 0, 1)), (87, (.getfield 38, 3)), (90, (.aload_n 3, 1)), (91, (.iload 4, 2)), (93, (.iconst 0, 1)), (94, (.invokevirtual 72, 3)), (97, (.aload_n 3, 1)), (98, (.iload 4, 2)), (100, (.iconst 1, 1)), (101, (.invokevirtual 72, 3)), (104, (.aload_n 3, 1)), (105, (.iload 4, 2)), (107, (.iconst 2, 1)), (108, (.invokevirtual 72, 3)), (111, (.iconst 0, 1)), (112, (.invokevirtual 76, 3)), (115, (.aload_n 3, 1)), (116, (.iload 4, 2)), (118, (.iconst 3, 1)), (119, (.invokevirtual 72, 3)), (122, (.iconst 1, 1)), (123, (.if_icmp .ne 15, 3)), (126, (.aload_n 0, 1)), (127, (.iload_n 2, 1)), (128, (.invokevirtual 82, 3)), (131, (.iload_n 2, 1)), (132, (.iconst 1, 1)), (133, (.ishl, 1)), (134, (.istore_n 2, 1)), (135, (.goto 7, 3)), (138, (.aload_n 0, 1)), (139, (.invokevirtual 86, 3)), (142, (.iinc 4 1, 3))] : List (Nat × (Instr × Nat))), decode cX7_load r.1 = .ok r.2 := by decide +kernel
theorem dX7_load_74 : decode cX7_load 74 = .ok (.if_icmp .ge 74, 3) := dgX7_load_1 (74, (.if_icmp .ge 74, 3)) (List.mem_of_getElem? (i := 0) rfl)
theorem dX7_load_77 : decode cX7_load 77 = .ok (.iload_n 1, 1) := dgX7_load_1 (77, (.iload_n 1, 1)) (List.mem_of_getElem? (i := 1) rfl)
theorem dX7_load_78 : decode cX7_load 78 = .ok (.iload 4, 2) := dgX7_load_1 (78, (.iload 4, 2)) (List.mem_of_getElem? (i := 2) rfl)
theorem dX7_load_80 : decode cX7_load 80 = .ok (.ishr, 1) := dgX7_load_1 (80, (.ishr, 1)) (List.mem_of_getElem? (i := 3) rfl)
theorem dX7_load_81 : decode cX7_load 81 = .ok (.iconst 1, 1) := dgX7_load_1 (81, (.iconst 1, 1)) (List.mem_of_getElem? (i := 4) rfl)
theorem dX7_load_82 : decode cX7_load 82 = .ok (.iand, 1) := dgX7_load_1 (82, (.iand, 1)) (List.mem_of_getElem? (i := 5) rfl)
theorem dX7_load_83 : decode cX7_load 83 = .ok (.ifCond .eq 59, 3) := dgX7_load_1 (83, (.ifCond .eq 59, 3)) (List.mem_of_getElem? (i := 6) rfl)
theorem dX7_load_86 : decode cX7_load 86 = .ok (.aload_n 0, 1) := dgX7_load_1 (86, (.aload_n 0, 1)) (List.mem_of_getElem? (i := 7) rfl)
theorem dX7_load_87 : decode cX7_load 87 = .ok (.getfield 38, 3) := dgX7_load_1 (87, (.getfield 38, 3)) (List.mem_of_getElem? (i := 8) rfl)
theorem dX7_load_90 : decode cX7_load 90 = .ok (.aload_n 3, 1) := dgX7_load_1 (90, (.aload_n 3, 1)) (List.mem_of_getElem? (i := 9) rfl)
theorem dX7_load_91 : decode cX7_load 91 = .ok (.iload 4, 2) := dgX7_load_1 (91, (.iload 4, 2)) (List.mem_of_getElem? (i := 10) rfl)
theorem dX7_load_93 : decode cX7_load 93 = .ok (.iconst 0, 1) := dgX7_load_1 (93, (.iconst 0, 1)) (List.mem_of_getElem? (i := 11) rfl)
theorem dX7_load_94 : decode cX7_load 94 = .ok (.invokevirtual 72, 3) := dgX7_load_1 (94, (.invokevirtual 72, 3)) (List.mem_of_getElem? (i := 12) rfl)
theorem dX7_load_97 : decode cX7_load 97 = .ok (.aload_n 3, 1) := dgX7_load_1 (97, (.aload_n 3, 1)) (List.mem_of_getElem? (i := 13) rfl)
theorem dX7_load_98 : decode cX7_load 98 = .ok (.iload 4, 2) := dgX7_load_1 (98, (.iload 4, 2)) (List.mem_of_getElem? (i := 14) rfl)
theorem dX7_load_100 : decode cX7_load 100 = .ok (.iconst 1, 1) := dgX7_load_1 (100, (.iconst 1, 1)) (List.mem_of_getElem? (i := 15) rfl)
theorem dX7_load_101 : decode cX7_load 101 = .ok (.invokevirtual 72, 3) := dgX7_load_1 (101, (.invokevirtual 72, 3)) (List.mem_of_getElem? (i := 16) rfl)
theorem dX7_load_104 : decode cX7_load 104 = .ok (.aload_n 3, 1) := dgX7_load_1 (104, (.aload_n 3, 1)) (List.mem_of_getElem? (i := 17) rfl)
theorem dX7_load_105 : decode cX7_load 105 = .ok (.iload 4, 2) := dgX7_load_1 (105, (.iload 4, 2)) (List.mem_of_getElem? (i := 18) rfl)
theorem dX7_load_107 : decode cX7_load 107 = .ok (.iconst 2, 1) := dgX7_load_1 (107, (.iconst 2, 1)) (List.mem_of_getElem? (i := 19) rfl)
theorem dX7_load_108 : decode cX7_load 108 = .ok (.invokevirtual 72, 3) := dgX7_load_1 (108, (.invokevirtual 72, 3)) (List.mem_of_getElem? (i := 20) rfl)
theorem dX7_load_111 : decode cX7_load 111 = .ok (.iconst 0, 1) := dgX7_load_1 (111, (.iconst 0, 1)) (List.mem_of_getElem? (i := 21) rfl)
theorem dX7_load_112 : decode cX7_load 112 = .ok (.invokevirtual 76, 3) := dgX7_load_1 (112, (.invokevirtual 76, 3)) (List.mem_of_getElem? (i := 22) rfl)
theorem dX7_load_115 : decode cX7_load 115 = .ok (.aload_n 3, 1) := dgX7_load_1 (115, (.aload_n 3, 1)) (List.mem_of_getElem? (i := 23) rfl)
theorem dX7_load_116 : decode cX7_load 116 = .ok (.iload 4, 2) := dgX7_load_1 (116, (.iload 4, 2)) (List.mem_of_getElem? (i := 24) rfl)
theorem dX7_load_118 : decode cX7_load 118 = .ok (.iconst 3, 1) := dgX7_load_1 (118, (.iconst 3, 1)) (List.mem_of_getElem? (i := 25) rfl)
theorem dX7_load_119 : decode cX7_load 119 = .ok (.invokevirtual 72, 3) := dgX7_load_1 (119, (.invokevirtual 72, 3)) (List.mem_of_getElem? (i := 26) rfl)
theorem dX7_load_122 : decode cX7_load 122 = .ok (.iconst 1, 1) := dgX7_load_1 (122, (.iconst 1, 1)) (List.mem_of_getElem? (i := 27) rfl)
theorem dX7_load_123 : decode cX7_load 123 = .ok (.if_icmp .ne 15, 3) := dgX7_load_1 (123, (.if_icmp .ne 15, 3)) (List.mem_of_getElem? (i := 28) rfl)
theorem dX7_load_126 : decode cX7_load 126 = .ok (.aload_n 0, 1) := dgX7_load_1 (126, (.aload_n 0, 1)) (List.mem_of_getElem? (i := 29) rfl)
theorem dX7_load_127 : decode cX7_load 127 = .ok (.iload_n 2, 1) := dgX7_load_1 (127, (.iload_n 2, 1)) (List.mem_of_getElem? (i := 30) rfl)
theorem dX7_load_128 : decode cX7_load 128 = .ok (.invokevirtual 82, 3) := dgX7_load_1 (128, (.invokevirtual 82, 3)) (List.mem_of_getElem? (i := 31) rfl)
theorem dX7_load_131 : decode cX7_load 131 = .ok (.iload_n 2, 1) := dgX7_load_1 (131, (.iload_n 2, 1)) (List.mem_of_getElem? (i := 32) rfl)
theorem dX7_load_132 : decode cX7_load 132 = .ok (.iconst 1, 1) := dgX7_load_1 (132, (.iconst 1, 1)) (List.mem_of_getElem? (i := 33) rfl)
theorem dX7_load_133 : decode cX7_load 133 = .ok (.ishl, 1) := dgX7_load_1 (133, (.ishl, 1)) (List.mem_of_getElem? (i := 34) rfl)
theorem dX7_load_134 : decode cX7_load 134 = .ok (.istore_n 2, 1) := dgX7_load_1 (134, (.istore_n 2, 1)) (List.mem_of_getElem? (i := 35) rfl)
theorem dX7_load_135 : decode cX7_load 135 = .ok (.goto 7, 3) := dgX7_load_1 (135, (.goto 7, 3)) (List.mem_of_getElem? (i := 36) rfl)
theorem dX7_load_138 : decode cX7_load 138 = .ok (.aload_n 0, 1) := dgX7_load_1 (138, (.aload_n 0, 1)) (List.mem_of_getElem? (i := 37) rfl)
theorem dX7_load_139 : decode cX7_load 139 = .ok (.invokevirtual 86, 3) := dgX7_load_1 (139, (.invokevirtual 86, 3)) (List.mem_of_getElem? (i := 38) rfl)
theorem dX7_load_142 : decode cX7_load 142 = .ok (.iinc 4 1, 3) := dgX7_load_1 (142, (.iinc 4 1, 3)) (List.mem_of_getElem? (i := 39) rfl)
theorem dgX7_load_2 : ∀ r ∈ ([(145, (.goto (-77), 3)), (148, (.aload_n 0, 1)), (149, (.iload_n 2, 1)), (150, (.iconst 1, 1)), (151, (.isub, 1)), (152, (.putfield 89, 3)), (155, (.return_, 1))] : List (Nat × (Instr × Nat))), decode cX7_load r.1 = .ok r.2 := by decide +kernel
theorem dX7_load_145 : decode cX7_load 145 = .ok (.goto (-77), 3) := dgX7_load_2 (145, (.goto (-77), 3)) (List.mem_of_getElem? (i := 0) rfl)
theorem dX7_load_148 : decode cX7_load 148 = .ok (.aload_n 0, 1) := dgX7_load_2 (148, (.aload_n 0, 1)) (List.mem_of_getElem? (i := 1) rfl)
theorem dX7_load_149 : decode cX7_load 149 = .ok (.iload_n 2, 1) := dgX7_load_2 (149, (.iload_n 2, 1)) (List.mem_of_getElem? (i := 2) rfl)
theorem dX7_load_150 : decode cX7_load 150 = .ok (.iconst 1, 1) := dgX7_load_2 (150, (.iconst 1, 1)) (List.mem_of_getElem? (i := 3) rfl)
theorem dX7_load_151 : decode cX7_load 151 = .ok (.isub, 1) := dgX7_load_2 (151, (.isub, 1)) (List.mem_of_getElem? (i := 4) rfl)
theorem dX7_load_152 : decode cX7_load 152 = .ok (.putfield 89, 3) := dgX7_load_2 (152, (.putfield 89, 3)) (List.mem_of_getElem? (i := 5) rfl)
theorem dX7_load_155 : decode cX7_load 155 = .ok (.return_, 1) := dgX7_load_2 (155, (.return_, 1)) (List.mem_of_getElem? (i := 6) rfl)
theorem fl_X7_34 : Cond.fieldLink RX7 34 "LateGlass$Thief" "house" "LLateGlass$House;" ∈ tblG := tg 317 (by decide +kernel) (by decide +kernel)
theorem fl_X7_54 : Cond.fieldLink RX7 54 "LateGlass$House" "walls" "J" ∈ tblG := tg 156 (by decide +kernel) (by decide +kernel)
theorem ml_X7_58 : Cond.methodLink RX7 58 yJ7_fill_d0a16 ∈ tblG := tg 963 (by decide +kernel) (by decide +kernel)
theorem gS_X7_58 : GoodIn tblG (va_wsS RX7 58 yJ7_fill_d0a16 (wsG yJ7_fill_d0a16 cJ7_fill_d0a16 5 none)) := tgS ml_X7_58 st_J7_fill_d0a16 ini_J7 gW_J7_fill_d0a16
theorem ml_X7_64 : Cond.methodLink RX7 64 yJ7_fill_53178 ∈ tblG := tg 964 (by decide +kernel) (by decide +kernel)
theorem st_J7_fill_53178 : Cond.static yJ7_fill_53178 ∈ tblG := tg 965 (by decide +kernel) (by decide +kernel)
theorem cd_J7_fill_53178 : Cond.code yJ7_fill_53178 cJ7_fill_53178 4 none ∈ tblG := tg 966 (by decide +kernel) (by decide +kernel)
theorem gW_J7_fill_53178 : GoodIn tblG (wsG yJ7_fill_53178 cJ7_fill_53178 4 none) := tgi cd_J7_fill_53178
theorem gS_X7_64 : GoodIn tblG (va_wsS RX7 64 yJ7_fill_53178 (wsG yJ7_fill_53178 cJ7_fill_53178 4 none)) := tgS ml_X7_64 st_J7_fill_53178 ini_J7 gW_J7_fill_53178
theorem hs_J7_fill_53178 : yJ7_fill_53178.cls ≠ "java/lang/invoke/MethodHandle" ∧ yJ7_fill_53178.cls ≠ "java/lang/invoke/VarHandle" ∧ (parseMethodDescriptor yJ7_fill_53178.desc).map (fun d => d.parameters.length) = some 2 := by decide +kernel
theorem fl_X7_67 : Cond.fieldLink RX7 67 "LateGlass$House" "start" "I" ∈ tblG := tg 162 (by decide +kernel) (by decide +kernel)
theorem fl_X7_42 : Cond.fieldLink RX7 42 "LateGlass$House" "sightings" "LLateGlass$Table;" ∈ tblG := tg 179 (by decide +kernel) (by decide +kernel)
theorem fl_X7_48 : Cond.fieldLink RX7 48 "LateGlass$Table" "rows" "I" ∈ tblG := tg 137 (by decide +kernel) (by decide +kernel)
theorem ml_X7_72 : Cond.methodLink RX7 72 yX6_get ∈ tblG := tg 968 (by decide +kernel) (by decide +kernel)
theorem gV_X7_72 : GoodIn tblG (wsV RX7 72 RX6 yX6_get (wsG yX6_get cX6_get 3 (some .int))) := tgV ml_X7_72 im_X6_get se_X6_get ini_X6 gW_X6_get
theorem ml_X7_76 : Cond.methodLink RX7 76 yX5_run ∈ tblG := tg 969 (by decide +kernel) (by decide +kernel)
theorem gV_X7_76 : GoodIn tblG (wsV RX7 76 RX5 yX5_run (wsG yX5_run cX5_run 9 none)) := tgV ml_X7_76 im_X5_run se_X5_run ini_X5 gW_X5_run
theorem ml_X7_86 : Cond.methodLink RX7 86 yX7_barPoints ∈ tblG := tg 974 (by decide +kernel) (by decide +kernel)
theorem im_X7_barPoints : Cond.instanceMethod yX7_barPoints ∈ tblG := tg 975 (by decide +kernel) (by decide +kernel)
theorem se_X7_barPoints : Cond.selects RX7 yX7_barPoints yX7_barPoints ∈ tblG := tg 976 (by decide +kernel) (by decide +kernel)
theorem cd_X7_barPoints : Cond.code yX7_barPoints cX7_barPoints 2 none ∈ tblG := tg 977 (by decide +kernel) (by decide +kernel)
theorem gW_X7_barPoints : GoodIn tblG (wsG yX7_barPoints cX7_barPoints 2 none) := tgi cd_X7_barPoints
theorem gV_X7_86 : GoodIn tblG (wsV RX7 86 RX7 yX7_barPoints (wsG yX7_barPoints cX7_barPoints 2 none)) := tgV ml_X7_86 im_X7_barPoints se_X7_barPoints ini_X7 gW_X7_barPoints
theorem hv_X7_barPoints : yX7_barPoints.cls = RX7 ∧ yX7_barPoints.cls ≠ "java/lang/invoke/MethodHandle" ∧ yX7_barPoints.cls ≠ "java/lang/invoke/VarHandle" ∧ (parseMethodDescriptor yX7_barPoints.desc).map (fun d => d.parameters.length) = some 0 := by decide +kernel
theorem ml_X7_82 : Cond.methodLink RX7 82 yX7_addPoints ∈ tblG := tg 970 (by decide +kernel) (by decide +kernel)
theorem im_X7_addPoints : Cond.instanceMethod yX7_addPoints ∈ tblG := tg 972 (by decide +kernel) (by decide +kernel)
theorem se_X7_addPoints : Cond.selects RX7 yX7_addPoints yX7_addPoints ∈ tblG := tg 20 (by decide +kernel) (by decide +kernel)
theorem cd_X7_addPoints : Cond.code yX7_addPoints cX7_addPoints 3 none ∈ tblG := tg 973 (by decide +kernel) (by decide +kernel)
theorem gW_X7_addPoints : GoodIn tblG (wsG yX7_addPoints cX7_addPoints 3 none) := tgi cd_X7_addPoints
theorem gV_X7_82 : GoodIn tblG (wsV RX7 82 RX7 yX7_addPoints (wsG yX7_addPoints cX7_addPoints 3 none)) := tgV ml_X7_82 im_X7_addPoints se_X7_addPoints ini_X7 gW_X7_addPoints
theorem hv_X7_addPoints : yX7_addPoints.cls = RX7 ∧ yX7_addPoints.cls ≠ "java/lang/invoke/MethodHandle" ∧ yX7_addPoints.cls ≠ "java/lang/invoke/VarHandle" ∧ (parseMethodDescriptor yX7_addPoints.desc).map (fun d => d.parameters.length) = some 1 := by decide +kernel
theorem kl_X7_70 : Cond.constantLong RX7 70 (-1) ∈ tblG := tg 967 (by decide +kernel) (by decide +kernel)
set_option maxHeartbeats 4000000 in
set_option maxRecDepth 100000 in
theorem th_loadN (l : Launch) (G : g5_G) (a_k a_h a_g a_gn a_b a_bn a_p a_pn a_s a_sn a_bb a_j a_as a_sk a_l a_pt a_th a_ba a_ad a_w a_cn a_nx a_hp a_hl a_lv : Nat) (sz : Nat) (e_le : Int32) (e_st : Int32) (e_fo : Int32) (e_lc : Int32) (e_g : Int32) (e_b : Int32) (e_p : Int32) (e_s : Int32) (e_ln : Int32) (e_se : Int32) (e_lh : Int32) (e_br : Int32) (e_we : Int32) (e_me : Int32) (e_ce : Int32) (e_wy : Int32) (e_ho : Int32) (e_ov : Int32) (e_fu : Int32) (p_s : Int32) (e_wa : Int64) (e_gb : Int64) (f_g : Nat → Int32) (f_b : Nat → Int32) (f_p : Nat → Int32) (f_s : Nat → Int32) (f_bb : Nat → Int64) (f_as : Nat → Int32) (f_sk : Nat → Int64) (f_l : Nat → Option Nat) (f_pt : Nat → Int32) (f_ba : Nat → Int64) (f_ad : Nat → Int32) (h_e_g : 0 ≤ e_g.toInt ∧ e_g.toInt ≤ 6) (h_e_b : 0 ≤ e_b.toInt ∧ e_b.toInt ≤ 5) (h_e_p : 0 ≤ e_p.toInt ∧ e_p.toInt ≤ 8) (h_e_s : 0 ≤ e_s.toInt ∧ e_s.toInt ≤ 10) (h_e_ov : 0 ≤ e_ov.toInt ∧ e_ov.toInt ≤ 1) (e_gk : gOK f_g e_g.toInt) (e_pk : gOK f_p e_p.toInt) (e_gi : inT e_gb f_g e_g.toInt) (e_sh : ∀ r : Int, 0 ≤ r → r < e_s.toInt → 0 ≤ (tget f_s e_s.toInt 4 r (3 : Int32).toInt).toInt ∧ (tget f_s e_s.toInt 4 r (3 : Int32).toInt).toInt ≤ 1) (e_s5 : snS f_s e_s.toInt e_s.toInt.toNat ≤ 5) (e_f : e_fo.toInt < 0 ∨ e_lc.toInt ≤ e_fo.toInt) : Met l yX7_load (wsG yX7_load cX7_load 5 none) ({ frames := 14, cells := 0, slots := 0, locals := 556 }) (va_Pc [.ref a_th, .int p_s] (g5_P G [(a_k, (oc5 a_h a_j a_pt e_ln e_se e_lh e_br e_we e_me e_ce e_wy e_ho e_ov)), (a_h, (oc1 e_wa e_le e_st e_fo e_lc a_l a_g a_b a_s a_p a_w e_gb a_bb)), (a_g, (oc6 6 5 a_gn e_g)), (a_gn, (arI G 30 f_g)), (a_b, (oc6 5 24 a_bn e_b)), (a_bn, (arI G 120 f_b)), (a_p, (oc6 8 5 a_pn e_p)), (a_pn, (arI G 40 f_p)), (a_s, (oc6 10 4 a_sn e_s)), (a_sn, (arI G 40 f_s)), (a_bb, (arJ G 24 f_bb)), (a_j, (oc2 a_as a_sk)), (a_as, (arI G 8 f_as)), (a_sk, (arJ G 50 f_sk)), (a_l, (arW G 6 f_l)), (a_pt, (arI G 200 f_pt)), (a_th, (oc7 a_h a_k a_ba a_ad e_fu a_cn a_nx a_hp a_hl a_lv)), (a_ba, (arJ G 24 f_ba)), (a_ad, (arI G 1536 f_ad))] sz)) (va_Qv (fun (u : va_W) => (∃ (o_ln : Int32) (o_se : Int32) (o_lh : Int32) (o_br : Int32) (o_we : Int32) (o_me : Int32) (o_ce : Int32) (o_wy : Int32) (o_ho : Int32) (o_ov : Int32) (o_pt : Nat → Int32) (o_as : Nat → Int32) (o_sk : Nat → Int64) (o_fu : Int32) (o_ba : Nat → Int64) (o_ad : Nat → Int32), (0 ≤ o_ov.toInt ∧ o_ov.toInt ≤ 1) ∧ (TOK o_fu o_ad) ∧ (u = [(a_k, (oc5 a_h a_j a_pt o_ln o_se o_lh o_br o_we o_me o_ce o_wy o_ho o_ov)), (a_h, (oc1 e_wa e_le e_st e_fo e_lc a_l a_g a_b a_s a_p a_w e_gb a_bb)), (a_g, (oc6 6 5 a_gn e_g)), (a_gn, (arI G 30 f_g)), (a_b, (oc6 5 24 a_bn e_b)), (a_bn, (arI G 120 f_b)), (a_p, (oc6 8 5 a_pn e_p)), (a_pn, (arI G 40 f_p)), (a_s, (oc6 10 4 a_sn e_s)), (a_sn, (arI G 40 f_s)), (a_bb, (arJ G 24 f_bb)), (a_j, (oc2 a_as a_sk)), (a_as, (arI G 8 o_as)), (a_sk, (arJ G 50 o_sk)), (a_l, (arW G 6 f_l)), (a_pt, (arI G 200 o_pt)), (a_th, (oc7 a_h a_k a_ba a_ad o_fu a_cn a_nx a_hp a_hl a_lv)), (a_ba, (arJ G 24 o_ba)), (a_ad, (arI G 1536 o_ad))]))) (g5_B G (va_A [(a_k, (oc5 a_h a_j a_pt e_ln e_se e_lh e_br e_we e_me e_ce e_wy e_ho e_ov)), (a_h, (oc1 e_wa e_le e_st e_fo e_lc a_l a_g a_b a_s a_p a_w e_gb a_bb)), (a_g, (oc6 6 5 a_gn e_g)), (a_gn, (arI G 30 f_g)), (a_b, (oc6 5 24 a_bn e_b)), (a_bn, (arI G 120 f_b)), (a_p, (oc6 8 5 a_pn e_p)), (a_pn, (arI G 40 f_p)), (a_s, (oc6 10 4 a_sn e_s)), (a_sn, (arI G 40 f_s)), (a_bb, (arJ G 24 f_bb)), (a_j, (oc2 a_as a_sk)), (a_as, (arI G 8 f_as)), (a_sk, (arJ G 50 f_sk)), (a_l, (arW G 6 f_l)), (a_pt, (arI G 200 f_pt)), (a_th, (oc7 a_h a_k a_ba a_ad e_fu a_cn a_nx a_hp a_hl a_lv)), (a_ba, (arJ G 24 f_ba)), (a_ad, (arI G 1536 f_ad))] sz)) (va_A [(a_k, (oc5 a_h a_j a_pt e_ln e_se e_lh e_br e_we e_me e_ce e_wy e_ho e_ov)), (a_h, (oc1 e_wa e_le e_st e_fo e_lc a_l a_g a_b a_s a_p a_w e_gb a_bb)), (a_g, (oc6 6 5 a_gn e_g)), (a_gn, (arI G 30 f_g)), (a_b, (oc6 5 24 a_bn e_b)), (a_bn, (arI G 120 f_b)), (a_p, (oc6 8 5 a_pn e_p)), (a_pn, (arI G 40 f_p)), (a_s, (oc6 10 4 a_sn e_s)), (a_sn, (arI G 40 f_s)), (a_bb, (arJ G 24 f_bb)), (a_j, (oc2 a_as a_sk)), (a_as, (arI G 8 f_as)), (a_sk, (arJ G 50 f_sk)), (a_l, (arW G 6 f_l)), (a_pt, (arI G 200 f_pt)), (a_th, (oc7 a_h a_k a_ba a_ad e_fu a_cn a_nx a_hp a_hl a_lv)), (a_ba, (arJ G 24 f_ba)), (a_ad, (arI G 1536 f_ad))] sz)) 0 0 (va_A [(a_k, (oc5 a_h a_j a_pt e_ln e_se e_lh e_br e_we e_me e_ce e_wy e_ho e_ov)), (a_h, (oc1 e_wa e_le e_st e_fo e_lc a_l a_g a_b a_s a_p a_w e_gb a_bb)), (a_g, (oc6 6 5 a_gn e_g)), (a_gn, (arI G 30 f_g)), (a_b, (oc6 5 24 a_bn e_b)), (a_bn, (arI G 120 f_b)), (a_p, (oc6 8 5 a_pn e_p)), (a_pn, (arI G 40 f_p)), (a_s, (oc6 10 4 a_sn e_s)), (a_sn, (arI G 40 f_s)), (a_bb, (arJ G 24 f_bb)), (a_j, (oc2 a_as a_sk)), (a_as, (arI G 8 f_as)), (a_sk, (arJ G 50 f_sk)), (a_l, (arW G 6 f_l)), (a_pt, (arI G 200 f_pt)), (a_th, (oc7 a_h a_k a_ba a_ad e_fu a_cn a_nx a_hp a_hl a_lv)), (a_ba, (arJ G 24 f_ba)), (a_ad, (arI G 1536 f_ad))] sz) := by
  refine Met.ofW (cc := cX7_load) (maxL := 5) (ret := none) (by decide +kernel) rfl ?_
  intro p e s m args below meth c s₁ B hml hv
  obtain ⟨rfl, hsz, hP, hK, hD0, hN, hT⟩ := hv
  have hx := B.exec
  have hb := B.bytes
  have hr := B.returns
  have hts : ∀ w ∈ tblG, w.before _ s = true := fun w h => atoms_spec (ws := (wsG yX7_load cX7_load 5 none)) B.pre w (List.mem_cons_of_mem _ h)
  have hown : s.vm.findClass RX7 = some m.cls := findClass_of_methodNamed B.named
  have hlocks := B.notSynchronized
  subst hsz
  have hD := hD0.self (sz := s.heap.size)
  generalize hAe : va_A [(a_k, (oc5 a_h a_j a_pt e_ln e_se e_lh e_br e_we e_me e_ce e_wy e_ho e_ov)), (a_h, (oc1 e_wa e_le e_st e_fo e_lc a_l a_g a_b a_s a_p a_w e_gb a_bb)), (a_g, (oc6 6 5 a_gn e_g)), (a_gn, (arI G 30 f_g)), (a_b, (oc6 5 24 a_bn e_b)), (a_bn, (arI G 120 f_b)), (a_p, (oc6 8 5 a_pn e_p)), (a_pn, (arI G 40 f_p)), (a_s, (oc6 10 4 a_sn e_s)), (a_sn, (arI G 40 f_s)), (a_bb, (arJ G 24 f_bb)), (a_j, (oc2 a_as a_sk)), (a_as, (arI G 8 f_as)), (a_sk, (arJ G 50 f_sk)), (a_l, (arW G 6 f_l)), (a_pt, (arI G 200 f_pt)), (a_th, (oc7 a_h a_k a_ba a_ad e_fu a_cn a_nx a_hp a_hl a_lv)), (a_ba, (arJ G 24 f_ba)), (a_ad, (arI G 1536 f_ad))] s.heap.size = A at hD hT ⊢
  have hA : ∀ q : Nat, s.heap.size ≤ q → A q := fun q h => by rw [← hAe]; exact Or.inr h
  have hS : va_S A s.heap s.heap [] := va_S.rf
  replace hP : va_P G.1 vwCl [(a_k, (oc5 a_h a_j a_pt e_ln e_se e_lh e_br e_we e_me e_ce e_wy e_ho e_ov)), (a_h, (oc1 e_wa e_le e_st e_fo e_lc a_l a_g a_b a_s a_p a_w e_gb a_bb)), (a_g, (oc6 6 5 a_gn e_g)), (a_gn, (arI G 30 f_g)), (a_b, (oc6 5 24 a_bn e_b)), (a_bn, (arI G 120 f_b)), (a_p, (oc6 8 5 a_pn e_p)), (a_pn, (arI G 40 f_p)), (a_s, (oc6 10 4 a_sn e_s)), (a_sn, (arI G 40 f_s)), (a_bb, (arJ G 24 f_bb)), (a_j, (oc2 a_as a_sk)), (a_as, (arI G 8 f_as)), (a_sk, (arJ G 50 f_sk)), (a_l, (arW G 6 f_l)), (a_pt, (arI G 200 f_pt)), (a_th, (oc7 a_h a_k a_ba a_ad e_fu a_cn a_nx a_hp a_hl a_lv)), (a_ba, (arJ G 24 f_ba)), (a_ad, (arI G 1536 f_ad))] s.heap := hP
  have hl := lv_entry ([.ref a_th, .int p_s]) (n := 5) (Nat.le_of_ble_eq_true rfl)
  rw [lg_entry_eq]
  generalize (lg_sl ([.ref a_th, .int p_s]) ++ List.replicate (5 - (lg_sl ([.ref a_th, .int p_s])).length) Slot.unset).toArray = ls at hl ⊢
  replace hl : lv_has ls 5 [(0, .ref a_th), (1, .int p_s)] := hl
  refine lv_aload_n hx hb dX7_load_0 rfl (lv_at hl 0 rfl) ?_
  refine va_get (D := G.1) (ci := 7) (v := .ref a_ba) (C := RX7) (T := TX7) (N := 10) hx hb hts inG_X7 hown hK hP 16 rfl rfl 2 (by decide +kernel) (hts _ fl_X7_9) (fun _ h9 => h9) rfl dX7_load_1 ?_
  refine lv_aload_n hx hb dX7_load_4 rfl (lv_at hl 0 rfl) ?_
  refine va_get (D := G.1) (ci := 7) (v := .ref a_h) (C := RX7) (T := TX7) (N := 10) hx hb hts inG_X7 hown hK hP 16 rfl rfl 0 (by decide +kernel) (hts _ fl_X7_34) (fun _ h9 => h9) rfl dX7_load_5 ?_
  refine W.eq (g2 := F0 m 8 ls [.ref a_h, .ref a_ba]) rfl ?_
  refine va_get (D := G.1) (ci := 1) (v := .long e_wa) (C := RX1) (T := TX1) (N := 13) hx hb hts inG_X1 hown hK hP 1 rfl rfl 0 (by decide +kernel) (hts _ fl_X7_54) (fun _ h9 => h9) rfl dX7_load_8 ?_
  obtain ⟨hPc, hDc, hFc⟩ := g5_sub3 (wc := [(a_ba, (arJ G 24 f_ba))]) hP hD hS hA [17] (by decide +kernel) rfl
  refine va_callv (va_runS (As := [.ref a_ba, .long e_wa]) (rest := []) ⟨hx, hb, hml, hown, hts⟩ (k_fillJ24 l G a_ba s.heap.size e_wa f_ba) (va_cwS 2 hts gS_X7_58 rfl rfl rfl hs_J7_fill_d0a16 ⟨Nat.le_of_ble_eq_true rfl, Nat.le_of_ble_eq_true rfl⟩) (g5_preS hPc hK hDc hN hT hS hFc) rfl rfl hl.1 rfl (lv_room (Nat.le_of_ble_eq_true rfl)) dX7_load_11 ⟨Nat.le_of_ble_eq_true rfl, Nat.le_of_ble_eq_true rfl⟩) hS (fun q _ h => hFc q h) hFc (fun u t H locs ht hvm hw hB hz1 hk1 hS => ?_)
  obtain ⟨hP1, hD1⟩ := hB
  have hP1 := g5_ht ht hP1
  obtain rfl := hw
  have hJ9 := va_join (wr := [(a_k, (oc5 a_h a_j a_pt e_ln e_se e_lh e_br e_we e_me e_ce e_wy e_ho e_ov)), (a_h, (oc1 e_wa e_le e_st e_fo e_lc a_l a_g a_b a_s a_p a_w e_gb a_bb)), (a_g, (oc6 6 5 a_gn e_g)), (a_gn, (arI G 30 f_g)), (a_b, (oc6 5 24 a_bn e_b)), (a_bn, (arI G 120 f_b)), (a_p, (oc6 8 5 a_pn e_p)), (a_pn, (arI G 40 f_p)), (a_s, (oc6 10 4 a_sn e_s)), (a_sn, (arI G 40 f_s)), (a_bb, (arJ G 24 f_bb)), (a_j, (oc2 a_as a_sk)), (a_as, (arI G 8 f_as)), (a_sk, (arJ G 50 f_sk)), (a_l, (arW G 6 f_l)), (a_pt, (arI G 200 f_pt)), (a_th, (oc7 a_h a_k a_ba a_ad e_fu a_cn a_nx a_hp a_hl a_lv)), (a_ad, (arI G 1536 f_ad))]) hP hD [17] [0, 1, 2, 3, 4, 5, 6, 7, 8, 9, 10, 11, 12, 13, 14, 15, 16, 18] rfl rfl (by decide +kernel) (by decide +kernel) hk1 hFc hP1 hD1
  clear hP hD hPc hDc hFc ht hvm hz1 hk1 hP1 hD1
  obtain ⟨hP, hD⟩ := hJ9
  refine g5_rs [(a_k, (oc5 a_h a_j a_pt e_ln e_se e_lh e_br e_we e_me e_ce e_wy e_ho e_ov)), (a_h, (oc1 e_wa e_le e_st e_fo e_lc a_l a_g a_b a_s a_p a_w e_gb a_bb)), (a_g, (oc6 6 5 a_gn e_g)), (a_gn, (arI G 30 f_g)), (a_b, (oc6 5 24 a_bn e_b)), (a_bn, (arI G 120 f_b)), (a_p, (oc6 8 5 a_pn e_p)), (a_pn, (arI G 40 f_p)), (a_s, (oc6 10 4 a_sn e_s)), (a_sn, (arI G 40 f_s)), (a_bb, (arJ G 24 f_bb)), (a_j, (oc2 a_as a_sk)), (a_as, (arI G 8 f_as)), (a_sk, (arJ G 50 f_sk)), (a_l, (arW G 6 f_l)), (a_pt, (arI G 200 f_pt)), (a_th, (oc7 a_h a_k a_ba a_ad e_fu a_cn a_nx a_hp a_hl a_lv)), (a_ad, (arI G 1536 f_ad)), (a_ba, (arJ G 24 (fun _ => e_wa)))] hP hD ?_
  clear hP hD
  intro hP hD
  refine lv_aload_n hx hb dX7_load_14 rfl (lv_at hl 0 rfl) ?_
  refine va_get (D := G.1) (ci := 7) (v := .ref a_ad) (C := RX7) (T := TX7) (N := 10) hx hb hts inG_X7 hown hK hP 16 rfl rfl 3 (by decide +kernel) (hts _ fl_X7_15) (fun _ h9 => h9) rfl dX7_load_15 ?_
  refine lv_iconst (v := 0) hx hb dX7_load_18 (by decide +kernel) ?_
  refine W.eq (g2 := F0 m 19 ls [.int 0, .ref a_ad]) rfl ?_
  obtain ⟨hPc, hDc, hFc⟩ := g5_sub3 (wc := [(a_ad, (arI G 1536 f_ad))]) hP hD hS hA [17] (by decide +kernel) rfl
  refine va_callv (va_runS (As := [.ref a_ad, .int 0]) (rest := []) ⟨hx, hb, hml, hown, hts⟩ (k_fillI1536 l G a_ad H.size 0 f_ad) (va_cwS 2 hts gS_X7_64 rfl rfl rfl hs_J7_fill_53178 ⟨Nat.le_of_ble_eq_true rfl, Nat.le_of_ble_eq_true rfl⟩) (g5_preS hPc hK hDc hN hT hS hFc) rfl rfl hl.1 rfl (lv_room (Nat.le_of_ble_eq_true rfl)) dX7_load_19 ⟨Nat.le_of_ble_eq_true rfl, Nat.le_of_ble_eq_true rfl⟩) hS (fun q _ h => hFc q h) hFc (fun u t H locs ht hvm hw hB hz1 hk1 hS => ?_)
  obtain ⟨hP1, hD1⟩ := hB
  have hP1 := g5_ht ht hP1
  obtain rfl := hw
  have hJ9 := va_join (wr := [(a_k, (oc5 a_h a_j a_pt e_ln e_se e_lh e_br e_we e_me e_ce e_wy e_ho e_ov)), (a_h, (oc1 e_wa e_le e_st e_fo e_lc a_l a_g a_b a_s a_p a_w e_gb a_bb)), (a_g, (oc6 6 5 a_gn e_g)), (a_gn, (arI G 30 f_g)), (a_b, (oc6 5 24 a_bn e_b)), (a_bn, (arI G 120 f_b)), (a_p, (oc6 8 5 a_pn e_p)), (a_pn, (arI G 40 f_p)), (a_s, (oc6 10 4 a_sn e_s)), (a_sn, (arI G 40 f_s)), (a_bb, (arJ G 24 f_bb)), (a_j, (oc2 a_as a_sk)), (a_as, (arI G 8 f_as)), (a_sk, (arJ G 50 f_sk)), (a_l, (arW G 6 f_l)), (a_pt, (arI G 200 f_pt)), (a_th, (oc7 a_h a_k a_ba a_ad e_fu a_cn a_nx a_hp a_hl a_lv)), (a_ba, (arJ G 24 (fun _ => e_wa)))]) hP hD [17] [0, 1, 2, 3, 4, 5, 6, 7, 8, 9, 10, 11, 12, 13, 14, 15, 16, 18] rfl rfl (by decide +kernel) (by decide +kernel) hk1 hFc hP1 hD1
  clear hP hD hPc hDc hFc ht hvm hz1 hk1 hP1 hD1
  obtain ⟨hP, hD⟩ := hJ9
  refine g5_rs [(a_k, (oc5 a_h a_j a_pt e_ln e_se e_lh e_br e_we e_me e_ce e_wy e_ho e_ov)), (a_h, (oc1 e_wa e_le e_st e_fo e_lc a_l a_g a_b a_s a_p a_w e_gb a_bb)), (a_g, (oc6 6 5 a_gn e_g)), (a_gn, (arI G 30 f_g)), (a_b, (oc6 5 24 a_bn e_b)), (a_bn, (arI G 120 f_b)), (a_p, (oc6 8 5 a_pn e_p)), (a_pn, (arI G 40 f_p)), (a_s, (oc6 10 4 a_sn e_s)), (a_sn, (arI G 40 f_s)), (a_bb, (arJ G 24 f_bb)), (a_j, (oc2 a_as a_sk)), (a_as, (arI G 8 f_as)), (a_sk, (arJ G 50 f_sk)), (a_l, (arW G 6 f_l)), (a_pt, (arI G 200 f_pt)), (a_th, (oc7 a_h a_k a_ba a_ad e_fu a_cn a_nx a_hp a_hl a_lv)), (a_ba, (arJ G 24 (fun _ => e_wa))), (a_ad, (arI G 1536 (fun _ => (0 : Int32))))] hP hD ?_
  clear hP hD
  intro hP hD
  refine lv_aload_n hx hb dX7_load_22 rfl (lv_at hl 0 rfl) ?_
  refine va_get (D := G.1) (ci := 7) (v := .ref a_h) (C := RX7) (T := TX7) (N := 10) hx hb hts inG_X7 hown hK hP 16 rfl rfl 0 (by decide +kernel) (hts _ fl_X7_34) (fun _ h9 => h9) rfl dX7_load_23 ?_
  refine va_get (D := G.1) (ci := 1) (v := .int e_st) (C := RX1) (T := TX1) (N := 13) hx hb hts inG_X1 hown hK hP 1 rfl rfl 2 (by decide +kernel) (hts _ fl_X7_67) (fun _ h9 => h9) rfl dX7_load_26 ?_
  refine lv_iconst (v := (-1)) hx hb dX7_load_29 (by decide +kernel) ?_
  refine W.eq (g2 := F0 m 30 ls [.int (-1), .int e_st]) rfl ?_
  refine lv_icmp_eq (tgt := 55) hx hb dX7_load_30 (by decide +kernel) (fun c_1 => ?_) (fun c_1 => ?_)
  ·
    have i_1 : e_st.toInt = (-1) := g5_eq (a := e_st.toInt) (b := (-1)) rfl (by decide +kernel) c_1
    refine lv_iconst (v := 1) hx hb dX7_load_55 (by decide +kernel) ?_
    refine lv_istore_n (lv' := [(2, .int 1), (0, .ref a_th), (1, .int p_s)]) hx hb dX7_load_56 rfl hl (by decide +kernel) rfl ?_
    clear hl
    intro ls hl
    refine lv_aload_n hx hb dX7_load_57 rfl (lv_at hl 1 rfl) ?_
    refine va_get (D := G.1) (ci := 7) (v := .ref a_h) (C := RX7) (T := TX7) (N := 10) hx hb hts inG_X7 hown hK hP 16 rfl rfl 0 (by decide +kernel) (hts _ fl_X7_34) (fun _ h9 => h9) rfl dX7_load_58 ?_
    refine W.eq (g2 := F0 m 61 ls [.ref a_h]) rfl ?_
    refine va_get (D := G.1) (ci := 1) (v := .ref a_s) (C := RX1) (T := TX1) (N := 13) hx hb hts inG_X1 hown hK hP 1 rfl rfl 8 (by decide +kernel) (hts _ fl_X7_42) (fun _ h9 => h9) rfl dX7_load_61 ?_
    refine lv_astore_n (lv' := [(3, .ref a_s), (2, .int 1), (0, .ref a_th), (1, .int p_s)]) hx hb dX7_load_64 rfl hl (by decide +kernel) rfl ?_
    clear hl
    intro ls hl
    refine lv_iconst (v := 0) hx hb dX7_load_65 (by decide +kernel) ?_
    refine lv_istore (lv' := [(4, .int 0), (3, .ref a_s), (2, .int 1), (0, .ref a_th), (1, .int p_s)]) hx hb dX7_load_66 hl (by decide +kernel) rfl ?_
    clear hl
    intro ls hl
    refine g5_loop (α := (Int32) × (Int32) × (Int32) × (Int32) × (Int32) × (Int32) × (Int32) × (Int32) × (Int32) × (Int32) × (Int32) × (Nat → Int32) × (Nat → Int32) × (Nat → Int64) × (Int32) × (Nat → Int64) × (Nat → Int32)) (fun (q : (Int32) × (Int32) × (Int32) × (Int32) × (Int32) × (Int32) × (Int32) × (Int32) × (Int32) × (Int32) × (Int32) × (Nat → Int32) × (Nat → Int32) × (Nat → Int64) × (Int32) × (Nat → Int64) × (Nat → Int32)) (ls : Array Slot) (H : Heap) (locs : List Loc) => match q with | (k_b, k_i, k_se, k_lh, k_br, k_we, k_me, k_ce, k_wy, k_ho, k_ov, k_pt, k_as, k_sk, k_ln, k_ba, k_ad) => lv_has ls 5 [(2, .int k_b), (4, .int k_i), (3, .ref a_s), (0, .ref a_th), (1, .int p_s)] ∧ va_P G.1 vwCl [(a_k, (oc5 a_h a_j a_pt k_ln k_se k_lh k_br k_we k_me k_ce k_wy k_ho k_ov)), (a_h, (oc1 e_wa e_le e_st e_fo e_lc a_l a_g a_b a_s a_p a_w e_gb a_bb)), (a_g, (oc6 6 5 a_gn e_g)), (a_gn, (arI G 30 f_g)), (a_b, (oc6 5 24 a_bn e_b)), (a_bn, (arI G 120 f_b)), (a_p, (oc6 8 5 a_pn e_p)), (a_pn, (arI G 40 f_p)), (a_s, (oc6 10 4 a_sn e_s)), (a_sn, (arI G 40 f_s)), (a_bb, (arJ G 24 f_bb)), (a_j, (oc2 a_as a_sk)), (a_as, (arI G 8 k_as)), (a_sk, (arJ G 50 k_sk)), (a_l, (arW G 6 f_l)), (a_pt, (arI G 200 k_pt)), (a_th, (oc7 a_h a_k a_ba a_ad e_fu a_cn a_nx a_hp a_hl a_lv)), (a_ba, (arJ G 24 k_ba)), (a_ad, (arI G 1536 k_ad))] H ∧ va_D A [(a_k, (oc5 a_h a_j a_pt k_ln k_se k_lh k_br k_we k_me k_ce k_wy k_ho k_ov)), (a_h, (oc1 e_wa e_le e_st e_fo e_lc a_l a_g a_b a_s a_p a_w e_gb a_bb)), (a_g, (oc6 6 5 a_gn e_g)), (a_gn, (arI G 30 f_g)), (a_b, (oc6 5 24 a_bn e_b)), (a_bn, (arI G 120 f_b)), (a_p, (oc6 8 5 a_pn e_p)), (a_pn, (arI G 40 f_p)), (a_s, (oc6 10 4 a_sn e_s)), (a_sn, (arI G 40 f_s)), (a_bb, (arJ G 24 f_bb)), (a_j, (oc2 a_as a_sk)), (a_as, (arI G 8 k_as)), (a_sk, (arJ G 50 k_sk)), (a_l, (arW G 6 f_l)), (a_pt, (arI G 200 k_pt)), (a_th, (oc7 a_h a_k a_ba a_ad e_fu a_cn a_nx a_hp a_hl a_lv)), (a_ba, (arJ G 24 k_ba)), (a_ad, (arI G 1536 k_ad))] ∧ va_S A s.heap H locs ∧ (0 ≤ k_i.toInt ∧ k_i.toInt ≤ 10) ∧ (0 ≤ k_ov.toInt ∧ k_ov.toInt ≤ 1) ∧ (k_i.toInt ≤ e_s.toInt) ∧ (LDI f_s e_s.toInt k_i.toInt k_b k_ad)) (fun (q : (Int32) × (Int32) × (Int32) × (Int32) × (Int32) × (Int32) × (Int32) × (Int32) × (Int32) × (Int32) × (Int32) × (Nat → Int32) × (Nat → Int32) × (Nat → Int64) × (Int32) × (Nat → Int64) × (Nat → Int32)) => match q with | (k_b, k_i, k_se, k_lh, k_br, k_we, k_me, k_ce, k_wy, k_ho, k_ov, k_pt, k_as, k_sk, k_ln, k_ba, k_ad) => Int.toNat (10 - k_i.toInt)) (1, 0, e_se, e_lh, e_br, e_we, e_me, e_ce, e_wy, e_ho, e_ov, f_pt, f_as, f_sk, e_ln, (fun _ => e_wa), (fun _ => (0 : Int32))) ⟨lv_sub hl [2, 0, 1, 3, 4] rfl, hP, hD, hS, ⟨by decide, by decide⟩, h_e_ov, by have z0 : (0 : Int32).toInt = 0 := (by decide +kernel); omega, ld_0⟩ ?_
    rintro ⟨k_b, k_i, k_se, k_lh, k_br, k_we, k_me, k_ce, k_wy, k_ho, k_ov, k_pt, k_as, k_sk, k_ln, k_ba, k_ad⟩ ls H locs ⟨hl, hP, hD, hS, (i_2 : 0 ≤ k_i.toInt ∧ k_i.toInt ≤ 10), (i_3 : 0 ≤ k_ov.toInt ∧ k_ov.toInt ≤ 1), (i_4 : k_i.toInt ≤ e_s.toInt), (i_5 : LDI f_s e_s.toInt k_i.toInt k_b k_ad)⟩ ih_68_6
    replace hl : lv_has ls 5 [(2, .int k_b), (4, .int k_i), (3, .ref a_s), (0, .ref a_th), (1, .int p_s)] := hl
    refine g5_rs [(a_k, (oc5 a_h a_j a_pt k_ln k_se k_lh k_br k_we k_me k_ce k_wy k_ho k_ov)), (a_h, (oc1 e_wa e_le e_st e_fo e_lc a_l a_g a_b a_s a_p a_w e_gb a_bb)), (a_g, (oc6 6 5 a_gn e_g)), (a_gn, (arI G 30 f_g)), (a_b, (oc6 5 24 a_bn e_b)), (a_bn, (arI G 120 f_b)), (a_p, (oc6 8 5 a_pn e_p)), (a_pn, (arI G 40 f_p)), (a_s, (oc6 10 4 a_sn e_s)), (a_sn, (arI G 40 f_s)), (a_bb, (arJ G 24 f_bb)), (a_j, (oc2 a_as a_sk)), (a_as, (arI G 8 k_as)), (a_sk, (arJ G 50 k_sk)), (a_l, (arW G 6 f_l)), (a_pt, (arI G 200 k_pt)), (a_th, (oc7 a_h a_k a_ba a_ad e_fu a_cn a_nx a_hp a_hl a_lv)), (a_ba, (arJ G 24 k_ba)), (a_ad, (arI G 1536 k_ad))] hP hD ?_
    clear hP hD
    intro hP hD
    refine lv_iload hx hb dX7_load_68 (lv_at hl 1 rfl) ?_
    refine lv_aload_n hx hb dX7_load_70 rfl (lv_at hl 2 rfl) ?_
    refine va_get (D := G.1) (ci := 6) (v := .int e_s) (C := RX6) (T := TX6) (N := 4) hx hb hts inG_X6 hown hK hP 8 rfl rfl 3 (by decide +kernel) (hts _ fl_X7_48) (fun _ h9 => h9) rfl dX7_load_71 ?_
    refine lv_icmp_ge (tgt := 148) hx hb dX7_load_74 (by decide +kernel) (fun c_7 => ?_) (fun c_7 => ?_)
    ·
      have i_7 : k_i.toInt ≥ e_s.toInt := g5_ge (a := k_i.toInt) (b := e_s.toInt) rfl rfl c_7
      refine lv_aload_n hx hb dX7_load_148 rfl (lv_at hl 3 rfl) ?_
      refine lv_iload_n hx hb dX7_load_149 rfl (lv_at hl 0 rfl) ?_
      refine lv_iconst (v := 1) hx hb dX7_load_150 (by decide +kernel) ?_
      refine lv_isub hx hb dX7_load_151 ?_
      refine W.eq (g2 := F0 m 152 ls [.int (k_b - 1), .ref a_th]) rfl ?_
      refine va_put (D := G.1) (ci := 7) (v := .int (k_b - 1)) (ty := .int) (C := RX7) (T := TX7) (N := 10) hx hb hts inG_X7 tyX7 tyX7_ok nmX7 hown hK hP hD hS 16 rfl rfl 4 (by decide +kernel) (hts _ fl_X7_89) (fun _ h9 => h9) rfl (by decide +kernel) rfl rfl (Nat.le_of_ble_eq_true rfl) dX7_load_152 ?_
      clear hP hD hS
      intro H locs hP hD hS
      refine g5_rs [(a_k, (oc5 a_h a_j a_pt k_ln k_se k_lh k_br k_we k_me k_ce k_wy k_ho k_ov)), (a_h, (oc1 e_wa e_le e_st e_fo e_lc a_l a_g a_b a_s a_p a_w e_gb a_bb)), (a_g, (oc6 6 5 a_gn e_g)), (a_gn, (arI G 30 f_g)), (a_b, (oc6 5 24 a_bn e_b)), (a_bn, (arI G 120 f_b)), (a_p, (oc6 8 5 a_pn e_p)), (a_pn, (arI G 40 f_p)), (a_s, (oc6 10 4 a_sn e_s)), (a_sn, (arI G 40 f_s)), (a_bb, (arJ G 24 f_bb)), (a_j, (oc2 a_as a_sk)), (a_as, (arI G 8 k_as)), (a_sk, (arJ G 50 k_sk)), (a_l, (arW G 6 f_l)), (a_pt, (arI G 200 k_pt)), (a_th, (oc7 a_h a_k a_ba a_ad (k_b - 1) a_cn a_nx a_hp a_hl a_lv)), (a_ba, (arJ G 24 k_ba)), (a_ad, (arI G 1536 k_ad))] hP hD ?_
      clear hP hD
      intro hP hD
      exact W.vret hx hb hr (fun t ht hW => ⟨⟨[(a_k, (oc5 a_h a_j a_pt k_ln k_se k_lh k_br k_we k_me k_ce k_wy k_ho k_ov)), (a_h, (oc1 e_wa e_le e_st e_fo e_lc a_l a_g a_b a_s a_p a_w e_gb a_bb)), (a_g, (oc6 6 5 a_gn e_g)), (a_gn, (arI G 30 f_g)), (a_b, (oc6 5 24 a_bn e_b)), (a_bn, (arI G 120 f_b)), (a_p, (oc6 8 5 a_pn e_p)), (a_pn, (arI G 40 f_p)), (a_s, (oc6 10 4 a_sn e_s)), (a_sn, (arI G 40 f_s)), (a_bb, (arJ G 24 f_bb)), (a_j, (oc2 a_as a_sk)), (a_as, (arI G 8 k_as)), (a_sk, (arJ G 50 k_sk)), (a_l, (arW G 6 f_l)), (a_pt, (arI G 200 k_pt)), (a_th, (oc7 a_h a_k a_ba a_ad (k_b - 1) a_cn a_nx a_hp a_hl a_lv)), (a_ba, (arJ G 24 k_ba)), (a_ad, (arI G 1536 k_ad))], rfl, ⟨k_ln, k_se, k_lh, k_br, k_we, k_me, k_ce, k_wy, k_ho, k_ov, k_pt, k_as, k_sk, (k_b - 1), k_ba, k_ad, i_3, ld_end i_5 e_sh e_s5 (by omega) (by omega), rfl⟩, by rw [ht]; exact hP.sub [0, 1, 2, 3, 4, 5, 6, 7, 8, 9, 10, 11, 12, 13, 14, 15, 16, 17, 18] rfl, hD.sub [0, 1, 2, 3, 4, 5, 6, 7, 8, 9, 10, 11, 12, 13, 14, 15, 16, 17, 18] (by decide +kernel) rfl⟩, hS.F ht⟩) hS.2.2 dX7_load_155
    ·
      have i_7 : k_i.toInt < e_s.toInt := g5_geN (a := k_i.toInt) (b := e_s.toInt) rfl rfl c_7
      refine lv_iload_n hx hb dX7_load_77 rfl (lv_at hl 4 rfl) ?_
      refine lv_iload hx hb dX7_load_78 (lv_at hl 1 rfl) ?_
      refine lv_ishr hx hb dX7_load_80 ?_
      refine lv_iconst (v := 1) hx hb dX7_load_81 (by decide +kernel) ?_
      refine W.eq (g2 := F0 m 82 ls [.int 1, .int (p_s >>> (k_i &&& 31))]) rfl ?_
      refine lv_iand hx hb dX7_load_82 ?_
      refine lv_if_eq (tgt := 142) hx hb dX7_load_83 (by decide +kernel) (fun c_8 => ?_) (fun c_8 => ?_)
      ·
        have i_8 : ((p_s >>> (k_i &&& 31)) &&& 1).toInt = 0 := g5_eq (a := ((p_s >>> (k_i &&& 31)) &&& 1).toInt) (b := 0) rfl (by decide +kernel) c_8
        refine lv_iinc (v := (k_i + 1)) (lv' := [(4, .int (k_i + 1)), (2, .int k_b), (3, .ref a_s), (0, .ref a_th), (1, .int p_s)]) hx hb dX7_load_142 hl (k := 1) rfl rfl (by decide +kernel) rfl ?_
        clear hl
        intro ls hl
        have t_9 : (k_i + 1).toInt = k_i.toInt + 1 := g5_iadd (a := k_i.toInt) (b := 1) rfl (by decide +kernel) (by omega) (by omega)
        refine lv_goto (tgt := 68) hx hb dX7_load_145 (by decide +kernel) ?_
        exact ih_68_6 (k_b, (k_i + 1), k_se, k_lh, k_br, k_we, k_me, k_ce, k_wy, k_ho, k_ov, k_pt, k_as, k_sk, k_ln, k_ba, k_ad) ls H locs (show Int.toNat (10 - (k_i + 1).toInt) < Int.toNat (10 - k_i.toInt) from g_up (show k_i.toInt < (k_i + 1).toInt by omega) (show k_i.toInt < 10 by omega)) ⟨lv_sub hl [1, 0, 2, 3, 4] rfl, hP, hD, hS, ⟨by omega, by omega⟩, i_3, by omega, ld_stay i_5 e_sh (by omega) (by omega) (by omega)⟩
      ·
        have n_8 : gNe (((p_s >>> (k_i &&& 31)) &&& 1).toInt) (0) := g5_eqN (a := ((p_s >>> (k_i &&& 31)) &&& 1).toInt) (b := 0) rfl (by decide +kernel) c_8
        refine lv_aload_n hx hb dX7_load_86 rfl (lv_at hl 3 rfl) ?_
        refine va_get (D := G.1) (ci := 7) (v := .ref a_k) (C := RX7) (T := TX7) (N := 10) hx hb hts inG_X7 hown hK hP 16 rfl rfl 1 (by decide +kernel) (hts _ fl_X7_38) (fun _ h9 => h9) rfl dX7_load_87 ?_
        refine lv_aload_n hx hb dX7_load_90 rfl (lv_at hl 2 rfl) ?_
        refine lv_iload hx hb dX7_load_91 (lv_at hl 1 rfl) ?_
        refine W.eq (g2 := F0 m 93 ls [.int k_i, .ref a_s, .ref a_k]) rfl ?_
        refine lv_iconst (v := 0) hx hb dX7_load_93 (by decide +kernel) ?_
        obtain ⟨hPc, hDc, hFc⟩ := g5_sub3 (wc := [(a_s, (oc6 10 4 a_sn e_s)), (a_sn, (arI G 40 f_s))]) hP hD hS hA [8, 9] (by decide +kernel) rfl
        refine va_calli (va_runV (As := [.int k_i, .int 0]) (rest := [.ref a_k]) ⟨hx, hb, hml, hown, hts⟩ (t_get_S l G a_s a_sn H.size e_s k_i 0 f_s h_e_s) (cwV 2 hts gV_X7_72 rfl rfl rfl hv_X6_get ⟨Nat.le_of_ble_eq_true rfl, Nat.le_of_ble_eq_true rfl⟩) (g5_preV hPc hK hDc hN hT hS hFc (ci := 6) (q0 := 0) rfl rfl) rfl rfl hl.1 rfl (lv_room (Nat.le_of_ble_eq_true rfl)) dX7_load_94 ⟨Nat.le_of_ble_eq_true rfl, Nat.le_of_ble_eq_true rfl⟩) hS (fun q _ h => hFc q h) hFc (fun r u t H locs ht hvm hw hB hz1 hk1 hS => ?_)
        obtain ⟨hP1, hD1⟩ := hB
        have hP1 := g5_ht ht hP1
        obtain ⟨z11, (i_10 : z11 = tget f_s e_s.toInt 4 k_i.toInt (0 : Int32).toInt), y12, rfl⟩ := hw
        have hJ9 := va_join (wr := [(a_k, (oc5 a_h a_j a_pt k_ln k_se k_lh k_br k_we k_me k_ce k_wy k_ho k_ov)), (a_h, (oc1 e_wa e_le e_st e_fo e_lc a_l a_g a_b a_s a_p a_w e_gb a_bb)), (a_g, (oc6 6 5 a_gn e_g)), (a_gn, (arI G 30 f_g)), (a_b, (oc6 5 24 a_bn e_b)), (a_bn, (arI G 120 f_b)), (a_p, (oc6 8 5 a_pn e_p)), (a_pn, (arI G 40 f_p)), (a_bb, (arJ G 24 f_bb)), (a_j, (oc2 a_as a_sk)), (a_as, (arI G 8 k_as)), (a_sk, (arJ G 50 k_sk)), (a_l, (arW G 6 f_l)), (a_pt, (arI G 200 k_pt)), (a_th, (oc7 a_h a_k a_ba a_ad e_fu a_cn a_nx a_hp a_hl a_lv)), (a_ba, (arJ G 24 k_ba)), (a_ad, (arI G 1536 k_ad))]) hP hD [8, 9] [0, 1, 2, 3, 4, 5, 6, 7, 10, 11, 12, 13, 14, 15, 16, 17, 18] rfl rfl (by decide +kernel) (by decide +kernel) hk1 hFc hP1 hD1
        clear hP hD hPc hDc hFc ht hvm hz1 hk1 hP1 hD1
        obtain ⟨hP, hD⟩ := hJ9
        refine g5_rs [(a_k, (oc5 a_h a_j a_pt k_ln k_se k_lh k_br k_we k_me k_ce k_wy k_ho k_ov)), (a_h, (oc1 e_wa e_le e_st e_fo e_lc a_l a_g a_b a_s a_p a_w e_gb a_bb)), (a_g, (oc6 6 5 a_gn e_g)), (a_gn, (arI G 30 f_g)), (a_b, (oc6 5 24 a_bn e_b)), (a_bn, (arI G 120 f_b)), (a_p, (oc6 8 5 a_pn e_p)), (a_pn, (arI G 40 f_p)), (a_bb, (arJ G 24 f_bb)), (a_j, (oc2 a_as a_sk)), (a_as, (arI G 8 k_as)), (a_sk, (arJ G 50 k_sk)), (a_l, (arW G 6 f_l)), (a_pt, (arI G 200 k_pt)), (a_th, (oc7 a_h a_k a_ba a_ad e_fu a_cn a_nx a_hp a_hl a_lv)), (a_ba, (arJ G 24 k_ba)), (a_ad, (arI G 1536 k_ad)), (a_s, (oc6 10 4 a_sn e_s)), (a_sn, (arI G 40 f_s))] hP hD ?_
        clear hP hD
        intro hP hD
        refine g5_ti (v := z11) y12 ?_
        refine lv_aload_n hx hb dX7_load_97 rfl (lv_at hl 2 rfl) ?_
        refine lv_iload hx hb dX7_load_98 (lv_at hl 1 rfl) ?_
        refine lv_iconst (v := 1) hx hb dX7_load_100 (by decide +kernel) ?_
        refine W.eq (g2 := F0 m 101 ls [.int 1, .int k_i, .ref a_s, .int z11, .ref a_k]) rfl ?_
        obtain ⟨hPc, hDc, hFc⟩ := g5_sub3 (wc := [(a_s, (oc6 10 4 a_sn e_s)), (a_sn, (arI G 40 f_s))]) hP hD hS hA [17, 18] (by decide +kernel) rfl
        refine va_calli (va_runV (As := [.int k_i, .int 1]) (rest := [.int z11, .ref a_k]) ⟨hx, hb, hml, hown, hts⟩ (t_get_S l G a_s a_sn H.size e_s k_i 1 f_s h_e_s) (cwV 2 hts gV_X7_72 rfl rfl rfl hv_X6_get ⟨Nat.le_of_ble_eq_true rfl, Nat.le_of_ble_eq_true rfl⟩) (g5_preV hPc hK hDc hN hT hS hFc (ci := 6) (q0 := 0) rfl rfl) rfl rfl hl.1 rfl (lv_room (Nat.le_of_ble_eq_true rfl)) dX7_load_101 ⟨Nat.le_of_ble_eq_true rfl, Nat.le_of_ble_eq_true rfl⟩) hS (fun q _ h => hFc q h) hFc (fun r u t H locs ht hvm hw hB hz1 hk1 hS => ?_)
        obtain ⟨hP1, hD1⟩ := hB
        have hP1 := g5_ht ht hP1
        obtain ⟨z14, (i_13 : z14 = tget f_s e_s.toInt 4 k_i.toInt (1 : Int32).toInt), y15, rfl⟩ := hw
        have hJ9 := va_join (wr := [(a_k, (oc5 a_h a_j a_pt k_ln k_se k_lh k_br k_we k_me k_ce k_wy k_ho k_ov)), (a_h, (oc1 e_wa e_le e_st e_fo e_lc a_l a_g a_b a_s a_p a_w e_gb a_bb)), (a_g, (oc6 6 5 a_gn e_g)), (a_gn, (arI G 30 f_g)), (a_b, (oc6 5 24 a_bn e_b)), (a_bn, (arI G 120 f_b)), (a_p, (oc6 8 5 a_pn e_p)), (a_pn, (arI G 40 f_p)), (a_bb, (arJ G 24 f_bb)), (a_j, (oc2 a_as a_sk)), (a_as, (arI G 8 k_as)), (a_sk, (arJ G 50 k_sk)), (a_l, (arW G 6 f_l)), (a_pt, (arI G 200 k_pt)), (a_th, (oc7 a_h a_k a_ba a_ad e_fu a_cn a_nx a_hp a_hl a_lv)), (a_ba, (arJ G 24 k_ba)), (a_ad, (arI G 1536 k_ad))]) hP hD [17, 18] [0, 1, 2, 3, 4, 5, 6, 7, 8, 9, 10, 11, 12, 13, 14, 15, 16] rfl rfl (by decide +kernel) (by decide +kernel) hk1 hFc hP1 hD1
        clear hP hD hPc hDc hFc ht hvm hz1 hk1 hP1 hD1
        obtain ⟨hP, hD⟩ := hJ9
        refine g5_rs [(a_k, (oc5 a_h a_j a_pt k_ln k_se k_lh k_br k_we k_me k_ce k_wy k_ho k_ov)), (a_h, (oc1 e_wa e_le e_st e_fo e_lc a_l a_g a_b a_s a_p a_w e_gb a_bb)), (a_g, (oc6 6 5 a_gn e_g)), (a_gn, (arI G 30 f_g)), (a_b, (oc6 5 24 a_bn e_b)), (a_bn, (arI G 120 f_b)), (a_p, (oc6 8 5 a_pn e_p)), (a_pn, (arI G 40 f_p)), (a_bb, (arJ G 24 f_bb)), (a_j, (oc2 a_as a_sk)), (a_as, (arI G 8 k_as)), (a_sk, (arJ G 50 k_sk)), (a_l, (arW G 6 f_l)), (a_pt, (arI G 200 k_pt)), (a_th, (oc7 a_h a_k a_ba a_ad e_fu a_cn a_nx a_hp a_hl a_lv)), (a_ba, (arJ G 24 k_ba)), (a_ad, (arI G 1536 k_ad)), (a_s, (oc6 10 4 a_sn e_s)), (a_sn, (arI G 40 f_s))] hP hD ?_
        clear hP hD
        intro hP hD
        refine g5_ti (v := z14) y15 ?_
        refine lv_aload_n hx hb dX7_load_104 rfl (lv_at hl 2 rfl) ?_
        refine lv_iload hx hb dX7_load_105 (lv_at hl 1 rfl) ?_
        refine lv_iconst (v := 2) hx hb dX7_load_107 (by decide +kernel) ?_
        obtain ⟨hPc, hDc, hFc⟩ := g5_sub3 (wc := [(a_s, (oc6 10 4 a_sn e_s)), (a_sn, (arI G 40 f_s))]) hP hD hS hA [17, 18] (by decide +kernel) rfl
        refine va_calli (va_runV (As := [.int k_i, .int 2]) (rest := [.int z14, .int z11, .ref a_k]) ⟨hx, hb, hml, hown, hts⟩ (t_get_S l G a_s a_sn H.size e_s k_i 2 f_s h_e_s) (cwV 2 hts gV_X7_72 rfl rfl rfl hv_X6_get ⟨Nat.le_of_ble_eq_true rfl, Nat.le_of_ble_eq_true rfl⟩) (g5_preV hPc hK hDc hN hT hS hFc (ci := 6) (q0 := 0) rfl rfl) rfl rfl hl.1 rfl (lv_room (Nat.le_of_ble_eq_true rfl)) dX7_load_108 ⟨Nat.le_of_ble_eq_true rfl, Nat.le_of_ble_eq_true rfl⟩) hS (fun q _ h => hFc q h) hFc (fun r u t H locs ht hvm hw hB hz1 hk1 hS => ?_)
        obtain ⟨hP1, hD1⟩ := hB
        have hP1 := g5_ht ht hP1
        obtain ⟨z17, (i_16 : z17 = tget f_s e_s.toInt 4 k_i.toInt (2 : Int32).toInt), y18, rfl⟩ := hw
        have hJ9 := va_join (wr := [(a_k, (oc5 a_h a_j a_pt k_ln k_se k_lh k_br k_we k_me k_ce k_wy k_ho k_ov)), (a_h, (oc1 e_wa e_le e_st e_fo e_lc a_l a_g a_b a_s a_p a_w e_gb a_bb)), (a_g, (oc6 6 5 a_gn e_g)), (a_gn, (arI G 30 f_g)), (a_b, (oc6 5 24 a_bn e_b)), (a_bn, (arI G 120 f_b)), (a_p, (oc6 8 5 a_pn e_p)), (a_pn, (arI G 40 f_p)), (a_bb, (arJ G 24 f_bb)), (a_j, (oc2 a_as a_sk)), (a_as, (arI G 8 k_as)), (a_sk, (arJ G 50 k_sk)), (a_l, (arW G 6 f_l)), (a_pt, (arI G 200 k_pt)), (a_th, (oc7 a_h a_k a_ba a_ad e_fu a_cn a_nx a_hp a_hl a_lv)), (a_ba, (arJ G 24 k_ba)), (a_ad, (arI G 1536 k_ad))]) hP hD [17, 18] [0, 1, 2, 3, 4, 5, 6, 7, 8, 9, 10, 11, 12, 13, 14, 15, 16] rfl rfl (by decide +kernel) (by decide +kernel) hk1 hFc hP1 hD1
        clear hP hD hPc hDc hFc ht hvm hz1 hk1 hP1 hD1
        obtain ⟨hP, hD⟩ := hJ9
        refine g5_rs [(a_k, (oc5 a_h a_j a_pt k_ln k_se k_lh k_br k_we k_me k_ce k_wy k_ho k_ov)), (a_h, (oc1 e_wa e_le e_st e_fo e_lc a_l a_g a_b a_s a_p a_w e_gb a_bb)), (a_g, (oc6 6 5 a_gn e_g)), (a_gn, (arI G 30 f_g)), (a_b, (oc6 5 24 a_bn e_b)), (a_bn, (arI G 120 f_b)), (a_p, (oc6 8 5 a_pn e_p)), (a_pn, (arI G 40 f_p)), (a_bb, (arJ G 24 f_bb)), (a_j, (oc2 a_as a_sk)), (a_as, (arI G 8 k_as)), (a_sk, (arJ G 50 k_sk)), (a_l, (arW G 6 f_l)), (a_pt, (arI G 200 k_pt)), (a_th, (oc7 a_h a_k a_ba a_ad e_fu a_cn a_nx a_hp a_hl a_lv)), (a_ba, (arJ G 24 k_ba)), (a_ad, (arI G 1536 k_ad)), (a_s, (oc6 10 4 a_sn e_s)), (a_sn, (arI G 40 f_s))] hP hD ?_
        clear hP hD
        intro hP hD
        refine g5_ti (v := z17) y18 ?_
        refine W.eq (g2 := F0 m 111 ls [.int z17, .int z14, .int z11, .ref a_k]) rfl ?_
        refine lv_iconst (v := 0) hx hb dX7_load_111 (by decide +kernel) ?_
        obtain ⟨hPc, hDc, hFc⟩ := g5_sub3 (wc := [(a_k, (oc5 a_h a_j a_pt k_ln k_se k_lh k_br k_we k_me k_ce k_wy k_ho k_ov)), (a_h, (oc1 e_wa e_le e_st e_fo e_lc a_l a_g a_b a_s a_p a_w e_gb a_bb)), (a_g, (oc6 6 5 a_gn e_g)), (a_gn, (arI G 30 f_g)), (a_b, (oc6 5 24 a_bn e_b)), (a_bn, (arI G 120 f_b)), (a_p, (oc6 8 5 a_pn e_p)), (a_pn, (arI G 40 f_p)), (a_bb, (arJ G 24 f_bb)), (a_j, (oc2 a_as a_sk)), (a_as, (arI G 8 k_as)), (a_sk, (arJ G 50 k_sk)), (a_l, (arW G 6 f_l)), (a_pt, (arI G 200 k_pt))]) hP hD hS hA [0, 1, 2, 3, 4, 5, 6, 7, 8, 9, 10, 11, 12, 13] (by decide +kernel) rfl
        refine va_callv (va_runV (As := [.int z11, .int z14, .int z17, .int 0]) (rest := []) ⟨hx, hb, hml, hown, hts⟩ (k_runN l G a_k a_h a_g a_gn a_b a_bn a_p a_pn a_bb a_j a_as a_sk a_l a_pt a_s a_w H.size e_le e_st e_fo e_lc e_g e_b e_p k_ln k_se k_lh k_br k_we k_me k_ce k_wy k_ho k_ov z11 z14 z17 0 e_wa e_gb f_g f_b f_p f_bb k_as k_sk f_l k_pt h_e_g h_e_b h_e_p i_3 (e_gk) (e_pk) (e_gi) (e_f)) (cwV 4 hts gV_X7_76 rfl rfl rfl hv_X5_run ⟨Nat.le_of_ble_eq_true rfl, Nat.le_of_ble_eq_true rfl⟩) (g5_preV hPc hK hDc hN hT hS hFc (ci := 5) (q0 := 0) rfl rfl) rfl rfl hl.1 rfl (lv_room (Nat.le_of_ble_eq_true rfl)) dX7_load_112 ⟨Nat.le_of_ble_eq_true rfl, Nat.le_of_ble_eq_true rfl⟩) hS (fun q _ h => hFc q h) hFc (fun u t H locs ht hvm hw hB hz1 hk1 hS => ?_)
        obtain ⟨hP1, hD1⟩ := hB
        have hP1 := g5_ht ht hP1
        obtain ⟨z22, z23, z24, z25, z26, z27, z28, z29, z30, z31, z32, z33, z34, (i_19 : 0 ≤ z22.toInt ∧ z22.toInt ≤ 200), (i_20 : 0 ≤ z31.toInt ∧ z31.toInt ≤ 1), (i_21 : ∀ j : Nat, (j : Int) < z22.toInt → 0 ≤ (z32 j).toInt ∧ (z32 j).toInt ≤ 1535), rfl⟩ := hw
        have hJ9 := va_join (wr := [(a_th, (oc7 a_h a_k a_ba a_ad e_fu a_cn a_nx a_hp a_hl a_lv)), (a_ba, (arJ G 24 k_ba)), (a_ad, (arI G 1536 k_ad)), (a_s, (oc6 10 4 a_sn e_s)), (a_sn, (arI G 40 f_s))]) hP hD [0, 1, 2, 3, 4, 5, 6, 7, 8, 9, 10, 11, 12, 13] [14, 15, 16, 17, 18] rfl rfl (by decide +kernel) (by decide +kernel) hk1 hFc hP1 hD1
        clear hP hD hPc hDc hFc ht hvm hz1 hk1 hP1 hD1
        obtain ⟨hP, hD⟩ := hJ9
        refine g5_rs [(a_th, (oc7 a_h a_k a_ba a_ad e_fu a_cn a_nx a_hp a_hl a_lv)), (a_ba, (arJ G 24 k_ba)), (a_ad, (arI G 1536 k_ad)), (a_s, (oc6 10 4 a_sn e_s)), (a_sn, (arI G 40 f_s)), (a_k, (oc5 a_h a_j a_pt z22 z23 z24 z25 z26 z27 z28 z29 z30 z31)), (a_h, (oc1 e_wa e_le e_st e_fo e_lc a_l a_g a_b a_s a_p a_w e_gb a_bb)), (a_g, (oc6 6 5 a_gn e_g)), (a_gn, (arI G 30 f_g)), (a_b, (oc6 5 24 a_bn e_b)), (a_bn, (arI G 120 f_b)), (a_p, (oc6 8 5 a_pn e_p)), (a_pn, (arI G 40 f_p)), (a_bb, (arJ G 24 f_bb)), (a_j, (oc2 a_as a_sk)), (a_as, (arI G 8 z33)), (a_sk, (arJ G 50 z34)), (a_l, (arW G 6 f_l)), (a_pt, (arI G 200 z32))] hP hD ?_
        clear hP hD
        intro hP hD
        refine lv_aload_n hx hb dX7_load_115 rfl (lv_at hl 2 rfl) ?_
        refine lv_iload hx hb dX7_load_116 (lv_at hl 1 rfl) ?_
        refine lv_iconst (v := 3) hx hb dX7_load_118 (by decide +kernel) ?_
        refine W.eq (g2 := F0 m 119 ls [.int 3, .int k_i, .ref a_s]) rfl ?_
        obtain ⟨hPc, hDc, hFc⟩ := g5_sub3 (wc := [(a_s, (oc6 10 4 a_sn e_s)), (a_sn, (arI G 40 f_s))]) hP hD hS hA [3, 4] (by decide +kernel) rfl
        refine va_calli (va_runV (As := [.int k_i, .int 3]) (rest := []) ⟨hx, hb, hml, hown, hts⟩ (t_get_S l G a_s a_sn H.size e_s k_i 3 f_s h_e_s) (cwV 2 hts gV_X7_72 rfl rfl rfl hv_X6_get ⟨Nat.le_of_ble_eq_true rfl, Nat.le_of_ble_eq_true rfl⟩) (g5_preV hPc hK hDc hN hT hS hFc (ci := 6) (q0 := 0) rfl rfl) rfl rfl hl.1 rfl (lv_room (Nat.le_of_ble_eq_true rfl)) dX7_load_119 ⟨Nat.le_of_ble_eq_true rfl, Nat.le_of_ble_eq_true rfl⟩) hS (fun q _ h => hFc q h) hFc (fun r u t H locs ht hvm hw hB hz1 hk1 hS => ?_)
        obtain ⟨hP1, hD1⟩ := hB
        have hP1 := g5_ht ht hP1
        obtain ⟨z36, (i_35 : z36 = tget f_s e_s.toInt 4 k_i.toInt (3 : Int32).toInt), y37, rfl⟩ := hw
        have hJ9 := va_join (wr := [(a_th, (oc7 a_h a_k a_ba a_ad e_fu a_cn a_nx a_hp a_hl a_lv)), (a_ba, (arJ G 24 k_ba)), (a_ad, (arI G 1536 k_ad)), (a_k, (oc5 a_h a_j a_pt z22 z23 z24 z25 z26 z27 z28 z29 z30 z31)), (a_h, (oc1 e_wa e_le e_st e_fo e_lc a_l a_g a_b a_s a_p a_w e_gb a_bb)), (a_g, (oc6 6 5 a_gn e_g)), (a_gn, (arI G 30 f_g)), (a_b, (oc6 5 24 a_bn e_b)), (a_bn, (arI G 120 f_b)), (a_p, (oc6 8 5 a_pn e_p)), (a_pn, (arI G 40 f_p)), (a_bb, (arJ G 24 f_bb)), (a_j, (oc2 a_as a_sk)), (a_as, (arI G 8 z33)), (a_sk, (arJ G 50 z34)), (a_l, (arW G 6 f_l)), (a_pt, (arI G 200 z32))]) hP hD [3, 4] [0, 1, 2, 5, 6, 7, 8, 9, 10, 11, 12, 13, 14, 15, 16, 17, 18] rfl rfl (by decide +kernel) (by decide +kernel) hk1 hFc hP1 hD1
        clear hP hD hPc hDc hFc ht hvm hz1 hk1 hP1 hD1
        obtain ⟨hP, hD⟩ := hJ9
        refine g5_rs [(a_th, (oc7 a_h a_k a_ba a_ad e_fu a_cn a_nx a_hp a_hl a_lv)), (a_ba, (arJ G 24 k_ba)), (a_ad, (arI G 1536 k_ad)), (a_k, (oc5 a_h a_j a_pt z22 z23 z24 z25 z26 z27 z28 z29 z30 z31)), (a_h, (oc1 e_wa e_le e_st e_fo e_lc a_l a_g a_b a_s a_p a_w e_gb a_bb)), (a_g, (oc6 6 5 a_gn e_g)), (a_gn, (arI G 30 f_g)), (a_b, (oc6 5 24 a_bn e_b)), (a_bn, (arI G 120 f_b)), (a_p, (oc6 8 5 a_pn e_p)), (a_pn, (arI G 40 f_p)), (a_bb, (arJ G 24 f_bb)), (a_j, (oc2 a_as a_sk)), (a_as, (arI G 8 z33)), (a_sk, (arJ G 50 z34)), (a_l, (arW G 6 f_l)), (a_pt, (arI G 200 z32)), (a_s, (oc6 10 4 a_sn e_s)), (a_sn, (arI G 40 f_s))] hP hD ?_
        clear hP hD
        intro hP hD
        refine g5_ti (v := z36) y37 ?_
        refine lv_iconst (v := 1) hx hb dX7_load_122 (by decide +kernel) ?_
        refine lv_icmp_ne (tgt := 138) hx hb dX7_load_123 (by decide +kernel) (fun c_38 => ?_) (fun c_38 => ?_)
        ·
          have n_38 : gNe (z36.toInt) (1) := g5_ne (a := z36.toInt) (b := 1) rfl (by decide +kernel) c_38
          refine lv_aload_n hx hb dX7_load_138 rfl (lv_at hl 3 rfl) ?_
          obtain ⟨hPc, hDc, hFc⟩ := g5_sub3 (wc := [(a_th, (oc7 a_h a_k a_ba a_ad e_fu a_cn a_nx a_hp a_hl a_lv)), (a_k, (oc5 a_h a_j a_pt z22 z23 z24 z25 z26 z27 z28 z29 z30 z31)), (a_pt, (arI G 200 z32)), (a_ba, (arJ G 24 k_ba))]) hP hD hS hA [0, 3, 16, 1] (by decide +kernel) rfl
          refine va_callv (va_runV (As := []) (rest := []) ⟨hx, hb, hml, hown, hts⟩ (th_bar l G a_th a_k a_pt a_ba a_h a_ad a_cn a_nx a_hp a_hl a_lv a_j H.size e_fu z22 z23 z24 z25 z26 z27 z28 z29 z30 z31 z32 k_ba i_19 i_20 (i_21)) (cwV 0 hts gV_X7_86 rfl rfl rfl hv_X7_barPoints ⟨Nat.le_of_ble_eq_true rfl, Nat.le_of_ble_eq_true rfl⟩) (g5_preV hPc hK hDc hN hT hS hFc (ci := 7) (q0 := 0) rfl rfl) rfl rfl hl.1 rfl (lv_room (Nat.le_of_ble_eq_true rfl)) dX7_load_139 ⟨Nat.le_of_ble_eq_true rfl, Nat.le_of_ble_eq_true rfl⟩) hS (fun q _ h => hFc q h) hFc (fun u t H locs ht hvm hw hB hz1 hk1 hS => ?_)
          obtain ⟨hP1, hD1⟩ := hB
          have hP1 := g5_ht ht hP1
          obtain ⟨z39, rfl⟩ := hw
          have hJ9 := va_join (wr := [(a_ad, (arI G 1536 k_ad)), (a_h, (oc1 e_wa e_le e_st e_fo e_lc a_l a_g a_b a_s a_p a_w e_gb a_bb)), (a_g, (oc6 6 5 a_gn e_g)), (a_gn, (arI G 30 f_g)), (a_b, (oc6 5 24 a_bn e_b)), (a_bn, (arI G 120 f_b)), (a_p, (oc6 8 5 a_pn e_p)), (a_pn, (arI G 40 f_p)), (a_bb, (arJ G 24 f_bb)), (a_j, (oc2 a_as a_sk)), (a_as, (arI G 8 z33)), (a_sk, (arJ G 50 z34)), (a_l, (arW G 6 f_l)), (a_s, (oc6 10 4 a_sn e_s)), (a_sn, (arI G 40 f_s))]) hP hD [0, 3, 16, 1] [2, 4, 5, 6, 7, 8, 9, 10, 11, 12, 13, 14, 15, 17, 18] rfl rfl (by decide +kernel) (by decide +kernel) hk1 hFc hP1 hD1
          clear hP hD hPc hDc hFc ht hvm hz1 hk1 hP1 hD1
          obtain ⟨hP, hD⟩ := hJ9
          refine g5_rs [(a_ad, (arI G 1536 k_ad)), (a_h, (oc1 e_wa e_le e_st e_fo e_lc a_l a_g a_b a_s a_p a_w e_gb a_bb)), (a_g, (oc6 6 5 a_gn e_g)), (a_gn, (arI G 30 f_g)), (a_b, (oc6 5 24 a_bn e_b)), (a_bn, (arI G 120 f_b)), (a_p, (oc6 8 5 a_pn e_p)), (a_pn, (arI G 40 f_p)), (a_bb, (arJ G 24 f_bb)), (a_j, (oc2 a_as a_sk)), (a_as, (arI G 8 z33)), (a_sk, (arJ G 50 z34)), (a_l, (arW G 6 f_l)), (a_s, (oc6 10 4 a_sn e_s)), (a_sn, (arI G 40 f_s)), (a_th, (oc7 a_h a_k a_ba a_ad e_fu a_cn a_nx a_hp a_hl a_lv)), (a_k, (oc5 a_h a_j a_pt z22 z23 z24 z25 z26 z27 z28 z29 z30 z31)), (a_pt, (arI G 200 z32)), (a_ba, (arJ G 24 z39))] hP hD ?_
          clear hP hD
          intro hP hD
          refine lv_iinc (v := (k_i + 1)) (lv' := [(4, .int (k_i + 1)), (2, .int k_b), (3, .ref a_s), (0, .ref a_th), (1, .int p_s)]) hx hb dX7_load_142 hl (k := 1) rfl rfl (by decide +kernel) rfl ?_
          clear hl
          intro ls hl
          have t_40 : (k_i + 1).toInt = k_i.toInt + 1 := g5_iadd (a := k_i.toInt) (b := 1) rfl (by decide +kernel) (by omega) (by omega)
          refine lv_goto (tgt := 68) hx hb dX7_load_145 (by decide +kernel) ?_
          exact ih_68_6 (k_b, (k_i + 1), z23, z24, z25, z26, z27, z28, z29, z30, z31, z32, z33, z34, z22, z39, k_ad) ls H locs (show Int.toNat (10 - (k_i + 1).toInt) < Int.toNat (10 - k_i.toInt) from g_up (show k_i.toInt < (k_i + 1).toInt by omega) (show k_i.toInt < 10 by omega)) ⟨lv_sub hl [1, 0, 2, 3, 4] rfl, hP.sub [16, 1, 2, 3, 4, 5, 6, 7, 13, 14, 8, 9, 10, 11, 12, 17, 15, 18, 0] rfl, hD.sub [16, 1, 2, 3, 4, 5, 6, 7, 13, 14, 8, 9, 10, 11, 12, 17, 15, 18, 0] (by decide +kernel) rfl, hS, ⟨by omega, by omega⟩, i_20, by omega, ld_stay i_5 e_sh (by omega) (by omega) (by omega)⟩
        ·
          have i_38 : z36.toInt = 1 := g5_neN (a := z36.toInt) (b := 1) rfl (by decide +kernel) c_38
          obtain ⟨gs_41, hg1_41, hg2_41, hg3_41⟩ := id i_5
          have hg4_41 : gs_41 < 5 := ld_lt hg1_41 e_sh e_s5 i_35 (by omega) (by omega) (by omega)
          have hg5_41 : mOK k_ad (gs_41 + 1) := mOK_up hg3_41
          refine lv_aload_n hx hb dX7_load_126 rfl (lv_at hl 3 rfl) ?_
          refine lv_iload_n hx hb dX7_load_127 rfl (lv_at hl 0 rfl) ?_
          obtain ⟨hPc, hDc, hFc⟩ := g5_sub3 (wc := [(a_th, (oc7 a_h a_k a_ba a_ad e_fu a_cn a_nx a_hp a_hl a_lv)), (a_k, (oc5 a_h a_j a_pt z22 z23 z24 z25 z26 z27 z28 z29 z30 z31)), (a_pt, (arI G 200 z32)), (a_ad, (arI G 1536 k_ad))]) hP hD hS hA [0, 3, 16, 2] (by decide +kernel) rfl
          refine va_callv (va_runV (As := [.int k_b]) (rest := []) ⟨hx, hb, hml, hown, hts⟩ (th_add l G a_th a_k a_pt a_ad a_h a_ba a_cn a_nx a_hp a_hl a_lv a_j H.size e_fu z22 z23 z24 z25 z26 z27 z28 z29 z30 z31 k_b z32 k_ad gs_41 i_19 i_20 (i_21) (hg4_41) (hg2_41) (hg5_41)) (cwV 1 hts gV_X7_82 rfl rfl rfl hv_X7_addPoints ⟨Nat.le_of_ble_eq_true rfl, Nat.le_of_ble_eq_true rfl⟩) (g5_preV hPc hK hDc hN hT hS hFc (ci := 7) (q0 := 0) rfl rfl) rfl rfl hl.1 rfl (lv_room (Nat.le_of_ble_eq_true rfl)) dX7_load_128 ⟨Nat.le_of_ble_eq_true rfl, Nat.le_of_ble_eq_true rfl⟩) hS (fun q _ h => hFc q h) hFc (fun u t H locs ht hvm hw hB hz1 hk1 hS => ?_)
          obtain ⟨hP1, hD1⟩ := hB
          have hP1 := g5_ht ht hP1
          obtain ⟨z43, (i_42 : mOK z43 (gs_41 + 1)), rfl⟩ := hw
          have hJ9 := va_join (wr := [(a_ba, (arJ G 24 k_ba)), (a_h, (oc1 e_wa e_le e_st e_fo e_lc a_l a_g a_b a_s a_p a_w e_gb a_bb)), (a_g, (oc6 6 5 a_gn e_g)), (a_gn, (arI G 30 f_g)), (a_b, (oc6 5 24 a_bn e_b)), (a_bn, (arI G 120 f_b)), (a_p, (oc6 8 5 a_pn e_p)), (a_pn, (arI G 40 f_p)), (a_bb, (arJ G 24 f_bb)), (a_j, (oc2 a_as a_sk)), (a_as, (arI G 8 z33)), (a_sk, (arJ G 50 z34)), (a_l, (arW G 6 f_l)), (a_s, (oc6 10 4 a_sn e_s)), (a_sn, (arI G 40 f_s))]) hP hD [0, 3, 16, 2] [1, 4, 5, 6, 7, 8, 9, 10, 11, 12, 13, 14, 15, 17, 18] rfl rfl (by decide +kernel) (by decide +kernel) hk1 hFc hP1 hD1
          clear hP hD hPc hDc hFc ht hvm hz1 hk1 hP1 hD1
          obtain ⟨hP, hD⟩ := hJ9
          refine g5_rs [(a_ba, (arJ G 24 k_ba)), (a_h, (oc1 e_wa e_le e_st e_fo e_lc a_l a_g a_b a_s a_p a_w e_gb a_bb)), (a_g, (oc6 6 5 a_gn e_g)), (a_gn, (arI G 30 f_g)), (a_b, (oc6 5 24 a_bn e_b)), (a_bn, (arI G 120 f_b)), (a_p, (oc6 8 5 a_pn e_p)), (a_pn, (arI G 40 f_p)), (a_bb, (arJ G 24 f_bb)), (a_j, (oc2 a_as a_sk)), (a_as, (arI G 8 z33)), (a_sk, (arJ G 50 z34)), (a_l, (arW G 6 f_l)), (a_s, (oc6 10 4 a_sn e_s)), (a_sn, (arI G 40 f_s)), (a_th, (oc7 a_h a_k a_ba a_ad e_fu a_cn a_nx a_hp a_hl a_lv)), (a_k, (oc5 a_h a_j a_pt z22 z23 z24 z25 z26 z27 z28 z29 z30 z31)), (a_pt, (arI G 200 z32)), (a_ad, (arI G 1536 z43))] hP hD ?_
          clear hP hD
          intro hP hD
          refine lv_iload_n hx hb dX7_load_131 rfl (lv_at hl 0 rfl) ?_
          refine W.eq (g2 := F0 m 132 ls [.int k_b]) rfl ?_
          refine lv_iconst (v := 1) hx hb dX7_load_132 (by decide +kernel) ?_
          refine lv_ishl hx hb dX7_load_133 ?_
          refine lv_istore_n (lv' := [(2, .int (k_b <<< (1 &&& 31))), (4, .int k_i), (3, .ref a_s), (0, .ref a_th), (1, .int p_s)]) hx hb dX7_load_134 rfl hl (by decide +kernel) rfl ?_
          clear hl
          intro ls hl
          refine lv_goto (tgt := 142) hx hb dX7_load_135 (by decide +kernel) ?_
          refine lv_iinc (v := (k_i + 1)) (lv' := [(4, .int (k_i + 1)), (2, .int (k_b <<< (1 &&& 31))), (3, .ref a_s), (0, .ref a_th), (1, .int p_s)]) hx hb dX7_load_142 hl (k := 1) rfl rfl (by decide +kernel) rfl ?_
          clear hl
          intro ls hl
          have t_44 : (k_i + 1).toInt = k_i.toInt + 1 := g5_iadd (a := k_i.toInt) (b := 1) rfl (by decide +kernel) (by omega) (by omega)
          refine W.eq (g2 := F0 m 145 ls []) rfl ?_
          refine lv_goto (tgt := 68) hx hb dX7_load_145 (by decide +kernel) ?_
          exact ih_68_6 ((k_b <<< (1 &&& 31)), (k_i + 1), z23, z24, z25, z26, z27, z28, z29, z30, z31, z32, z33, z34, z22, k_ba, z43) ls H locs (show Int.toNat (10 - (k_i + 1).toInt) < Int.toNat (10 - k_i.toInt) from g_up (show k_i.toInt < (k_i + 1).toInt by omega) (show k_i.toInt < 10 by omega)) ⟨lv_sub hl [1, 0, 2, 3, 4] rfl, hP.sub [16, 1, 2, 3, 4, 5, 6, 7, 13, 14, 8, 9, 10, 11, 12, 17, 15, 0, 18] rfl, hD.sub [16, 1, 2, 3, 4, 5, 6, 7, 13, 14, 8, 9, 10, 11, 12, 17, 15, 0, 18] (by decide +kernel) rfl, hS, ⟨by omega, by omega⟩, i_20, by omega, ld_go hg1_41 hg2_41 hg4_41 i_42 i_35 (by omega) (by omega) (by omega)⟩
  ·
    have n_1 : gNe (e_st.toInt) ((-1)) := g5_eqN (a := e_st.toInt) (b := (-1)) rfl (by decide +kernel) c_1
    refine lv_aload_n hx hb dX7_load_33 rfl (lv_at hl 0 rfl) ?_
    refine va_get (D := G.1) (ci := 7) (v := .ref a_ba) (C := RX7) (T := TX7) (N := 10) hx hb hts inG_X7 hown hK hP 16 rfl rfl 2 (by decide +kernel) (hts _ fl_X7_9) (fun _ h9 => h9) rfl dX7_load_34 ?_
    refine lv_iconst (v := 0) hx hb dX7_load_37 (by decide +kernel) ?_
    refine lv_dup2_11 hx hb dX7_load_38 rfl rfl ?_
    refine W.eq (g2 := F0 m 39 ls [.int 0, .ref a_ba, .int 0, .ref a_ba]) rfl ?_
    refine va_lald hx hb hK hP 17 1 rfl rfl (i := 0) (by unfold vp_in; decide) dX7_load_39 ?_
    refine g5_tl (v := ((fun _ => e_wa) 0)) rfl ?_
    refine lv_lconst (v := 1) hx hb dX7_load_40 (by decide +kernel) ?_
    refine lv_aload_n hx hb dX7_load_41 rfl (lv_at hl 0 rfl) ?_
    refine va_get (D := G.1) (ci := 7) (v := .ref a_h) (C := RX7) (T := TX7) (N := 10) hx hb hts inG_X7 hown hK hP 16 rfl rfl 0 (by decide +kernel) (hts _ fl_X7_34) (fun _ h9 => h9) rfl dX7_load_42 ?_
    refine va_get (D := G.1) (ci := 1) (v := .int e_st) (C := RX1) (T := TX1) (N := 13) hx hb hts inG_X1 hown hK hP 1 rfl rfl 2 (by decide +kernel) (hts _ fl_X7_67) (fun _ h9 => h9) rfl dX7_load_45 ?_
    refine W.eq (g2 := F0 m 48 ls [.int e_st, .long 1, .long ((fun _ => e_wa) 0), .int 0, .ref a_ba]) rfl ?_
    refine lv_lshl (v := ((1 : Int64) <<< (e_st.toInt64 &&& 63))) hx hb dX7_load_48 rfl ?_
    refine lv_ldc2 (v := (-1)) hx hb hown (hts _ kl_X7_70) dX7_load_49 ?_
    refine lv_lxor hx hb dX7_load_52 ?_
    refine lv_lor hx hb dX7_load_53 ?_
    refine va_last hx hb hK hP hD hS 17 1 rfl rfl (i := 0) (x := (((fun _ => e_wa) 0) ||| (((1 : Int64) <<< (e_st.toInt64 &&& 63)) ^^^ (-1)))) (by unfold vp_in; decide) dX7_load_54 ?_
    clear hP hD hS
    intro H locs hP hD hS
    refine g5_rs [(a_k, (oc5 a_h a_j a_pt e_ln e_se e_lh e_br e_we e_me e_ce e_wy e_ho e_ov)), (a_h, (oc1 e_wa e_le e_st e_fo e_lc a_l a_g a_b a_s a_p a_w e_gb a_bb)), (a_g, (oc6 6 5 a_gn e_g)), (a_gn, (arI G 30 f_g)), (a_b, (oc6 5 24 a_bn e_b)), (a_bn, (arI G 120 f_b)), (a_p, (oc6 8 5 a_pn e_p)), (a_pn, (arI G 40 f_p)), (a_s, (oc6 10 4 a_sn e_s)), (a_sn, (arI G 40 f_s)), (a_bb, (arJ G 24 f_bb)), (a_j, (oc2 a_as a_sk)), (a_as, (arI G 8 f_as)), (a_sk, (arJ G 50 f_sk)), (a_l, (arW G 6 f_l)), (a_pt, (arI G 200 f_pt)), (a_th, (oc7 a_h a_k a_ba a_ad e_fu a_cn a_nx a_hp a_hl a_lv)), (a_ba, (arJ G 24 (vp_updL (fun _ => e_wa) 0 (((fun _ => e_wa) 0) ||| (((1 : Int64) <<< (e_st.toInt64 &&& 63)) ^^^ (-1)))))), (a_ad, (arI G 1536 (fun _ => (0 : Int32))))] hP hD ?_
    clear hP hD
    intro hP hD
    refine W.eq (g2 := F0 m 55 ls []) rfl ?_
    refine lv_iconst (v := 1) hx hb dX7_load_55 (by decide +kernel) ?_
    refine lv_istore_n (lv' := [(2, .int 1), (0, .ref a_th), (1, .int p_s)]) hx hb dX7_load_56 rfl hl (by decide +kernel) rfl ?_
    clear hl
    intro ls hl
    refine lv_aload_n hx hb dX7_load_57 rfl (lv_at hl 1 rfl) ?_
    refine va_get (D := G.1) (ci := 7) (v := .ref a_h) (C := RX7) (T := TX7) (N := 10) hx hb hts inG_X7 hown hK hP 16 rfl rfl 0 (by decide +kernel) (hts _ fl_X7_34) (fun _ h9 => h9) rfl dX7_load_58 ?_
    refine va_get (D := G.1) (ci := 1) (v := .ref a_s) (C := RX1) (T := TX1) (N := 13) hx hb hts inG_X1 hown hK hP 1 rfl rfl 8 (by decide +kernel) (hts _ fl_X7_42) (fun _ h9 => h9) rfl dX7_load_61 ?_
    refine W.eq (g2 := F0 m 64 ls [.ref a_s]) rfl ?_
    refine lv_astore_n (lv' := [(3, .ref a_s), (2, .int 1), (0, .ref a_th), (1, .int p_s)]) hx hb dX7_load_64 rfl hl (by decide +kernel) rfl ?_
    clear hl
    intro ls hl
    refine lv_iconst (v := 0) hx hb dX7_load_65 (by decide +kernel) ?_
    refine lv_istore (lv' := [(4, .int 0), (3, .ref a_s), (2, .int 1), (0, .ref a_th), (1, .int p_s)]) hx hb dX7_load_66 hl (by decide +kernel) rfl ?_
    clear hl
    intro ls hl
    refine g5_loop (α := (Int32) × (Int32) × (Int32) × (Int32) × (Int32) × (Int32) × (Int32) × (Int32) × (Int32) × (Int32) × (Int32) × (Nat → Int32) × (Nat → Int32) × (Nat → Int64) × (Int32) × (Nat → Int64) × (Nat → Int32)) (fun (q : (Int32) × (Int32) × (Int32) × (Int32) × (Int32) × (Int32) × (Int32) × (Int32) × (Int32) × (Int32) × (Int32) × (Nat → Int32) × (Nat → Int32) × (Nat → Int64) × (Int32) × (Nat → Int64) × (Nat → Int32)) (ls : Array Slot) (H : Heap) (locs : List Loc) => match q with | (k_b, k_i, k_se, k_lh, k_br, k_we, k_me, k_ce, k_wy, k_ho, k_ov, k_pt, k_as, k_sk, k_ln, k_ba, k_ad) => lv_has ls 5 [(2, .int k_b), (4, .int k_i), (3, .ref a_s), (0, .ref a_th), (1, .int p_s)] ∧ va_P G.1 vwCl [(a_k, (oc5 a_h a_j a_pt k_ln k_se k_lh k_br k_we k_me k_ce k_wy k_ho k_ov)), (a_h, (oc1 e_wa e_le e_st e_fo e_lc a_l a_g a_b a_s a_p a_w e_gb a_bb)), (a_g, (oc6 6 5 a_gn e_g)), (a_gn, (arI G 30 f_g)), (a_b, (oc6 5 24 a_bn e_b)), (a_bn, (arI G 120 f_b)), (a_p, (oc6 8 5 a_pn e_p)), (a_pn, (arI G 40 f_p)), (a_s, (oc6 10 4 a_sn e_s)), (a_sn, (arI G 40 f_s)), (a_bb, (arJ G 24 f_bb)), (a_j, (oc2 a_as a_sk)), (a_as, (arI G 8 k_as)), (a_sk, (arJ G 50 k_sk)), (a_l, (arW G 6 f_l)), (a_pt, (arI G 200 k_pt)), (a_th, (oc7 a_h a_k a_ba a_ad e_fu a_cn a_nx a_hp a_hl a_lv)), (a_ba, (arJ G 24 k_ba)), (a_ad, (arI G 1536 k_ad))] H ∧ va_D A [(a_k, (oc5 a_h a_j a_pt k_ln k_se k_lh k_br k_we k_me k_ce k_wy k_ho k_ov)), (a_h, (oc1 e_wa e_le e_st e_fo e_lc a_l a_g a_b a_s a_p a_w e_gb a_bb)), (a_g, (oc6 6 5 a_gn e_g)), (a_gn, (arI G 30 f_g)), (a_b, (oc6 5 24 a_bn e_b)), (a_bn, (arI G 120 f_b)), (a_p, (oc6 8 5 a_pn e_p)), (a_pn, (arI G 40 f_p)), (a_s, (oc6 10 4 a_sn e_s)), (a_sn, (arI G 40 f_s)), (a_bb, (arJ G 24 f_bb)), (a_j, (oc2 a_as a_sk)), (a_as, (arI G 8 k_as)), (a_sk, (arJ G 50 k_sk)), (a_l, (arW G 6 f_l)), (a_pt, (arI G 200 k_pt)), (a_th, (oc7 a_h a_k a_ba a_ad e_fu a_cn a_nx a_hp a_hl a_lv)), (a_ba, (arJ G 24 k_ba)), (a_ad, (arI G 1536 k_ad))] ∧ va_S A s.heap H locs ∧ (0 ≤ k_i.toInt ∧ k_i.toInt ≤ 10) ∧ (0 ≤ k_ov.toInt ∧ k_ov.toInt ≤ 1) ∧ (k_i.toInt ≤ e_s.toInt) ∧ (LDI f_s e_s.toInt k_i.toInt k_b k_ad)) (fun (q : (Int32) × (Int32) × (Int32) × (Int32) × (Int32) × (Int32) × (Int32) × (Int32) × (Int32) × (Int32) × (Int32) × (Nat → Int32) × (Nat → Int32) × (Nat → Int64) × (Int32) × (Nat → Int64) × (Nat → Int32)) => match q with | (k_b, k_i, k_se, k_lh, k_br, k_we, k_me, k_ce, k_wy, k_ho, k_ov, k_pt, k_as, k_sk, k_ln, k_ba, k_ad) => Int.toNat (10 - k_i.toInt)) (1, 0, e_se, e_lh, e_br, e_we, e_me, e_ce, e_wy, e_ho, e_ov, f_pt, f_as, f_sk, e_ln, (vp_updL (fun _ => e_wa) 0 (((fun _ => e_wa) 0) ||| (((1 : Int64) <<< (e_st.toInt64 &&& 63)) ^^^ (-1)))), (fun _ => (0 : Int32))) ⟨lv_sub hl [2, 0, 1, 3, 4] rfl, hP, hD, hS, ⟨by decide, by decide⟩, h_e_ov, by have z0 : (0 : Int32).toInt = 0 := (by decide +kernel); omega, ld_0⟩ ?_
    rintro ⟨k_b, k_i, k_se, k_lh, k_br, k_we, k_me, k_ce, k_wy, k_ho, k_ov, k_pt, k_as, k_sk, k_ln, k_ba, k_ad⟩ ls H locs ⟨hl, hP, hD, hS, (i_45 : 0 ≤ k_i.toInt ∧ k_i.toInt ≤ 10), (i_46 : 0 ≤ k_ov.toInt ∧ k_ov.toInt ≤ 1), (i_47 : k_i.toInt ≤ e_s.toInt), (i_48 : LDI f_s e_s.toInt k_i.toInt k_b k_ad)⟩ ih_68_49
    replace hl : lv_has ls 5 [(2, .int k_b), (4, .int k_i), (3, .ref a_s), (0, .ref a_th), (1, .int p_s)] := hl
    refine g5_rs [(a_k, (oc5 a_h a_j a_pt k_ln k_se k_lh k_br k_we k_me k_ce k_wy k_ho k_ov)), (a_h, (oc1 e_wa e_le e_st e_fo e_lc a_l a_g a_b a_s a_p a_w e_gb a_bb)), (a_g, (oc6 6 5 a_gn e_g)), (a_gn, (arI G 30 f_g)), (a_b, (oc6 5 24 a_bn e_b)), (a_bn, (arI G 120 f_b)), (a_p, (oc6 8 5 a_pn e_p)), (a_pn, (arI G 40 f_p)), (a_s, (oc6 10 4 a_sn e_s)), (a_sn, (arI G 40 f_s)), (a_bb, (arJ G 24 f_bb)), (a_j, (oc2 a_as a_sk)), (a_as, (arI G 8 k_as)), (a_sk, (arJ G 50 k_sk)), (a_l, (arW G 6 f_l)), (a_pt, (arI G 200 k_pt)), (a_th, (oc7 a_h a_k a_ba a_ad e_fu a_cn a_nx a_hp a_hl a_lv)), (a_ba, (arJ G 24 k_ba)), (a_ad, (arI G 1536 k_ad))] hP hD ?_
    clear hP hD
    intro hP hD
    refine lv_iload hx hb dX7_load_68 (lv_at hl 1 rfl) ?_
    refine lv_aload_n hx hb dX7_load_70 rfl (lv_at hl 2 rfl) ?_
    refine va_get (D := G.1) (ci := 6) (v := .int e_s) (C := RX6) (T := TX6) (N := 4) hx hb hts inG_X6 hown hK hP 8 rfl rfl 3 (by decide +kernel) (hts _ fl_X7_48) (fun _ h9 => h9) rfl dX7_load_71 ?_
    refine lv_icmp_ge (tgt := 148) hx hb dX7_load_74 (by decide +kernel) (fun c_50 => ?_) (fun c_50 => ?_)
    ·
      have i_50 : k_i.toInt ≥ e_s.toInt := g5_ge (a := k_i.toInt) (b := e_s.toInt) rfl rfl c_50
      refine lv_aload_n hx hb dX7_load_148 rfl (lv_at hl 3 rfl) ?_
      refine lv_iload_n hx hb dX7_load_149 rfl (lv_at hl 0 rfl) ?_
      refine lv_iconst (v := 1) hx hb dX7_load_150 (by decide +kernel) ?_
      refine lv_isub hx hb dX7_load_151 ?_
      refine W.eq (g2 := F0 m 152 ls [.int (k_b - 1), .ref a_th]) rfl ?_
      refine va_put (D := G.1) (ci := 7) (v := .int (k_b - 1)) (ty := .int) (C := RX7) (T := TX7) (N := 10) hx hb hts inG_X7 tyX7 tyX7_ok nmX7 hown hK hP hD hS 16 rfl rfl 4 (by decide +kernel) (hts _ fl_X7_89) (fun _ h9 => h9) rfl (by decide +kernel) rfl rfl (Nat.le_of_ble_eq_true rfl) dX7_load_152 ?_
      clear hP hD hS
      intro H locs hP hD hS
      refine g5_rs [(a_k, (oc5 a_h a_j a_pt k_ln k_se k_lh k_br k_we k_me k_ce k_wy k_ho k_ov)), (a_h, (oc1 e_wa e_le e_st e_fo e_lc a_l a_g a_b a_s a_p a_w e_gb a_bb)), (a_g, (oc6 6 5 a_gn e_g)), (a_gn, (arI G 30 f_g)), (a_b, (oc6 5 24 a_bn e_b)), (a_bn, (arI G 120 f_b)), (a_p, (oc6 8 5 a_pn e_p)), (a_pn, (arI G 40 f_p)), (a_s, (oc6 10 4 a_sn e_s)), (a_sn, (arI G 40 f_s)), (a_bb, (arJ G 24 f_bb)), (a_j, (oc2 a_as a_sk)), (a_as, (arI G 8 k_as)), (a_sk, (arJ G 50 k_sk)), (a_l, (arW G 6 f_l)), (a_pt, (arI G 200 k_pt)), (a_th, (oc7 a_h a_k a_ba a_ad (k_b - 1) a_cn a_nx a_hp a_hl a_lv)), (a_ba, (arJ G 24 k_ba)), (a_ad, (arI G 1536 k_ad))] hP hD ?_
      clear hP hD
      intro hP hD
      exact W.vret hx hb hr (fun t ht hW => ⟨⟨[(a_k, (oc5 a_h a_j a_pt k_ln k_se k_lh k_br k_we k_me k_ce k_wy k_ho k_ov)), (a_h, (oc1 e_wa e_le e_st e_fo e_lc a_l a_g a_b a_s a_p a_w e_gb a_bb)), (a_g, (oc6 6 5 a_gn e_g)), (a_gn, (arI G 30 f_g)), (a_b, (oc6 5 24 a_bn e_b)), (a_bn, (arI G 120 f_b)), (a_p, (oc6 8 5 a_pn e_p)), (a_pn, (arI G 40 f_p)), (a_s, (oc6 10 4 a_sn e_s)), (a_sn, (arI G 40 f_s)), (a_bb, (arJ G 24 f_bb)), (a_j, (oc2 a_as a_sk)), (a_as, (arI G 8 k_as)), (a_sk, (arJ G 50 k_sk)), (a_l, (arW G 6 f_l)), (a_pt, (arI G 200 k_pt)), (a_th, (oc7 a_h a_k a_ba a_ad (k_b - 1) a_cn a_nx a_hp a_hl a_lv)), (a_ba, (arJ G 24 k_ba)), (a_ad, (arI G 1536 k_ad))], rfl, ⟨k_ln, k_se, k_lh, k_br, k_we, k_me, k_ce, k_wy, k_ho, k_ov, k_pt, k_as, k_sk, (k_b - 1), k_ba, k_ad, i_46, ld_end i_48 e_sh e_s5 (by omega) (by omega), rfl⟩, by rw [ht]; exact hP.sub [0, 1, 2, 3, 4, 5, 6, 7, 8, 9, 10, 11, 12, 13, 14, 15, 16, 17, 18] rfl, hD.sub [0, 1, 2, 3, 4, 5, 6, 7, 8, 9, 10, 11, 12, 13, 14, 15, 16, 17, 18] (by decide +kernel) rfl⟩, hS.F ht⟩) hS.2.2 dX7_load_155
    ·
      have i_50 : k_i.toInt < e_s.toInt := g5_geN (a := k_i.toInt) (b := e_s.toInt) rfl rfl c_50
      refine lv_iload_n hx hb dX7_load_77 rfl (lv_at hl 4 rfl) ?_
      refine lv_iload hx hb dX7_load_78 (lv_at hl 1 rfl) ?_
      refine lv_ishr hx hb dX7_load_80 ?_
      refine lv_iconst (v := 1) hx hb dX7_load_81 (by decide +kernel) ?_
      refine W.eq (g2 := F0 m 82 ls [.int 1, .int (p_s >>> (k_i &&& 31))]) rfl ?_
      refine lv_iand hx hb dX7_load_82 ?_
      refine lv_if_eq (tgt := 142) hx hb dX7_load_83 (by decide +kernel) (fun c_51 => ?_) (fun c_51 => ?_)
      ·
        have i_51 : ((p_s >>> (k_i &&& 31)) &&& 1).toInt = 0 := g5_eq (a := ((p_s >>> (k_i &&& 31)) &&& 1).toInt) (b := 0) rfl (by decide +kernel) c_51
        refine lv_iinc (v := (k_i + 1)) (lv' := [(4, .int (k_i + 1)), (2, .int k_b), (3, .ref a_s), (0, .ref a_th), (1, .int p_s)]) hx hb dX7_load_142 hl (k := 1) rfl rfl (by decide +kernel) rfl ?_
        clear hl
        intro ls hl
        have t_52 : (k_i + 1).toInt = k_i.toInt + 1 := g5_iadd (a := k_i.toInt) (b := 1) rfl (by decide +kernel) (by omega) (by omega)
        refine lv_goto (tgt := 68) hx hb dX7_load_145 (by decide +kernel) ?_
        exact ih_68_49 (k_b, (k_i + 1), k_se, k_lh, k_br, k_we, k_me, k_ce, k_wy, k_ho, k_ov, k_pt, k_as, k_sk, k_ln, k_ba, k_ad) ls H locs (show Int.toNat (10 - (k_i + 1).toInt) < Int.toNat (10 - k_i.toInt) from g_up (show k_i.toInt < (k_i + 1).toInt by omega) (show k_i.toInt < 10 by omega)) ⟨lv_sub hl [1, 0, 2, 3, 4] rfl, hP, hD, hS, ⟨by omega, by omega⟩, i_46, by omega, ld_stay i_48 e_sh (by omega) (by omega) (by omega)⟩
      ·
        have n_51 : gNe (((p_s >>> (k_i &&& 31)) &&& 1).toInt) (0) := g5_eqN (a := ((p_s >>> (k_i &&& 31)) &&& 1).toInt) (b := 0) rfl (by decide +kernel) c_51
        refine lv_aload_n hx hb dX7_load_86 rfl (lv_at hl 3 rfl) ?_
        refine va_get (D := G.1) (ci := 7) (v := .ref a_k) (C := RX7) (T := TX7) (N := 10) hx hb hts inG_X7 hown hK hP 16 rfl rfl 1 (by decide +kernel) (hts _ fl_X7_38) (fun _ h9 => h9) rfl dX7_load_87 ?_
        refine lv_aload_n hx hb dX7_load_90 rfl (lv_at hl 2 rfl) ?_
        refine lv_iload hx hb dX7_load_91 (lv_at hl 1 rfl) ?_
        refine W.eq (g2 := F0 m 93 ls [.int k_i, .ref a_s, .ref a_k]) rfl ?_
        refine lv_iconst (v := 0) hx hb dX7_load_93 (by decide +kernel) ?_
        obtain ⟨hPc, hDc, hFc⟩ := g5_sub3 (wc := [(a_s, (oc6 10 4 a_sn e_s)), (a_sn, (arI G 40 f_s))]) hP hD hS hA [8, 9] (by decide +kernel) rfl
        refine va_calli (va_runV (As := [.int k_i, .int 0]) (rest := [.ref a_k]) ⟨hx, hb, hml, hown, hts⟩ (t_get_S l G a_s a_sn H.size e_s k_i 0 f_s h_e_s) (cwV 2 hts gV_X7_72 rfl rfl rfl hv_X6_get ⟨Nat.le_of_ble_eq_true rfl, Nat.le_of_ble_eq_true rfl⟩) (g5_preV hPc hK hDc hN hT hS hFc (ci := 6) (q0 := 0) rfl rfl) rfl rfl hl.1 rfl (lv_room (Nat.le_of_ble_eq_true rfl)) dX7_load_94 ⟨Nat.le_of_ble_eq_true rfl, Nat.le_of_ble_eq_true rfl⟩) hS (fun q _ h => hFc q h) hFc (fun r u t H locs ht hvm hw hB hz1 hk1 hS => ?_)
        obtain ⟨hP1, hD1⟩ := hB
        have hP1 := g5_ht ht hP1
        obtain ⟨z54, (i_53 : z54 = tget f_s e_s.toInt 4 k_i.toInt (0 : Int32).toInt), y55, rfl⟩ := hw
        have hJ9 := va_join (wr := [(a_k, (oc5 a_h a_j a_pt k_ln k_se k_lh k_br k_we k_me k_ce k_wy k_ho k_ov)), (a_h, (oc1 e_wa e_le e_st e_fo e_lc a_l a_g a_b a_s a_p a_w e_gb a_bb)), (a_g, (oc6 6 5 a_gn e_g)), (a_gn, (arI G 30 f_g)), (a_b, (oc6 5 24 a_bn e_b)), (a_bn, (arI G 120 f_b)), (a_p, (oc6 8 5 a_pn e_p)), (a_pn, (arI G 40 f_p)), (a_bb, (arJ G 24 f_bb)), (a_j, (oc2 a_as a_sk)), (a_as, (arI G 8 k_as)), (a_sk, (arJ G 50 k_sk)), (a_l, (arW G 6 f_l)), (a_pt, (arI G 200 k_pt)), (a_th, (oc7 a_h a_k a_ba a_ad e_fu a_cn a_nx a_hp a_hl a_lv)), (a_ba, (arJ G 24 k_ba)), (a_ad, (arI G 1536 k_ad))]) hP hD [8, 9] [0, 1, 2, 3, 4, 5, 6, 7, 10, 11, 12, 13, 14, 15, 16, 17, 18] rfl rfl (by decide +kernel) (by decide +kernel) hk1 hFc hP1 hD1
        clear hP hD hPc hDc hFc ht hvm hz1 hk1 hP1 hD1
        obtain ⟨hP, hD⟩ := hJ9
        refine g5_rs [(a_k, (oc5 a_h a_j a_pt k_ln k_se k_lh k_br k_we k_me k_ce k_wy k_ho k_ov)), (a_h, (oc1 e_wa e_le e_st e_fo e_lc a_l a_g a_b a_s a_p a_w e_gb a_bb)), (a_g, (oc6 6 5 a_gn e_g)), (a_gn, (arI G 30 f_g)), (a_b, (oc6 5 24 a_bn e_b)), (a_bn, (arI G 120 f_b)), (a_p, (oc6 8 5 a_pn e_p)), (a_pn, (arI G 40 f_p)), (a_bb, (arJ G 24 f_bb)), (a_j, (oc2 a_as a_sk)), (a_as, (arI G 8 k_as)), (a_sk, (arJ G 50 k_sk)), (a_l, (arW G 6 f_l)), (a_pt, (arI G 200 k_pt)), (a_th, (oc7 a_h a_k a_ba a_ad e_fu a_cn a_nx a_hp a_hl a_lv)), (a_ba, (arJ G 24 k_ba)), (a_ad, (arI G 1536 k_ad)), (a_s, (oc6 10 4 a_sn e_s)), (a_sn, (arI G 40 f_s))] hP hD ?_
        clear hP hD
        intro hP hD
        refine g5_ti (v := z54) y55 ?_
        refine lv_aload_n hx hb dX7_load_97 rfl (lv_at hl 2 rfl) ?_
        refine lv_iload hx hb dX7_load_98 (lv_at hl 1 rfl) ?_
        refine lv_iconst (v := 1) hx hb dX7_load_100 (by decide +kernel) ?_
        refine W.eq (g2 := F0 m 101 ls [.int 1, .int k_i, .ref a_s, .int z54, .ref a_k]) rfl ?_
        obtain ⟨hPc, hDc, hFc⟩ := g5_sub3 (wc := [(a_s, (oc6 10 4 a_sn e_s)), (a_sn, (arI G 40 f_s))]) hP hD hS hA [17, 18] (by decide +kernel) rfl
        refine va_calli (va_runV (As := [.int k_i, .int 1]) (rest := [.int z54, .ref a_k]) ⟨hx, hb, hml, hown, hts⟩ (t_get_S l G a_s a_sn H.size e_s k_i 1 f_s h_e_s) (cwV 2 hts gV_X7_72 rfl rfl rfl hv_X6_get ⟨Nat.le_of_ble_eq_true rfl, Nat.le_of_ble_eq_true rfl⟩) (g5_preV hPc hK hDc hN hT hS hFc (ci := 6) (q0 := 0) rfl rfl) rfl rfl hl.1 rfl (lv_room (Nat.le_of_ble_eq_true rfl)) dX7_load_101 ⟨Nat.le_of_ble_eq_true rfl, Nat.le_of_ble_eq_true rfl⟩) hS (fun q _ h => hFc q h) hFc (fun r u t H locs ht hvm hw hB hz1 hk1 hS => ?_)
        obtain ⟨hP1, hD1⟩ := hB
        have hP1 := g5_ht ht hP1
        obtain ⟨z57, (i_56 : z57 = tget f_s e_s.toInt 4 k_i.toInt (1 : Int32).toInt), y58, rfl⟩ := hw
        have hJ9 := va_join (wr := [(a_k, (oc5 a_h a_j a_pt k_ln k_se k_lh k_br k_we k_me k_ce k_wy k_ho k_ov)), (a_h, (oc1 e_wa e_le e_st e_fo e_lc a_l a_g a_b a_s a_p a_w e_gb a_bb)), (a_g, (oc6 6 5 a_gn e_g)), (a_gn, (arI G 30 f_g)), (a_b, (oc6 5 24 a_bn e_b)), (a_bn, (arI G 120 f_b)), (a_p, (oc6 8 5 a_pn e_p)), (a_pn, (arI G 40 f_p)), (a_bb, (arJ G 24 f_bb)), (a_j, (oc2 a_as a_sk)), (a_as, (arI G 8 k_as)), (a_sk, (arJ G 50 k_sk)), (a_l, (arW G 6 f_l)), (a_pt, (arI G 200 k_pt)), (a_th, (oc7 a_h a_k a_ba a_ad e_fu a_cn a_nx a_hp a_hl a_lv)), (a_ba, (arJ G 24 k_ba)), (a_ad, (arI G 1536 k_ad))]) hP hD [17, 18] [0, 1, 2, 3, 4, 5, 6, 7, 8, 9, 10, 11, 12, 13, 14, 15, 16] rfl rfl (by decide +kernel) (by decide +kernel) hk1 hFc hP1 hD1
        clear hP hD hPc hDc hFc ht hvm hz1 hk1 hP1 hD1
        obtain ⟨hP, hD⟩ := hJ9
        refine g5_rs [(a_k, (oc5 a_h a_j a_pt k_ln k_se k_lh k_br k_we k_me k_ce k_wy k_ho k_ov)), (a_h, (oc1 e_wa e_le e_st e_fo e_lc a_l a_g a_b a_s a_p a_w e_gb a_bb)), (a_g, (oc6 6 5 a_gn e_g)), (a_gn, (arI G 30 f_g)), (a_b, (oc6 5 24 a_bn e_b)), (a_bn, (arI G 120 f_b)), (a_p, (oc6 8 5 a_pn e_p)), (a_pn, (arI G 40 f_p)), (a_bb, (arJ G 24 f_bb)), (a_j, (oc2 a_as a_sk)), (a_as, (arI G 8 k_as)), (a_sk, (arJ G 50 k_sk)), (a_l, (arW G 6 f_l)), (a_pt, (arI G 200 k_pt)), (a_th, (oc7 a_h a_k a_ba a_ad e_fu a_cn a_nx a_hp a_hl a_lv)), (a_ba, (arJ G 24 k_ba)), (a_ad, (arI G 1536 k_ad)), (a_s, (oc6 10 4 a_sn e_s)), (a_sn, (arI G 40 f_s))] hP hD ?_
        clear hP hD
        intro hP hD
        refine g5_ti (v := z57) y58 ?_
        refine lv_aload_n hx hb dX7_load_104 rfl (lv_at hl 2 rfl) ?_
        refine lv_iload hx hb dX7_load_105 (lv_at hl 1 rfl) ?_
        refine lv_iconst (v := 2) hx hb dX7_load_107 (by decide +kernel) ?_
        obtain ⟨hPc, hDc, hFc⟩ := g5_sub3 (wc := [(a_s, (oc6 10 4 a_sn e_s)), (a_sn, (arI G 40 f_s))]) hP hD hS hA [17, 18] (by decide +kernel) rfl
        refine va_calli (va_runV (As := [.int k_i, .int 2]) (rest := [.int z57, .int z54, .ref a_k]) ⟨hx, hb, hml, hown, hts⟩ (t_get_S l G a_s a_sn H.size e_s k_i 2 f_s h_e_s) (cwV 2 hts gV_X7_72 rfl rfl rfl hv_X6_get ⟨Nat.le_of_ble_eq_true rfl, Nat.le_of_ble_eq_true rfl⟩) (g5_preV hPc hK hDc hN hT hS hFc (ci := 6) (q0 := 0) rfl rfl) rfl rfl hl.1 rfl (lv_room (Nat.le_of_ble_eq_true rfl)) dX7_load_108 ⟨Nat.le_of_ble_eq_true rfl, Nat.le_of_ble_eq_true rfl⟩) hS (fun q _ h => hFc q h) hFc (fun r u t H locs ht hvm hw hB hz1 hk1 hS => ?_)
        obtain ⟨hP1, hD1⟩ := hB
        have hP1 := g5_ht ht hP1
        obtain ⟨z60, (i_59 : z60 = tget f_s e_s.toInt 4 k_i.toInt (2 : Int32).toInt), y61, rfl⟩ := hw
        have hJ9 := va_join (wr := [(a_k, (oc5 a_h a_j a_pt k_ln k_se k_lh k_br k_we k_me k_ce k_wy k_ho k_ov)), (a_h, (oc1 e_wa e_le e_st e_fo e_lc a_l a_g a_b a_s a_p a_w e_gb a_bb)), (a_g, (oc6 6 5 a_gn e_g)), (a_gn, (arI G 30 f_g)), (a_b, (oc6 5 24 a_bn e_b)), (a_bn, (arI G 120 f_b)), (a_p, (oc6 8 5 a_pn e_p)), (a_pn, (arI G 40 f_p)), (a_bb, (arJ G 24 f_bb)), (a_j, (oc2 a_as a_sk)), (a_as, (arI G 8 k_as)), (a_sk, (arJ G 50 k_sk)), (a_l, (arW G 6 f_l)), (a_pt, (arI G 200 k_pt)), (a_th, (oc7 a_h a_k a_ba a_ad e_fu a_cn a_nx a_hp a_hl a_lv)), (a_ba, (arJ G 24 k_ba)), (a_ad, (arI G 1536 k_ad))]) hP hD [17, 18] [0, 1, 2, 3, 4, 5, 6, 7, 8, 9, 10, 11, 12, 13, 14, 15, 16] rfl rfl (by decide +kernel) (by decide +kernel) hk1 hFc hP1 hD1
        clear hP hD hPc hDc hFc ht hvm hz1 hk1 hP1 hD1
        obtain ⟨hP, hD⟩ := hJ9
        refine g5_rs [(a_k, (oc5 a_h a_j a_pt k_ln k_se k_lh k_br k_we k_me k_ce k_wy k_ho k_ov)), (a_h, (oc1 e_wa e_le e_st e_fo e_lc a_l a_g a_b a_s a_p a_w e_gb a_bb)), (a_g, (oc6 6 5 a_gn e_g)), (a_gn, (arI G 30 f_g)), (a_b, (oc6 5 24 a_bn e_b)), (a_bn, (arI G 120 f_b)), (a_p, (oc6 8 5 a_pn e_p)), (a_pn, (arI G 40 f_p)), (a_bb, (arJ G 24 f_bb)), (a_j, (oc2 a_as a_sk)), (a_as, (arI G 8 k_as)), (a_sk, (arJ G 50 k_sk)), (a_l, (arW G 6 f_l)), (a_pt, (arI G 200 k_pt)), (a_th, (oc7 a_h a_k a_ba a_ad e_fu a_cn a_nx a_hp a_hl a_lv)), (a_ba, (arJ G 24 k_ba)), (a_ad, (arI G 1536 k_ad)), (a_s, (oc6 10 4 a_sn e_s)), (a_sn, (arI G 40 f_s))] hP hD ?_
        clear hP hD
        intro hP hD
        refine g5_ti (v := z60) y61 ?_
        refine W.eq (g2 := F0 m 111 ls [.int z60, .int z57, .int z54, .ref a_k]) rfl ?_
        refine lv_iconst (v := 0) hx hb dX7_load_111 (by decide +kernel) ?_
        obtain ⟨hPc, hDc, hFc⟩ := g5_sub3 (wc := [(a_k, (oc5 a_h a_j a_pt k_ln k_se k_lh k_br k_we k_me k_ce k_wy k_ho k_ov)), (a_h, (oc1 e_wa e_le e_st e_fo e_lc a_l a_g a_b a_s a_p a_w e_gb a_bb)), (a_g, (oc6 6 5 a_gn e_g)), (a_gn, (arI G 30 f_g)), (a_b, (oc6 5 24 a_bn e_b)), (a_bn, (arI G 120 f_b)), (a_p, (oc6 8 5 a_pn e_p)), (a_pn, (arI G 40 f_p)), (a_bb, (arJ G 24 f_bb)), (a_j, (oc2 a_as a_sk)), (a_as, (arI G 8 k_as)), (a_sk, (arJ G 50 k_sk)), (a_l, (arW G 6 f_l)), (a_pt, (arI G 200 k_pt))]) hP hD hS hA [0, 1, 2, 3, 4, 5, 6, 7, 8, 9, 10, 11, 12, 13] (by decide +kernel) rfl
        refine va_callv (va_runV (As := [.int z54, .int z57, .int z60, .int 0]) (rest := []) ⟨hx, hb, hml, hown, hts⟩ (k_runN l G a_k a_h a_g a_gn a_b a_bn a_p a_pn a_bb a_j a_as a_sk a_l a_pt a_s a_w H.size e_le e_st e_fo e_lc e_g e_b e_p k_ln k_se k_lh k_br k_we k_me k_ce k_wy k_ho k_ov z54 z57 z60 0 e_wa e_gb f_g f_b f_p f_bb k_as k_sk f_l k_pt h_e_g h_e_b h_e_p i_46 (e_gk) (e_pk) (e_gi) (e_f)) (cwV 4 hts gV_X7_76 rfl rfl rfl hv_X5_run ⟨Nat.le_of_ble_eq_true rfl, Nat.le_of_ble_eq_true rfl⟩) (g5_preV hPc hK hDc hN hT hS hFc (ci := 5) (q0 := 0) rfl rfl) rfl rfl hl.1 rfl (lv_room (Nat.le_of_ble_eq_true rfl)) dX7_load_112 ⟨Nat.le_of_ble_eq_true rfl, Nat.le_of_ble_eq_true rfl⟩) hS (fun q _ h => hFc q h) hFc (fun u t H locs ht hvm hw hB hz1 hk1 hS => ?_)
        obtain ⟨hP1, hD1⟩ := hB
        have hP1 := g5_ht ht hP1
        obtain ⟨z65, z66, z67, z68, z69, z70, z71, z72, z73, z74, z75, z76, z77, (i_62 : 0 ≤ z65.toInt ∧ z65.toInt ≤ 200), (i_63 : 0 ≤ z74.toInt ∧ z74.toInt ≤ 1), (i_64 : ∀ j : Nat, (j : Int) < z65.toInt → 0 ≤ (z75 j).toInt ∧ (z75 j).toInt ≤ 1535), rfl⟩ := hw
        have hJ9 := va_join (wr := [(a_th, (oc7 a_h a_k a_ba a_ad e_fu a_cn a_nx a_hp a_hl a_lv)), (a_ba, (arJ G 24 k_ba)), (a_ad, (arI G 1536 k_ad)), (a_s, (oc6 10 4 a_sn e_s)), (a_sn, (arI G 40 f_s))]) hP hD [0, 1, 2, 3, 4, 5, 6, 7, 8, 9, 10, 11, 12, 13] [14, 15, 16, 17, 18] rfl rfl (by decide +kernel) (by decide +kernel) hk1 hFc hP1 hD1
        clear hP hD hPc hDc hFc ht hvm hz1 hk1 hP1 hD1
        obtain ⟨hP, hD⟩ := hJ9
        refine g5_rs [(a_th, (oc7 a_h a_k a_ba a_ad e_fu a_cn a_nx a_hp a_hl a_lv)), (a_ba, (arJ G 24 k_ba)), (a_ad, (arI G 1536 k_ad)), (a_s, (oc6 10 4 a_sn e_s)), (a_sn, (arI G 40 f_s)), (a_k, (oc5 a_h a_j a_pt z65 z66 z67 z68 z69 z70 z71 z72 z73 z74)), (a_h, (oc1 e_wa e_le e_st e_fo e_lc a_l a_g a_b a_s a_p a_w e_gb a_bb)), (a_g, (oc6 6 5 a_gn e_g)), (a_gn, (arI G 30 f_g)), (a_b, (oc6 5 24 a_bn e_b)), (a_bn, (arI G 120 f_b)), (a_p, (oc6 8 5 a_pn e_p)), (a_pn, (arI G 40 f_p)), (a_bb, (arJ G 24 f_bb)), (a_j, (oc2 a_as a_sk)), (a_as, (arI G 8 z76)), (a_sk, (arJ G 50 z77)), (a_l, (arW G 6 f_l)), (a_pt, (arI G 200 z75))] hP hD ?_
        clear hP hD
        intro hP hD
        refine lv_aload_n hx hb dX7_load_115 rfl (lv_at hl 2 rfl) ?_
        refine lv_iload hx hb dX7_load_116 (lv_at hl 1 rfl) ?_
        refine lv_iconst (v := 3) hx hb dX7_load_118 (by decide +kernel) ?_
        refine W.eq (g2 := F0 m 119 ls [.int 3, .int k_i, .ref a_s]) rfl ?_
        obtain ⟨hPc, hDc, hFc⟩ := g5_sub3 (wc := [(a_s, (oc6 10 4 a_sn e_s)), (a_sn, (arI G 40 f_s))]) hP hD hS hA [3, 4] (by decide +kernel) rfl
        refine va_calli (va_runV (As := [.int k_i, .int 3]) (rest := []) ⟨hx, hb, hml, hown, hts⟩ (t_get_S l G a_s a_sn H.size e_s k_i 3 f_s h_e_s) (cwV 2 hts gV_X7_72 rfl rfl rfl hv_X6_get ⟨Nat.le_of_ble_eq_true rfl, Nat.le_of_ble_eq_true rfl⟩) (g5_preV hPc hK hDc hN hT hS hFc (ci := 6) (q0 := 0) rfl rfl) rfl rfl hl.1 rfl (lv_room (Nat.le_of_ble_eq_true rfl)) dX7_load_119 ⟨Nat.le_of_ble_eq_true rfl, Nat.le_of_ble_eq_true rfl⟩) hS (fun q _ h => hFc q h) hFc (fun r u t H locs ht hvm hw hB hz1 hk1 hS => ?_)
        obtain ⟨hP1, hD1⟩ := hB
        have hP1 := g5_ht ht hP1
        obtain ⟨z79, (i_78 : z79 = tget f_s e_s.toInt 4 k_i.toInt (3 : Int32).toInt), y80, rfl⟩ := hw
        have hJ9 := va_join (wr := [(a_th, (oc7 a_h a_k a_ba a_ad e_fu a_cn a_nx a_hp a_hl a_lv)), (a_ba, (arJ G 24 k_ba)), (a_ad, (arI G 1536 k_ad)), (a_k, (oc5 a_h a_j a_pt z65 z66 z67 z68 z69 z70 z71 z72 z73 z74)), (a_h, (oc1 e_wa e_le e_st e_fo e_lc a_l a_g a_b a_s a_p a_w e_gb a_bb)), (a_g, (oc6 6 5 a_gn e_g)), (a_gn, (arI G 30 f_g)), (a_b, (oc6 5 24 a_bn e_b)), (a_bn, (arI G 120 f_b)), (a_p, (oc6 8 5 a_pn e_p)), (a_pn, (arI G 40 f_p)), (a_bb, (arJ G 24 f_bb)), (a_j, (oc2 a_as a_sk)), (a_as, (arI G 8 z76)), (a_sk, (arJ G 50 z77)), (a_l, (arW G 6 f_l)), (a_pt, (arI G 200 z75))]) hP hD [3, 4] [0, 1, 2, 5, 6, 7, 8, 9, 10, 11, 12, 13, 14, 15, 16, 17, 18] rfl rfl (by decide +kernel) (by decide +kernel) hk1 hFc hP1 hD1
        clear hP hD hPc hDc hFc ht hvm hz1 hk1 hP1 hD1
        obtain ⟨hP, hD⟩ := hJ9
        refine g5_rs [(a_th, (oc7 a_h a_k a_ba a_ad e_fu a_cn a_nx a_hp a_hl a_lv)), (a_ba, (arJ G 24 k_ba)), (a_ad, (arI G 1536 k_ad)), (a_k, (oc5 a_h a_j a_pt z65 z66 z67 z68 z69 z70 z71 z72 z73 z74)), (a_h, (oc1 e_wa e_le e_st e_fo e_lc a_l a_g a_b a_s a_p a_w e_gb a_bb)), (a_g, (oc6 6 5 a_gn e_g)), (a_gn, (arI G 30 f_g)), (a_b, (oc6 5 24 a_bn e_b)), (a_bn, (arI G 120 f_b)), (a_p, (oc6 8 5 a_pn e_p)), (a_pn, (arI G 40 f_p)), (a_bb, (arJ G 24 f_bb)), (a_j, (oc2 a_as a_sk)), (a_as, (arI G 8 z76)), (a_sk, (arJ G 50 z77)), (a_l, (arW G 6 f_l)), (a_pt, (arI G 200 z75)), (a_s, (oc6 10 4 a_sn e_s)), (a_sn, (arI G 40 f_s))] hP hD ?_
        clear hP hD
        intro hP hD
        refine g5_ti (v := z79) y80 ?_
        refine lv_iconst (v := 1) hx hb dX7_load_122 (by decide +kernel) ?_
        refine lv_icmp_ne (tgt := 138) hx hb dX7_load_123 (by decide +kernel) (fun c_81 => ?_) (fun c_81 => ?_)
        ·
          have n_81 : gNe (z79.toInt) (1) := g5_ne (a := z79.toInt) (b := 1) rfl (by decide +kernel) c_81
          refine lv_aload_n hx hb dX7_load_138 rfl (lv_at hl 3 rfl) ?_
          obtain ⟨hPc, hDc, hFc⟩ := g5_sub3 (wc := [(a_th, (oc7 a_h a_k a_ba a_ad e_fu a_cn a_nx a_hp a_hl a_lv)), (a_k, (oc5 a_h a_j a_pt z65 z66 z67 z68 z69 z70 z71 z72 z73 z74)), (a_pt, (arI G 200 z75)), (a_ba, (arJ G 24 k_ba))]) hP hD hS hA [0, 3, 16, 1] (by decide +kernel) rfl
          refine va_callv (va_runV (As := []) (rest := []) ⟨hx, hb, hml, hown, hts⟩ (th_bar l G a_th a_k a_pt a_ba a_h a_ad a_cn a_nx a_hp a_hl a_lv a_j H.size e_fu z65 z66 z67 z68 z69 z70 z71 z72 z73 z74 z75 k_ba i_62 i_63 (i_64)) (cwV 0 hts gV_X7_86 rfl rfl rfl hv_X7_barPoints ⟨Nat.le_of_ble_eq_true rfl, Nat.le_of_ble_eq_true rfl⟩) (g5_preV hPc hK hDc hN hT hS hFc (ci := 7) (q0 := 0) rfl rfl) rfl rfl hl.1 rfl (lv_room (Nat.le_of_ble_eq_true rfl)) dX7_load_139 ⟨Nat.le_of_ble_eq_true rfl, Nat.le_of_ble_eq_true rfl⟩) hS (fun q _ h => hFc q h) hFc (fun u t H locs ht hvm hw hB hz1 hk1 hS => ?_)
          obtain ⟨hP1, hD1⟩ := hB
          have hP1 := g5_ht ht hP1
          obtain ⟨z82, rfl⟩ := hw
          have hJ9 := va_join (wr := [(a_ad, (arI G 1536 k_ad)), (a_h, (oc1 e_wa e_le e_st e_fo e_lc a_l a_g a_b a_s a_p a_w e_gb a_bb)), (a_g, (oc6 6 5 a_gn e_g)), (a_gn, (arI G 30 f_g)), (a_b, (oc6 5 24 a_bn e_b)), (a_bn, (arI G 120 f_b)), (a_p, (oc6 8 5 a_pn e_p)), (a_pn, (arI G 40 f_p)), (a_bb, (arJ G 24 f_bb)), (a_j, (oc2 a_as a_sk)), (a_as, (arI G 8 z76)), (a_sk, (arJ G 50 z77)), (a_l, (arW G 6 f_l)), (a_s, (oc6 10 4 a_sn e_s)), (a_sn, (arI G 40 f_s))]) hP hD [0, 3, 16, 1] [2, 4, 5, 6, 7, 8, 9, 10, 11, 12, 13, 14, 15, 17, 18] rfl rfl (by decide +kernel) (by decide +kernel) hk1 hFc hP1 hD1
          clear hP hD hPc hDc hFc ht hvm hz1 hk1 hP1 hD1
          obtain ⟨hP, hD⟩ := hJ9
          refine g5_rs [(a_ad, (arI G 1536 k_ad)), (a_h, (oc1 e_wa e_le e_st e_fo e_lc a_l a_g a_b a_s a_p a_w e_gb a_bb)), (a_g, (oc6 6 5 a_gn e_g)), (a_gn, (arI G 30 f_g)), (a_b, (oc6 5 24 a_bn e_b)), (a_bn, (arI G 120 f_b)), (a_p, (oc6 8 5 a_pn e_p)), (a_pn, (arI G 40 f_p)), (a_bb, (arJ G 24 f_bb)), (a_j, (oc2 a_as a_sk)), (a_as, (arI G 8 z76)), (a_sk, (arJ G 50 z77)), (a_l, (arW G 6 f_l)), (a_s, (oc6 10 4 a_sn e_s)), (a_sn, (arI G 40 f_s)), (a_th, (oc7 a_h a_k a_ba a_ad e_fu a_cn a_nx a_hp a_hl a_lv)), (a_k, (oc5 a_h a_j a_pt z65 z66 z67 z68 z69 z70 z71 z72 z73 z74)), (a_pt, (arI G 200 z75)), (a_ba, (arJ G 24 z82))] hP hD ?_
          clear hP hD
          intro hP hD
          refine lv_iinc (v := (k_i + 1)) (lv' := [(4, .int (k_i + 1)), (2, .int k_b), (3, .ref a_s), (0, .ref a_th), (1, .int p_s)]) hx hb dX7_load_142 hl (k := 1) rfl rfl (by decide +kernel) rfl ?_
          clear hl
          intro ls hl
          have t_83 : (k_i + 1).toInt = k_i.toInt + 1 := g5_iadd (a := k_i.toInt) (b := 1) rfl (by decide +kernel) (by omega) (by omega)
          refine lv_goto (tgt := 68) hx hb dX7_load_145 (by decide +kernel) ?_
          exact ih_68_49 (k_b, (k_i + 1), z66, z67, z68, z69, z70, z71, z72, z73, z74, z75, z76, z77, z65, z82, k_ad) ls H locs (show Int.toNat (10 - (k_i + 1).toInt) < Int.toNat (10 - k_i.toInt) from g_up (show k_i.toInt < (k_i + 1).toInt by omega) (show k_i.toInt < 10 by omega)) ⟨lv_sub hl [1, 0, 2, 3, 4] rfl, hP.sub [16, 1, 2, 3, 4, 5, 6, 7, 13, 14, 8, 9, 10, 11, 12, 17, 15, 18, 0] rfl, hD.sub [16, 1, 2, 3, 4, 5, 6, 7, 13, 14, 8, 9, 10, 11, 12, 17, 15, 18, 0] (by decide +kernel) rfl, hS, ⟨by omega, by omega⟩, i_63, by omega, ld_stay i_48 e_sh (by omega) (by omega) (by omega)⟩
        ·
          have i_81 : z79.toInt = 1 := g5_neN (a := z79.toInt) (b := 1) rfl (by decide +kernel) c_81
          obtain ⟨gs_84, hg1_84, hg2_84, hg3_84⟩ := id i_48
          have hg4_84 : gs_84 < 5 := ld_lt hg1_84 e_sh e_s5 i_78 (by omega) (by omega) (by omega)
          have hg5_84 : mOK k_ad (gs_84 + 1) := mOK_up hg3_84
          refine lv_aload_n hx hb dX7_load_126 rfl (lv_at hl 3 rfl) ?_
          refine lv_iload_n hx hb dX7_load_127 rfl (lv_at hl 0 rfl) ?_
          obtain ⟨hPc, hDc, hFc⟩ := g5_sub3 (wc := [(a_th, (oc7 a_h a_k a_ba a_ad e_fu a_cn a_nx a_hp a_hl a_lv)), (a_k, (oc5 a_h a_j a_pt z65 z66 z67 z68 z69 z70 z71 z72 z73 z74)), (a_pt, (arI G 200 z75)), (a_ad, (arI G 1536 k_ad))]) hP hD hS hA [0, 3, 16, 2] (by decide +kernel) rfl
          refine va_callv (va_runV (As := [.int k_b]) (rest := []) ⟨hx, hb, hml, hown, hts⟩ (th_add l G a_th a_k a_pt a_ad a_h a_ba a_cn a_nx a_hp a_hl a_lv a_j H.size e_fu z65 z66 z67 z68 z69 z70 z71 z72 z73 z74 k_b z75 k_ad gs_84 i_62 i_63 (i_64) (hg4_84) (hg2_84) (hg5_84)) (cwV 1 hts gV_X7_82 rfl rfl rfl hv_X7_addPoints ⟨Nat.le_of_ble_eq_true rfl, Nat.le_of_ble_eq_true rfl⟩) (g5_preV hPc hK hDc hN hT hS hFc (ci := 7) (q0 := 0) rfl rfl) rfl rfl hl.1 rfl (lv_room (Nat.le_of_ble_eq_true rfl)) dX7_load_128 ⟨Nat.le_of_ble_eq_true rfl, Nat.le_of_ble_eq_true rfl⟩) hS (fun q _ h => hFc q h) hFc (fun u t H locs ht hvm hw hB hz1 hk1 hS => ?_)
          obtain ⟨hP1, hD1⟩ := hB
          have hP1 := g5_ht ht hP1
          obtain ⟨z86, (i_85 : mOK z86 (gs_84 + 1)), rfl⟩ := hw
          have hJ9 := va_join (wr := [(a_ba, (arJ G 24 k_ba)), (a_h, (oc1 e_wa e_le e_st e_fo e_lc a_l a_g a_b a_s a_p a_w e_gb a_bb)), (a_g, (oc6 6 5 a_gn e_g)), (a_gn, (arI G 30 f_g)), (a_b, (oc6 5 24 a_bn e_b)), (a_bn, (arI G 120 f_b)), (a_p, (oc6 8 5 a_pn e_p)), (a_pn, (arI G 40 f_p)), (a_bb, (arJ G 24 f_bb)), (a_j, (oc2 a_as a_sk)), (a_as, (arI G 8 z76)), (a_sk, (arJ G 50 z77)), (a_l, (arW G 6 f_l)), (a_s, (oc6 10 4 a_sn e_s)), (a_sn, (arI G 40 f_s))]) hP hD [0, 3, 16, 2] [1, 4, 5, 6, 7, 8, 9, 10, 11, 12, 13, 14, 15, 17, 18] rfl rfl (by decide +kernel) (by decide +kernel) hk1 hFc hP1 hD1
          clear hP hD hPc hDc hFc ht hvm hz1 hk1 hP1 hD1
          obtain ⟨hP, hD⟩ := hJ9
          refine g5_rs [(a_ba, (arJ G 24 k_ba)), (a_h, (oc1 e_wa e_le e_st e_fo e_lc a_l a_g a_b a_s a_p a_w e_gb a_bb)), (a_g, (oc6 6 5 a_gn e_g)), (a_gn, (arI G 30 f_g)), (a_b, (oc6 5 24 a_bn e_b)), (a_bn, (arI G 120 f_b)), (a_p, (oc6 8 5 a_pn e_p)), (a_pn, (arI G 40 f_p)), (a_bb, (arJ G 24 f_bb)), (a_j, (oc2 a_as a_sk)), (a_as, (arI G 8 z76)), (a_sk, (arJ G 50 z77)), (a_l, (arW G 6 f_l)), (a_s, (oc6 10 4 a_sn e_s)), (a_sn, (arI G 40 f_s)), (a_th, (oc7 a_h a_k a_ba a_ad e_fu a_cn a_nx a_hp a_hl a_lv)), (a_k, (oc5 a_h a_j a_pt z65 z66 z67 z68 z69 z70 z71 z72 z73 z74)), (a_pt, (arI G 200 z75)), (a_ad, (arI G 1536 z86))] hP hD ?_
          clear hP hD
          intro hP hD
          refine lv_iload_n hx hb dX7_load_131 rfl (lv_at hl 0 rfl) ?_
          refine W.eq (g2 := F0 m 132 ls [.int k_b]) rfl ?_
          refine lv_iconst (v := 1) hx hb dX7_load_132 (by decide +kernel) ?_
          refine lv_ishl hx hb dX7_load_133 ?_
          refine lv_istore_n (lv' := [(2, .int (k_b <<< (1 &&& 31))), (4, .int k_i), (3, .ref a_s), (0, .ref a_th), (1, .int p_s)]) hx hb dX7_load_134 rfl hl (by decide +kernel) rfl ?_
          clear hl
          intro ls hl
          refine lv_goto (tgt := 142) hx hb dX7_load_135 (by decide +kernel) ?_
          refine lv_iinc (v := (k_i + 1)) (lv' := [(4, .int (k_i + 1)), (2, .int (k_b <<< (1 &&& 31))), (3, .ref a_s), (0, .ref a_th), (1, .int p_s)]) hx hb dX7_load_142 hl (k := 1) rfl rfl (by decide +kernel) rfl ?_
          clear hl
          intro ls hl
          have t_87 : (k_i + 1).toInt = k_i.toInt + 1 := g5_iadd (a := k_i.toInt) (b := 1) rfl (by decide +kernel) (by omega) (by omega)
          refine W.eq (g2 := F0 m 145 ls []) rfl ?_
          refine lv_goto (tgt := 68) hx hb dX7_load_145 (by decide +kernel) ?_
          exact ih_68_49 ((k_b <<< (1 &&& 31)), (k_i + 1), z66, z67, z68, z69, z70, z71, z72, z73, z74, z75, z76, z77, z65, k_ba, z86) ls H locs (show Int.toNat (10 - (k_i + 1).toInt) < Int.toNat (10 - k_i.toInt) from g_up (show k_i.toInt < (k_i + 1).toInt by omega) (show k_i.toInt < 10 by omega)) ⟨lv_sub hl [1, 0, 2, 3, 4] rfl, hP.sub [16, 1, 2, 3, 4, 5, 6, 7, 13, 14, 8, 9, 10, 11, 12, 17, 15, 0, 18] rfl, hD.sub [16, 1, 2, 3, 4, 5, 6, 7, 13, 14, 8, 9, 10, 11, 12, 17, 15, 0, 18] (by decide +kernel) rfl, hS, ⟨by omega, by omega⟩, i_63, by omega, ld_go hg1_84 hg2_84 hg4_84 i_85 i_78 (by omega) (by omega) (by omega)⟩
