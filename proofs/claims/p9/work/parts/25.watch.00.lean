theorem dgJ7_fill_d0a16_0 : ∀ r ∈ ([(0, (.iconst 0, 1)), (1, (.istore_n 3, 1)), (2, (.aload_n 0, 1)), (3, (.arraylength, 1)), (4, (.istore 4, 2)), (6, (.iload_n 3, 1)), (7, (.iload 4, 2)), (9, (.if_icmp .ge 13, 3)), (12, (.aload_n 0, 1)), (13, (.iload_n 3, 1)), (14, (.lload_n 1, 1)), (15, (.lastore, 1)), (16, (.iinc 3 1, 3)), (19, (.goto (-13), 3)), (22, (.return_, 1))] : List (Nat × (Instr × Nat))), decode cJ7_fill_d0a16 r.1 = .ok r.2 := by decide +kernel
theorem dJ7_fill_d0a16_0 : decode cJ7_fill_d0a16 0 = .ok (.iconst 0, 1) := dgJ7_fill_d0a16_0 (0, (.iconst 0, 1)) (List.mem_of_getElem? (i := 0) rfl)
theorem dJ7_fill_d0a16_1 : decode cJ7_fill_d0a16 1 = .ok (.istore_n 3, 1) := dgJ7_fill_d0a16_0 (1, (.istore_n 3, 1)) (List.mem_of_getElem? (i := 1) rfl)
theorem dJ7_fill_d0a16_2 : decode cJ7_fill_d0a16 2 = .ok (.aload_n 0, 1) := dgJ7_fill_d0a16_0 (2, (.aload_n 0, 1)) (List.mem_of_getElem? (i := 2) rfl)
theorem dJ7_fill_d0a16_3 : decode cJ7_fill_d0a16 3 = .ok (.arraylength, 1) := dgJ7_fill_d0a16_0 (3, (.arraylength, 1)) (List.mem_of_getElem? (i := 3) rfl)
theorem dJ7_fill_d0a16_4 : decode cJ7_fill_d0a16 4 = .ok (.istore 4, 2) := dgJ7_fill_d0a16_0 (4, (.istore 4, 2)) (List.mem_of_getElem? (i := 4) rfl)
theorem dJ7_fill_d0a16_6 : decode cJ7_fill_d0a16 6 = .ok (.iload_n 3, 1) := dgJ7_fill_d0a16_0 (6, (.iload_n 3, 1)) (List.mem_of_getElem? (i := 5) rfl)
theorem dJ7_fill_d0a16_7 : decode cJ7_fill_d0a16 7 = .ok (.iload 4, 2) := dgJ7_fill_d0a16_0 (7, (.iload 4, 2)) (List.mem_of_getElem? (i := 6) rfl)
theorem dJ7_fill_d0a16_9 : decode cJ7_fill_d0a16 9 = .ok (.if_icmp .ge 13, 3) := dgJ7_fill_d0a16_0 (9, (.if_icmp .ge 13, 3)) (List.mem_of_getElem? (i := 7) rfl)
theorem dJ7_fill_d0a16_12 : decode cJ7_fill_d0a16 12 = .ok (.aload_n 0, 1) := dgJ7_fill_d0a16_0 (12, (.aload_n 0, 1)) (List.mem_of_getElem? (i := 8) rfl)
theorem dJ7_fill_d0a16_13 : decode cJ7_fill_d0a16 13 = .ok (.iload_n 3, 1) := dgJ7_fill_d0a16_0 (13, (.iload_n 3, 1)) (List.mem_of_getElem? (i := 9) rfl)
theorem dJ7_fill_d0a16_14 : decode cJ7_fill_d0a16 14 = .ok (.lload_n 1, 1) := dgJ7_fill_d0a16_0 (14, (.lload_n 1, 1)) (List.mem_of_getElem? (i := 10) rfl)
theorem dJ7_fill_d0a16_15 : decode cJ7_fill_d0a16 15 = .ok (.lastore, 1) := dgJ7_fill_d0a16_0 (15, (.lastore, 1)) (List.mem_of_getElem? (i := 11) rfl)
theorem dJ7_fill_d0a16_16 : decode cJ7_fill_d0a16 16 = .ok (.iinc 3 1, 3) := dgJ7_fill_d0a16_0 (16, (.iinc 3 1, 3)) (List.mem_of_getElem? (i := 12) rfl)
theorem dJ7_fill_d0a16_19 : decode cJ7_fill_d0a16 19 = .ok (.goto (-13), 3) := dgJ7_fill_d0a16_0 (19, (.goto (-13), 3)) (List.mem_of_getElem? (i := 13) rfl)
theorem dJ7_fill_d0a16_22 : decode cJ7_fill_d0a16 22 = .ok (.return_, 1) := dgJ7_fill_d0a16_0 (22, (.return_, 1)) (List.mem_of_getElem? (i := 14) rfl)
set_option maxHeartbeats 4000000 in
set_option maxRecDepth 100000 in
theorem k_fillJ24 (l : Launch) (G : g5_G) (a_0 : Nat) (sz : Nat) (p_v : Int64) (f_a : Nat → Int64) : Met l yJ7_fill_d0a16 (wsG yJ7_fill_d0a16 cJ7_fill_d0a16 5 none) ({ frames := 0, cells := 0, slots := 0, locals := 0 }) (va_Pc [.ref a_0, .long p_v] (g5_P G [(a_0, (arJ G 24 f_a))] sz)) (va_Qv (fun (u : va_W) => ((u = [(a_0, (arJ G 24 (fun _ => p_v)))]))) (g5_B G (va_A [(a_0, (arJ G 24 f_a))] sz)) (va_A [(a_0, (arJ G 24 f_a))] sz)) 0 0 (va_A [(a_0, (arJ G 24 f_a))] sz) := by
  refine Met.ofW (cc := cJ7_fill_d0a16) (maxL := 5) (ret := none) (by decide) rfl ?_
  intro p e s m args below meth c s₁ B hml hv
  obtain ⟨rfl, hsz, hP, hK, hD0, hN, hT⟩ := hv
  have hx := B.exec
  have hb := B.bytes
  have hr := B.returns
  have hts : ∀ w ∈ tblG, w.before _ s = true := fun w h => atoms_spec (ws := (wsG yJ7_fill_d0a16 cJ7_fill_d0a16 5 none)) B.pre w (List.mem_cons_of_mem _ h)
  have hown : s.vm.findClass RJ7 = some m.cls := findClass_of_methodNamed B.named
  have hlocks := B.notSynchronized
  subst hsz
  have hD := hD0.self (sz := s.heap.size)
  generalize hAe : va_A [(a_0, (arJ G 24 f_a))] s.heap.size = A at hD hT ⊢
  have hA : ∀ q : Nat, s.heap.size ≤ q → A q := fun q h => by rw [← hAe]; exact Or.inr h
  have hS : va_S A s.heap s.heap [] := va_S.rf
  have hP : va_P G.1 vwCl [(a_0, (arJ G 24 f_a))] s.heap := hP
  have hl := lv_entry ([.ref a_0, .long p_v]) (n := 5) (Nat.le_of_ble_eq_true rfl)
  rw [lg_entry_eq]
  generalize (lg_sl ([.ref a_0, .long p_v]) ++ List.replicate (5 - (lg_sl ([.ref a_0, .long p_v])).length) Slot.unset).toArray = ls at hl ⊢
  have hl : lv_has ls 5 [(0, .ref a_0), (1, .long p_v)] := hl
  refine lv_iconst (v := 0) hx hb dJ7_fill_d0a16_0 (by decide) ?_
  refine lv_istore_n (lv' := [(3, .int 0), (0, .ref a_0), (1, .long p_v)]) hx hb dJ7_fill_d0a16_1 rfl hl (by decide) rfl (fun ls hl => ?_)
  refine lv_aload_n hx hb dJ7_fill_d0a16_2 rfl (lv_at hl 1 rfl) ?_
  refine va_alen hx hb hK hP 0 1 rfl rfl (v := 24) (by show Int32.ofNat 24 = 24; decide) dJ7_fill_d0a16_3 ?_
  refine lv_istore (lv' := [(4, .int 24), (3, .int 0), (0, .ref a_0), (1, .long p_v)]) hx hb dJ7_fill_d0a16_4 hl (by decide) rfl (fun ls hl => ?_)
  refine g5_loop (α := (Int32) × (Nat → Int64)) (fun (q : (Int32) × (Nat → Int64)) (ls : Array Slot) (H : Heap) (locs : List Loc) => match q with | (k_i, k_f) => lv_has ls 5 [(3, .int k_i), (4, .int 24), (0, .ref a_0), (1, .long p_v)] ∧ va_P G.1 vwCl [(a_0, (arJ G 24 k_f))] H ∧ va_D A [(a_0, (arJ G 24 k_f))] ∧ va_S A s.heap H locs ∧ (0 ≤ k_i.toInt ∧ k_i.toInt ≤ 24) ∧ (∀ j : Nat, (j : Int) < k_i.toInt → k_f j = (fun _ => p_v) j)) (fun (q : (Int32) × (Nat → Int64)) => match q with | (k_i, k_f) => Int.toNat (24 - k_i.toInt)) (0, f_a) ⟨lv_sub hl [1, 0, 2, 3] rfl, hP, hD, hS, ⟨by decide, by decide⟩, fun j h => absurd h (by have z : (0 : Int32).toInt = 0 := (by decide); omega)⟩ ?_
  rintro ⟨k_i, k_f⟩ ls H locs ⟨hl, hP, hD, hS, i_1, i_2⟩ ih_6_3
  have hl : lv_has ls 5 [(3, .int k_i), (4, .int 24), (0, .ref a_0), (1, .long p_v)] := hl
  have i_1 : 0 ≤ k_i.toInt ∧ k_i.toInt ≤ 24 := i_1
  have i_2 : ∀ j : Nat, (j : Int) < k_i.toInt → k_f j = (fun _ => p_v) j := i_2
  refine g5_rs [(a_0, (arJ G 24 k_f))] hP hD (fun hP hD => ?_)
  refine lv_iload_n hx hb dJ7_fill_d0a16_6 rfl (lv_at hl 0 rfl) ?_
  refine lv_iload hx hb dJ7_fill_d0a16_7 (lv_at hl 1 rfl) ?_
  refine lv_icmp_ge (tgt := 22) hx hb dJ7_fill_d0a16_9 (by decide) (fun c_4 => ?_) (fun c_4 => ?_)
  ·
    have i_4 : k_i.toInt ≥ 24 := by have z := g5_ge (a := k_i.toInt) (b := 24) (by rfl) (by decide) c_4; omega
    obtain ⟨hP, hD⟩ := g5_cvJ hP hD 0 (f := k_f) (g := (fun _ => p_v)) rfl (fun j h => i_2 j (by omega))
    refine g5_rs [(a_0, (arJ G 24 (fun _ => p_v)))] hP hD (fun hP hD => ?_)
    exact W.vret hx hb hr (fun t ht hW => ⟨⟨[(a_0, (arJ G 24 (fun _ => p_v)))], rfl, rfl, by rw [ht]; exact hP.sub [0] rfl, hD.sub [0] (by decide) rfl⟩, hS.F ht⟩) hS.2.2 dJ7_fill_d0a16_22
  ·
    have i_4 : k_i.toInt < 24 := by have z := g5_geN (a := k_i.toInt) (b := 24) (by rfl) (by decide) c_4; omega
    refine lv_aload_n hx hb dJ7_fill_d0a16_12 rfl (lv_at hl 2 rfl) ?_
    refine lv_iload_n hx hb dJ7_fill_d0a16_13 rfl (lv_at hl 0 rfl) ?_
    refine lv_lload_n hx hb dJ7_fill_d0a16_14 rfl (lv_at hl 3 rfl) ?_
    refine va_last hx hb hK hP hD hS 0 1 rfl rfl (i := k_i) (x := p_v) (vp_in_iff.mpr ⟨by omega, by omega⟩) dJ7_fill_d0a16_15 (fun H locs hP hD hS => ?_)
    refine g5_rs [(a_0, (arJ G 24 (vp_updL k_f k_i.toNatClampNeg p_v)))] hP hD (fun hP hD => ?_)
    refine lv_iinc (v := (k_i + 1)) (lv' := [(3, .int (k_i + 1)), (4, .int 24), (0, .ref a_0), (1, .long p_v)]) hx hb dJ7_fill_d0a16_16 hl (k := 0) rfl rfl (by decide) rfl (fun ls hl => ?_)
    have t_5 : (k_i + 1).toInt = k_i.toInt + 1 := g5_iadd (a := k_i.toInt) (b := 1) rfl (by decide) (by omega) (by omega)
    refine lv_goto (tgt := 6) hx hb dJ7_fill_d0a16_19 (by decide) ?_
    exact ih_6_3 ((k_i + 1), (vp_updL k_f k_i.toNatClampNeg p_v)) ls H locs (show Int.toNat (24 - (k_i + 1).toInt) < Int.toNat (24 - k_i.toInt) from g_up (show k_i.toInt < (k_i + 1).toInt by omega) (show k_i.toInt < 24 by omega)) ⟨lv_sub hl [0, 1, 2, 3] rfl, hP, hD, hS, ⟨by omega, by omega⟩, g5_fillJ i_2 (by omega) (by omega) rfl⟩
theorem dgX10_addPoints_0 : ∀ r ∈ ([(0, (.iconst 0, 1)), (1, (.istore_n 1, 1)), (2, (.iload_n 1, 1)), (3, (.aload_n 0, 1)), (4, (.getfield 19, 3)), (7, (.getfield 54, 3)), (10, (.if_icmp .ge 43, 3)), (13, (.aload_n 0, 1)), (14, (.getfield 9, 3)), (17, (.aload_n 0, 1)), (18, (.getfield 19, 3)), (21, (.getfield 57, 3)), (24, (.iload_n 1, 1)), (25, (.iaload, 1)), (26, (.bipush 64, 2)), (28, (.idiv, 1)), (29, (.dup2, 1)), (30, (.laload, 1)), (31, (.lconst 1, 1)), (32, (.aload_n 0, 1)), (33, (.getfield 19, 3)), (36, (.getfield 57, 3)), (39, (.iload_n 1, 1)), (40, (.iaload, 1)), (41, (.bipush 64, 2)), (43, (.irem, 1)), (44, (.lshl, 1)), (45, (.lor, 1)), (46, (.lastore, 1)), (47, (.iinc 1 1, 3)), (50, (.goto (-48), 3)), (53, (.return_, 1))] : List (Nat × (Instr × Nat))), decode cX10_addPoints r.1 = .ok r.2 := by decide +kernel
theorem dX10_addPoints_0 : decode cX10_addPoints 0 = .ok (.iconst 0, 1) := dgX10_addPoints_0 (0, (.iconst 0, 1)) (List.mem_of_getElem? (i := 0) rfl)
theorem dX10_addPoints_1 : decode cX10_addPoints 1 = .ok (.istore_n 1, 1) := dgX10_addPoints_0 (1, (.istore_n 1, 1)) (List.mem_of_getElem? (i := 1) rfl)
theorem dX10_addPoints_2 : decode cX10_addPoints 2 = .ok (.iload_n 1, 1) := dgX10_addPoints_0 (2, (.iload_n 1, 1)) (List.mem_of_getElem? (i := 2) rfl)
theorem dX10_addPoints_3 : decode cX10_addPoints 3 = .ok (.aload_n 0, 1) := dgX10_addPoints_0 (3, (.aload_n 0, 1)) (List.mem_of_getElem? (i := 3) rfl)
theorem dX10_addPoints_4 : decode cX10_addPoints 4 = .ok (.getfield 19, 3) := dgX10_addPoints_0 (4, (.getfield 19, 3)) (List.mem_of_getElem? (i := 4) rfl)
theorem dX10_addPoints_7 : decode cX10_addPoints 7 = .ok (.getfield 54, 3) := dgX10_addPoints_0 (7, (.getfield 54, 3)) (List.mem_of_getElem? (i := 5) rfl)
theorem dX10_addPoints_10 : decode cX10_addPoints 10 = .ok (.if_icmp .ge 43, 3) := dgX10_addPoints_0 (10, (.if_icmp .ge 43, 3)) (List.mem_of_getElem? (i := 6) rfl)
theorem dX10_addPoints_13 : decode cX10_addPoints 13 = .ok (.aload_n 0, 1) := dgX10_addPoints_0 (13, (.aload_n 0, 1)) (List.mem_of_getElem? (i := 7) rfl)
theorem dX10_addPoints_14 : decode cX10_addPoints 14 = .ok (.getfield 9, 3) := dgX10_addPoints_0 (14, (.getfield 9, 3)) (List.mem_of_getElem? (i := 8) rfl)
theorem dX10_addPoints_17 : decode cX10_addPoints 17 = .ok (.aload_n 0, 1) := dgX10_addPoints_0 (17, (.aload_n 0, 1)) (List.mem_of_getElem? (i := 9) rfl)
theorem dX10_addPoints_18 : decode cX10_addPoints 18 = .ok (.getfield 19, 3) := dgX10_addPoints_0 (18, (.getfield 19, 3)) (List.mem_of_getElem? (i := 10) rfl)
theorem dX10_addPoints_21 : decode cX10_addPoints 21 = .ok (.getfield 57, 3) := dgX10_addPoints_0 (21, (.getfield 57, 3)) (List.mem_of_getElem? (i := 11) rfl)
theorem dX10_addPoints_24 : decode cX10_addPoints 24 = .ok (.iload_n 1, 1) := dgX10_addPoints_0 (24, (.iload_n 1, 1)) (List.mem_of_getElem? (i := 12) rfl)
theorem dX10_addPoints_25 : decode cX10_addPoints 25 = .ok (.iaload, 1) := dgX10_addPoints_0 (25, (.iaload, 1)) (List.mem_of_getElem? (i := 13) rfl)
theorem dX10_addPoints_26 : decode cX10_addPoints 26 = .ok (.bipush 64, 2) := dgX10_addPoints_0 (26, (.bipush 64, 2)) (List.mem_of_getElem? (i := 14) rfl)
theorem dX10_addPoints_28 : decode cX10_addPoints 28 = .ok (.idiv, 1) := dgX10_addPoints_0 (28, (.idiv, 1)) (List.mem_of_getElem? (i := 15) rfl)
theorem dX10_addPoints_29 : decode cX10_addPoints 29 = .ok (.dup2, 1) := dgX10_addPoints_0 (29, (.dup2, 1)) (List.mem_of_getElem? (i := 16) rfl)
theorem dX10_addPoints_30 : decode cX10_addPoints 30 = .ok (.laload, 1) := dgX10_addPoints_0 (30, (.laload, 1)) (List.mem_of_getElem? (i := 17) rfl)
theorem dX10_addPoints_31 : decode cX10_addPoints 31 = .ok (.lconst 1, 1) := dgX10_addPoints_0 (31, (.lconst 1, 1)) (List.mem_of_getElem? (i := 18) rfl)
theorem dX10_addPoints_32 : decode cX10_addPoints 32 = .ok (.aload_n 0, 1) := dgX10_addPoints_0 (32, (.aload_n 0, 1)) (List.mem_of_getElem? (i := 19) rfl)
theorem dX10_addPoints_33 : decode cX10_addPoints 33 = .ok (.getfield 19, 3) := dgX10_addPoints_0 (33, (.getfield 19, 3)) (List.mem_of_getElem? (i := 20) rfl)
theorem dX10_addPoints_36 : decode cX10_addPoints 36 = .ok (.getfield 57, 3) := dgX10_addPoints_0 (36, (.getfield 57, 3)) (List.mem_of_getElem? (i := 21) rfl)
theorem dX10_addPoints_39 : decode cX10_addPoints 39 = .ok (.iload_n 1, 1) := dgX10_addPoints_0 (39, (.iload_n 1, 1)) (List.mem_of_getElem? (i := 22) rfl)
theorem dX10_addPoints_40 : decode cX10_addPoints 40 = .ok (.iaload, 1) := dgX10_addPoints_0 (40, (.iaload, 1)) (List.mem_of_getElem? (i := 23) rfl)
theorem dX10_addPoints_41 : decode cX10_addPoints 41 = .ok (.bipush 64, 2) := dgX10_addPoints_0 (41, (.bipush 64, 2)) (List.mem_of_getElem? (i := 24) rfl)
theorem dX10_addPoints_43 : decode cX10_addPoints 43 = .ok (.irem, 1) := dgX10_addPoints_0 (43, (.irem, 1)) (List.mem_of_getElem? (i := 25) rfl)
theorem dX10_addPoints_44 : decode cX10_addPoints 44 = .ok (.lshl, 1) := dgX10_addPoints_0 (44, (.lshl, 1)) (List.mem_of_getElem? (i := 26) rfl)
theorem dX10_addPoints_45 : decode cX10_addPoints 45 = .ok (.lor, 1) := dgX10_addPoints_0 (45, (.lor, 1)) (List.mem_of_getElem? (i := 27) rfl)
theorem dX10_addPoints_46 : decode cX10_addPoints 46 = .ok (.lastore, 1) := dgX10_addPoints_0 (46, (.lastore, 1)) (List.mem_of_getElem? (i := 28) rfl)
theorem dX10_addPoints_47 : decode cX10_addPoints 47 = .ok (.iinc 1 1, 3) := dgX10_addPoints_0 (47, (.iinc 1 1, 3)) (List.mem_of_getElem? (i := 29) rfl)
theorem dX10_addPoints_50 : decode cX10_addPoints 50 = .ok (.goto (-48), 3) := dgX10_addPoints_0 (50, (.goto (-48), 3)) (List.mem_of_getElem? (i := 30) rfl)
theorem dX10_addPoints_53 : decode cX10_addPoints 53 = .ok (.return_, 1) := dgX10_addPoints_0 (53, (.return_, 1)) (List.mem_of_getElem? (i := 31) rfl)
theorem inG_X10 : ∀ w ∈ wsX100, w ∈ tblG := tgs [304, 306, 308] (by decide +kernel) (by decide +kernel)
theorem fl_X10_19 : Cond.fieldLink RX10 19 "LateGlass$Watch" "eye" "LLateGlass$Look;" ∈ tblG := tg 301 (by decide +kernel) (by decide +kernel)
theorem fl_X10_54 : Cond.fieldLink RX10 54 "LateGlass$Look" "length" "I" ∈ tblG := tg 250 (by decide +kernel) (by decide +kernel)
theorem fl_X10_9 : Cond.fieldLink RX10 9 "LateGlass$Watch" "boards" "[J" ∈ tblG := tg 302 (by decide +kernel) (by decide +kernel)
theorem fl_X10_57 : Cond.fieldLink RX10 57 "LateGlass$Look" "points" "[I" ∈ tblG := tg 246 (by decide +kernel) (by decide +kernel)
set_option maxHeartbeats 4000000 in
set_option maxRecDepth 100000 in
theorem w_addPoints (l : Launch) (G : g5_G) (a_wa a_k a_pt a_bo a_h a_j : Nat) (sz : Nat) (e_ln : Int32) (e_se : Int32) (e_lh : Int32) (e_br : Int32) (e_we : Int32) (e_me : Int32) (e_ce : Int32) (e_wy : Int32) (e_ho : Int32) (e_ov : Int32) (f_pt : Nat → Int32) (f_bo : Nat → Int64) (h_e_ln : 0 ≤ e_ln.toInt ∧ e_ln.toInt ≤ 200) (h_e_ov : 0 ≤ e_ov.toInt ∧ e_ov.toInt ≤ 1) (e_q : ∀ j : Nat, (j : Int) < e_ln.toInt → 0 ≤ (f_pt j).toInt ∧ (f_pt j).toInt ≤ 1535) : Met l yX10_addPoints (wsG yX10_addPoints cX10_addPoints 2 none) ({ frames := 0, cells := 0, slots := 0, locals := 0 }) (va_Pc [.ref a_wa] (g5_P G [(a_wa, (oc10 a_h a_k a_bo)), (a_k, (oc5 a_h a_j a_pt e_ln e_se e_lh e_br e_we e_me e_ce e_wy e_ho e_ov)), (a_pt, (arI G 200 f_pt)), (a_bo, (arJ G 24 f_bo))] sz)) (va_Qv (fun (u : va_W) => (∃ (o_f : Nat → Int64), (u = [(a_wa, (oc10 a_h a_k a_bo)), (a_k, (oc5 a_h a_j a_pt e_ln e_se e_lh e_br e_we e_me e_ce e_wy e_ho e_ov)), (a_pt, (arI G 200 f_pt)), (a_bo, (arJ G 24 o_f))]))) (g5_B G (va_A [(a_wa, (oc10 a_h a_k a_bo)), (a_k, (oc5 a_h a_j a_pt e_ln e_se e_lh e_br e_we e_me e_ce e_wy e_ho e_ov)), (a_pt, (arI G 200 f_pt)), (a_bo, (arJ G 24 f_bo))] sz)) (va_A [(a_wa, (oc10 a_h a_k a_bo)), (a_k, (oc5 a_h a_j a_pt e_ln e_se e_lh e_br e_we e_me e_ce e_wy e_ho e_ov)), (a_pt, (arI G 200 f_pt)), (a_bo, (arJ G 24 f_bo))] sz)) 0 0 (va_A [(a_wa, (oc10 a_h a_k a_bo)), (a_k, (oc5 a_h a_j a_pt e_ln e_se e_lh e_br e_we e_me e_ce e_wy e_ho e_ov)), (a_pt, (arI G 200 f_pt)), (a_bo, (arJ G 24 f_bo))] sz) := by
  refine Met.ofW (cc := cX10_addPoints) (maxL := 2) (ret := none) (by decide) rfl ?_
  intro p e s m args below meth c s₁ B hml hv
  obtain ⟨rfl, hsz, hP, hK, hD0, hN, hT⟩ := hv
  have hx := B.exec
  have hb := B.bytes
  have hr := B.returns
  have hts : ∀ w ∈ tblG, w.before _ s = true := fun w h => atoms_spec (ws := (wsG yX10_addPoints cX10_addPoints 2 none)) B.pre w (List.mem_cons_of_mem _ h)
  have hown : s.vm.findClass RX10 = some m.cls := findClass_of_methodNamed B.named
  have hlocks := B.notSynchronized
  subst hsz
  have hD := hD0.self (sz := s.heap.size)
  generalize hAe : va_A [(a_wa, (oc10 a_h a_k a_bo)), (a_k, (oc5 a_h a_j a_pt e_ln e_se e_lh e_br e_we e_me e_ce e_wy e_ho e_ov)), (a_pt, (arI G 200 f_pt)), (a_bo, (arJ G 24 f_bo))] s.heap.size = A at hD hT ⊢
  have hA : ∀ q : Nat, s.heap.size ≤ q → A q := fun q h => by rw [← hAe]; exact Or.inr h
  have hS : va_S A s.heap s.heap [] := va_S.rf
  have hP : va_P G.1 vwCl [(a_wa, (oc10 a_h a_k a_bo)), (a_k, (oc5 a_h a_j a_pt e_ln e_se e_lh e_br e_we e_me e_ce e_wy e_ho e_ov)), (a_pt, (arI G 200 f_pt)), (a_bo, (arJ G 24 f_bo))] s.heap := hP
  have hl := lv_entry ([.ref a_wa]) (n := 2) (Nat.le_of_ble_eq_true rfl)
  rw [lg_entry_eq]
  generalize (lg_sl ([.ref a_wa]) ++ List.replicate (2 - (lg_sl ([.ref a_wa])).length) Slot.unset).toArray = ls at hl ⊢
  have hl : lv_has ls 2 [(0, .ref a_wa)] := hl
  refine lv_iconst (v := 0) hx hb dX10_addPoints_0 (by decide) ?_
  refine lv_istore_n (lv' := [(1, .int 0), (0, .ref a_wa)]) hx hb dX10_addPoints_1 rfl hl (by decide) rfl (fun ls hl => ?_)
  refine g5_loop (α := (Int32) × (Nat → Int64)) (fun (q : (Int32) × (Nat → Int64)) (ls : Array Slot) (H : Heap) (locs : List Loc) => match q with | (k_i, k_f) => lv_has ls 2 [(1, .int k_i), (0, .ref a_wa)] ∧ va_P G.1 vwCl [(a_wa, (oc10 a_h a_k a_bo)), (a_k, (oc5 a_h a_j a_pt e_ln e_se e_lh e_br e_we e_me e_ce e_wy e_ho e_ov)), (a_pt, (arI G 200 f_pt)), (a_bo, (arJ G 24 k_f))] H ∧ va_D A [(a_wa, (oc10 a_h a_k a_bo)), (a_k, (oc5 a_h a_j a_pt e_ln e_se e_lh e_br e_we e_me e_ce e_wy e_ho e_ov)), (a_pt, (arI G 200 f_pt)), (a_bo, (arJ G 24 k_f))] ∧ va_S A s.heap H locs ∧ (0 ≤ k_i.toInt ∧ k_i.toInt ≤ 200)) (fun (q : (Int32) × (Nat → Int64)) => match q with | (k_i, k_f) => Int.toNat (200 - k_i.toInt)) (0, f_bo) ⟨lv_sub hl [0, 1] rfl, hP, hD, hS, ⟨by decide, by decide⟩⟩ ?_
  rintro ⟨k_i, k_f⟩ ls H locs ⟨hl, hP, hD, hS, i_1⟩ ih_2_2
  have hl : lv_has ls 2 [(1, .int k_i), (0, .ref a_wa)] := hl
  have i_1 : 0 ≤ k_i.toInt ∧ k_i.toInt ≤ 200 := i_1
  refine g5_rs [(a_wa, (oc10 a_h a_k a_bo)), (a_k, (oc5 a_h a_j a_pt e_ln e_se e_lh e_br e_we e_me e_ce e_wy e_ho e_ov)), (a_pt, (arI G 200 f_pt)), (a_bo, (arJ G 24 k_f))] hP hD (fun hP hD => ?_)
  refine lv_iload_n hx hb dX10_addPoints_2 rfl (lv_at hl 0 rfl) ?_
  refine lv_aload_n hx hb dX10_addPoints_3 rfl (lv_at hl 1 rfl) ?_
  refine va_get (D := G.1) (ci := 10) (v := .ref a_k) (C := RX10) (T := TX10) (N := 3) hx hb hts inG_X10 hown hK hP 0 rfl rfl 1 (by decide) (hts _ fl_X10_19) (fun _ h9 => h9) rfl dX10_addPoints_4 ?_
  refine va_get (D := G.1) (ci := 5) (v := .int e_ln) (C := RX5) (T := TX5) (N := 13) hx hb hts inG_X5 hown hK hP 1 rfl rfl 3 (by decide) (hts _ fl_X10_54) (fun _ h9 => h9) rfl dX10_addPoints_7 ?_
  refine lv_icmp_ge (tgt := 53) hx hb dX10_addPoints_10 (by decide) (fun c_3 => ?_) (fun c_3 => ?_)
  ·
    have i_3 : k_i.toInt ≥ e_ln.toInt := by have z := g5_ge (a := k_i.toInt) (b := e_ln.toInt) (by rfl) (by rfl) c_3; omega
    exact W.vret hx hb hr (fun t ht hW => ⟨⟨[(a_wa, (oc10 a_h a_k a_bo)), (a_k, (oc5 a_h a_j a_pt e_ln e_se e_lh e_br e_we e_me e_ce e_wy e_ho e_ov)), (a_pt, (arI G 200 f_pt)), (a_bo, (arJ G 24 k_f))], rfl, ⟨k_f, rfl⟩, by rw [ht]; exact hP.sub [0, 1, 2, 3] rfl, hD.sub [0, 1, 2, 3] (by decide) rfl⟩, hS.F ht⟩) hS.2.2 dX10_addPoints_53
  ·
    have i_3 : k_i.toInt < e_ln.toInt := by have z := g5_geN (a := k_i.toInt) (b := e_ln.toInt) (by rfl) (by rfl) c_3; omega
    refine lv_aload_n hx hb dX10_addPoints_13 rfl (lv_at hl 1 rfl) ?_
    refine va_get (D := G.1) (ci := 10) (v := .ref a_bo) (C := RX10) (T := TX10) (N := 3) hx hb hts inG_X10 hown hK hP 0 rfl rfl 2 (by decide) (hts _ fl_X10_9) (fun _ h9 => h9) rfl dX10_addPoints_14 ?_
    refine lv_aload_n hx hb dX10_addPoints_17 rfl (lv_at hl 1 rfl) ?_
    refine va_get (D := G.1) (ci := 10) (v := .ref a_k) (C := RX10) (T := TX10) (N := 3) hx hb hts inG_X10 hown hK hP 0 rfl rfl 1 (by decide) (hts _ fl_X10_19) (fun _ h9 => h9) rfl dX10_addPoints_18 ?_
    refine va_get (D := G.1) (ci := 5) (v := .ref a_pt) (C := RX5) (T := TX5) (N := 13) hx hb hts inG_X5 hown hK hP 1 rfl rfl 2 (by decide) (hts _ fl_X10_57) (fun _ h9 => h9) rfl dX10_addPoints_21 ?_
    refine lv_iload_n hx hb dX10_addPoints_24 rfl (lv_at hl 0 rfl) ?_
    refine va_iald hx hb hK hP 2 0 rfl rfl (i := k_i) (vp_in_iff.mpr ⟨by omega, by omega⟩) dX10_addPoints_25 ?_
    have hp_4 : 0 ≤ (f_pt k_i.toNatClampNeg).toInt ∧ (f_pt k_i.toNatClampNeg).toInt ≤ 1535 := e_q _ (by have zz := g5_clamp k_i; omega)
    refine lv_bipush (v := 64) hx hb dX10_addPoints_26 (by decide) ?_
    refine lv_idiv hx hb dX10_addPoints_28 (by decide) ?_
    have t_5 : ((f_pt k_i.toNatClampNeg) / 64).toInt = (f_pt k_i.toNatClampNeg).toInt / 64 := g5_idiv (a := (f_pt k_i.toNatClampNeg).toInt) (b := 64) rfl (by decide) (by omega) (by decide)
    refine lv_dup2_11 hx hb dX10_addPoints_29 rfl rfl ?_
    refine va_lald hx hb hK hP 3 1 rfl rfl (i := ((f_pt k_i.toNatClampNeg) / 64)) (vp_in_iff.mpr ⟨by omega, by omega⟩) dX10_addPoints_30 ?_
    refine lv_lconst (v := 1) hx hb dX10_addPoints_31 (by decide) ?_
    refine lv_aload_n hx hb dX10_addPoints_32 rfl (lv_at hl 1 rfl) ?_
    refine va_get (D := G.1) (ci := 10) (v := .ref a_k) (C := RX10) (T := TX10) (N := 3) hx hb hts inG_X10 hown hK hP 0 rfl rfl 1 (by decide) (hts _ fl_X10_19) (fun _ h9 => h9) rfl dX10_addPoints_33 ?_
    refine va_get (D := G.1) (ci := 5) (v := .ref a_pt) (C := RX5) (T := TX5) (N := 13) hx hb hts inG_X5 hown hK hP 1 rfl rfl 2 (by decide) (hts _ fl_X10_57) (fun _ h9 => h9) rfl dX10_addPoints_36 ?_
    refine lv_iload_n hx hb dX10_addPoints_39 rfl (lv_at hl 0 rfl) ?_
    refine va_iald hx hb hK hP 2 0 rfl rfl (i := k_i) (vp_in_iff.mpr ⟨by omega, by omega⟩) dX10_addPoints_40 ?_
    have hp_6 : 0 ≤ (f_pt k_i.toNatClampNeg).toInt ∧ (f_pt k_i.toNatClampNeg).toInt ≤ 1535 := e_q _ (by have zz := g5_clamp k_i; omega)
    refine lv_bipush (v := 64) hx hb dX10_addPoints_41 (by decide) ?_
    refine lv_irem hx hb dX10_addPoints_43 (by decide) ?_
    have t_7 : ((f_pt k_i.toNatClampNeg) - (f_pt k_i.toNatClampNeg) / 64 * 64).toInt = (f_pt k_i.toNatClampNeg).toInt % 64 := g5_irem (a := (f_pt k_i.toNatClampNeg).toInt) (b := 64) rfl (by decide) (by omega) (by decide)
    refine lv_lshl (v := ((1 : Int64) <<< (((f_pt k_i.toNatClampNeg) - (f_pt k_i.toNatClampNeg) / 64 * 64).toInt64 &&& 63))) hx hb dX10_addPoints_44 rfl ?_
    refine lv_lor hx hb dX10_addPoints_45 ?_
    refine va_last hx hb hK hP hD hS 3 1 rfl rfl (i := ((f_pt k_i.toNatClampNeg) / 64)) (x := ((k_f ((f_pt k_i.toNatClampNeg) / 64).toNatClampNeg) ||| ((1 : Int64) <<< (((f_pt k_i.toNatClampNeg) - (f_pt k_i.toNatClampNeg) / 64 * 64).toInt64 &&& 63)))) (vp_in_iff.mpr ⟨by omega, by omega⟩) dX10_addPoints_46 (fun H locs hP hD hS => ?_)
    refine g5_rs [(a_wa, (oc10 a_h a_k a_bo)), (a_k, (oc5 a_h a_j a_pt e_ln e_se e_lh e_br e_we e_me e_ce e_wy e_ho e_ov)), (a_pt, (arI G 200 f_pt)), (a_bo, (arJ G 24 (vp_updL k_f ((f_pt k_i.toNatClampNeg) / 64).toNatClampNeg ((k_f ((f_pt k_i.toNatClampNeg) / 64).toNatClampNeg) ||| ((1 : Int64) <<< (((f_pt k_i.toNatClampNeg) - (f_pt k_i.toNatClampNeg) / 64 * 64).toInt64 &&& 63))))))] hP hD (fun hP hD => ?_)
    refine lv_iinc (v := (k_i + 1)) (lv' := [(1, .int (k_i + 1)), (0, .ref a_wa)]) hx hb dX10_addPoints_47 hl (k := 0) rfl rfl (by decide) rfl (fun ls hl => ?_)
    have t_8 : (k_i + 1).toInt = k_i.toInt + 1 := g5_iadd (a := k_i.toInt) (b := 1) rfl (by decide) (by omega) (by omega)
    refine lv_goto (tgt := 2) hx hb dX10_addPoints_50 (by decide) ?_
    exact ih_2_2 ((k_i + 1), (vp_updL k_f ((f_pt k_i.toNatClampNeg) / 64).toNatClampNeg ((k_f ((f_pt k_i.toNatClampNeg) / 64).toNatClampNeg) ||| ((1 : Int64) <<< (((f_pt k_i.toNatClampNeg) - (f_pt k_i.toNatClampNeg) / 64 * 64).toInt64 &&& 63))))) ls H locs (show Int.toNat (200 - (k_i + 1).toInt) < Int.toNat (200 - k_i.toInt) from g_up (show k_i.toInt < (k_i + 1).toInt by omega) (show k_i.toInt < 200 by omega)) ⟨lv_sub hl [0, 1] rfl, hP, hD, hS, ⟨by omega, by omega⟩⟩
theorem dgX10_lookAround_0 : ∀ r ∈ ([(0, (.aload_n 0, 1)), (1, (.getfield 9, 3)), (4, (.lconst 0, 1)), (5, (.invokestatic 23, 3)), (8, (.iconst 0, 1)), (9, (.istore_n 1, 1)), (10, (.iload_n 1, 1)), (11, (.aload_n 0, 1)), (12, (.getfield 15, 3)), (15, (.getfield 29, 3)), (18, (.getfield 35, 3)), (21, (.if_icmp .ge 72, 3)), (24, (.iconst 0, 1)), (25, (.istore_n 2, 1)), (26, (.iload_n 2, 1)), (27, (.bipush 24, 2)), (29, (.if_icmp .ge 58, 3)), (32, (.aload_n 0, 1)), (33, (.getfield 15, 3)), (36, (.getfield 29, 3)), (39, (.iload_n 1, 1)), (40, (.iload_n 2, 1)), (41, (.invokevirtual 41, 3)), (44, (.istore_n 3, 1)), (45, (.iconst 0, 1)), (46, (.istore 4, 2)), (48, (.iload 4, 2)), (50, (.iconst 4, 1)), (51, (.if_icmp .ge 30, 3)), (54, (.iload_n 3, 1)), (55, (.iconst (-1), 1)), (56, (.if_icmp .eq 25, 3)), (59, (.aload_n 0, 1)), (60, (.getfield 19, 3)), (63, (.iload_n 3, 1)), (64, (.iload 4, 2)), (66, (.iload_n 2, 1)), (67, (.iconst 0, 1)), (68, (.invokevirtual 45, 3)), (71, (.aload_n 0, 1))] : List (Nat × (Instr × Nat))), decode cX10_lookAround r.1 = .ok r.2 := by decide +kernel
theorem dX10_lookAround_0 : decode cX10_lookAround 0 = .ok (.aload_n 0, 1) := dgX10_lookAround_0 (0, (.aload_n 0, 1)) (List.mem_of_getElem? (i := 0) rfl)
theorem dX10_lookAround_1 : decode cX10_lookAround 1 = .ok (.getfield 9, 3) := dgX10_lookAround_0 (1, (.getfield 9, 3)) (List.mem_of_getElem? (i := 1) rfl)
theorem dX10_lookAround_4 : decode cX10_lookAround 4 = .ok (.lconst 0, 1) := dgX10_lookAround_0 (4, (.lconst 0, 1)) (List.mem_of_getElem? (i := 2) rfl)
theorem dX10_lookAround_5 : decode cX10_lookAround 5 = .ok (.invokestatic 23, 3) := dgX10_lookAround_0 (5, (.invokestatic 23, 3)) (List.mem_of_getElem? (i := 3) rfl)
theorem dX10_lookAround_8 : decode cX10_lookAround 8 = .ok (.iconst 0, 1) := dgX10_lookAround_0 (8, (.iconst 0, 1)) (List.mem_of_getElem? (i := 4) rfl)
theorem dX10_lookAround_9 : decode cX10_lookAround 9 = .ok (.istore_n 1, 1) := dgX10_lookAround_0 (9, (.istore_n 1, 1)) (List.mem_of_getElem? (i := 5) rfl)
theorem dX10_lookAround_10 : decode cX10_lookAround 10 = .ok (.iload_n 1, 1) := dgX10_lookAround_0 (10, (.iload_n 1, 1)) (List.mem_of_getElem? (i := 6) rfl)
theorem dX10_lookAround_11 : decode cX10_lookAround 11 = .ok (.aload_n 0, 1) := dgX10_lookAround_0 (11, (.aload_n 0, 1)) (List.mem_of_getElem? (i := 7) rfl)
theorem dX10_lookAround_12 : decode cX10_lookAround 12 = .ok (.getfield 15, 3) := dgX10_lookAround_0 (12, (.getfield 15, 3)) (List.mem_of_getElem? (i := 8) rfl)
theorem dX10_lookAround_15 : decode cX10_lookAround 15 = .ok (.getfield 29, 3) := dgX10_lookAround_0 (15, (.getfield 29, 3)) (List.mem_of_getElem? (i := 9) rfl)
theorem dX10_lookAround_18 : decode cX10_lookAround 18 = .ok (.getfield 35, 3) := dgX10_lookAround_0 (18, (.getfield 35, 3)) (List.mem_of_getElem? (i := 10) rfl)
theorem dX10_lookAround_21 : decode cX10_lookAround 21 = .ok (.if_icmp .ge 72, 3) := dgX10_lookAround_0 (21, (.if_icmp .ge 72, 3)) (List.mem_of_getElem? (i := 11) rfl)
theorem dX10_lookAround_24 : decode cX10_lookAround 24 = .ok (.iconst 0, 1) := dgX10_lookAround_0 (24, (.iconst 0, 1)) (List.mem_of_getElem? (i := 12) rfl)
theorem dX10_lookAround_25 : decode cX10_lookAround 25 = .ok (.istore_n 2, 1) := dgX10_lookAround_0 (25, (.istore_n 2, 1)) (List.mem_of_getElem? (i := 13) rfl)
theorem dX10_lookAround_26 : decode cX10_lookAround 26 = .ok (.iload_n 2, 1) := dgX10_lookAround_0 (26, (.iload_n 2, 1)) (List.mem_of_getElem? (i := 14) rfl)
theorem dX10_lookAround_27 : decode cX10_lookAround 27 = .ok (.bipush 24, 2) := dgX10_lookAround_0 (27, (.bipush 24, 2)) (List.mem_of_getElem? (i := 15) rfl)
theorem dX10_lookAround_29 : decode cX10_lookAround 29 = .ok (.if_icmp .ge 58, 3) := dgX10_lookAround_0 (29, (.if_icmp .ge 58, 3)) (List.mem_of_getElem? (i := 16) rfl)
theorem dX10_lookAround_32 : decode cX10_lookAround 32 = .ok (.aload_n 0, 1) := dgX10_lookAround_0 (32, (.aload_n 0, 1)) (List.mem_of_getElem? (i := 17) rfl)
theorem dX10_lookAround_33 : decode cX10_lookAround 33 = .ok (.getfield 15, 3) := dgX10_lookAround_0 (33, (.getfield 15, 3)) (List.mem_of_getElem? (i := 18) rfl)
theorem dX10_lookAround_36 : decode cX10_lookAround 36 = .ok (.getfield 29, 3) := dgX10_lookAround_0 (36, (.getfield 29, 3)) (List.mem_of_getElem? (i := 19) rfl)
theorem dX10_lookAround_39 : decode cX10_lookAround 39 = .ok (.iload_n 1, 1) := dgX10_lookAround_0 (39, (.iload_n 1, 1)) (List.mem_of_getElem? (i := 20) rfl)
theorem dX10_lookAround_40 : decode cX10_lookAround 40 = .ok (.iload_n 2, 1) := dgX10_lookAround_0 (40, (.iload_n 2, 1)) (List.mem_of_getElem? (i := 21) rfl)
theorem dX10_lookAround_41 : decode cX10_lookAround 41 = .ok (.invokevirtual 41, 3) := dgX10_lookAround_0 (41, (.invokevirtual 41, 3)) (List.mem_of_getElem? (i := 22) rfl)
theorem dX10_lookAround_44 : decode cX10_lookAround 44 = .ok (.istore_n 3, 1) := dgX10_lookAround_0 (44, (.istore_n 3, 1)) (List.mem_of_getElem? (i := 23) rfl)
theorem dX10_lookAround_45 : decode cX10_lookAround 45 = .ok (.iconst 0, 1) := dgX10_lookAround_0 (45, (.iconst 0, 1)) (List.mem_of_getElem? (i := 24) rfl)
theorem dX10_lookAround_46 : decode cX10_lookAround 46 = .ok (.istore 4, 2) := dgX10_lookAround_0 (46, (.istore 4, 2)) (List.mem_of_getElem? (i := 25) rfl)
theorem dX10_lookAround_48 : decode cX10_lookAround 48 = .ok (.iload 4, 2) := dgX10_lookAround_0 (48, (.iload 4, 2)) (List.mem_of_getElem? (i := 26) rfl)
theorem dX10_lookAround_50 : decode cX10_lookAround 50 = .ok (.iconst 4, 1) := dgX10_lookAround_0 (50, (.iconst 4, 1)) (List.mem_of_getElem? (i := 27) rfl)
theorem dX10_lookAround_51 : decode cX10_lookAround 51 = .ok (.if_icmp .ge 30, 3) := dgX10_lookAround_0 (51, (.if_icmp .ge 30, 3)) (List.mem_of_getElem? (i := 28) rfl)
theorem dX10_lookAround_54 : decode cX10_lookAround 54 = .ok (.iload_n 3, 1) := dgX10_lookAround_0 (54, (.iload_n 3, 1)) (List.mem_of_getElem? (i := 29) rfl)
theorem dX10_lookAround_55 : decode cX10_lookAround 55 = .ok (.iconst (-1), 1) := dgX10_lookAround_0 (55, (.iconst (-1), 1)) (List.mem_of_getElem? (i := 30) rfl)
theorem dX10_lookAround_56 : decode cX10_lookAround 56 = .ok (.if_icmp .eq 25, 3) := dgX10_lookAround_0 (56, (.if_icmp .eq 25, 3)) (List.mem_of_getElem? (i := 31) rfl)
theorem dX10_lookAround_59 : decode cX10_lookAround 59 = .ok (.aload_n 0, 1) := dgX10_lookAround_0 (59, (.aload_n 0, 1)) (List.mem_of_getElem? (i := 32) rfl)
theorem dX10_lookAround_60 : decode cX10_lookAround 60 = .ok (.getfield 19, 3) := dgX10_lookAround_0 (60, (.getfield 19, 3)) (List.mem_of_getElem? (i := 33) rfl)
theorem dX10_lookAround_63 : decode cX10_lookAround 63 = .ok (.iload_n 3, 1) := dgX10_lookAround_0 (63, (.iload_n 3, 1)) (List.mem_of_getElem? (i := 34) rfl)
theorem dX10_lookAround_64 : decode cX10_lookAround 64 = .ok (.iload 4, 2) := dgX10_lookAround_0 (64, (.iload 4, 2)) (List.mem_of_getElem? (i := 35) rfl)
theorem dX10_lookAround_66 : decode cX10_lookAround 66 = .ok (.iload_n 2, 1) := dgX10_lookAround_0 (66, (.iload_n 2, 1)) (List.mem_of_getElem? (i := 36) rfl)
theorem dX10_lookAround_67 : decode cX10_lookAround 67 = .ok (.iconst 0, 1) := dgX10_lookAround_0 (67, (.iconst 0, 1)) (List.mem_of_getElem? (i := 37) rfl)
theorem dX10_lookAround_68 : decode cX10_lookAround 68 = .ok (.invokevirtual 45, 3) := dgX10_lookAround_0 (68, (.invokevirtual 45, 3)) (List.mem_of_getElem? (i := 38) rfl)
theorem dX10_lookAround_71 : decode cX10_lookAround 71 = .ok (.aload_n 0, 1) := dgX10_lookAround_0 (71, (.aload_n 0, 1)) (List.mem_of_getElem? (i := 39) rfl)
theorem dgX10_lookAround_1 : ∀ r ∈ ([(72, (.invokevirtual 51, 3)), (75, (.iinc 4 1, 3)), (78, (.goto (-30), 3)), (81, (.iinc 2 1, 3)), (84, (.goto (-58), 3)), (87, (.iinc 1 1, 3)), (90, (.goto (-80), 3)), (93, (.return_, 1))] : List (Nat × (Instr × Nat))), decode cX10_lookAround r.1 = .ok r.2 := by decide +kernel
theorem dX10_lookAround_72 : decode cX10_lookAround 72 = .ok (.invokevirtual 51, 3) := dgX10_lookAround_1 (72, (.invokevirtual 51, 3)) (List.mem_of_getElem? (i := 0) rfl)
theorem dX10_lookAround_75 : decode cX10_lookAround 75 = .ok (.iinc 4 1, 3) := dgX10_lookAround_1 (75, (.iinc 4 1, 3)) (List.mem_of_getElem? (i := 1) rfl)
theorem dX10_lookAround_78 : decode cX10_lookAround 78 = .ok (.goto (-30), 3) := dgX10_lookAround_1 (78, (.goto (-30), 3)) (List.mem_of_getElem? (i := 2) rfl)
theorem dX10_lookAround_81 : decode cX10_lookAround 81 = .ok (.iinc 2 1, 3) := dgX10_lookAround_1 (81, (.iinc 2 1, 3)) (List.mem_of_getElem? (i := 3) rfl)
theorem dX10_lookAround_84 : decode cX10_lookAround 84 = .ok (.goto (-58), 3) := dgX10_lookAround_1 (84, (.goto (-58), 3)) (List.mem_of_getElem? (i := 4) rfl)
theorem dX10_lookAround_87 : decode cX10_lookAround 87 = .ok (.iinc 1 1, 3) := dgX10_lookAround_1 (87, (.iinc 1 1, 3)) (List.mem_of_getElem? (i := 5) rfl)
theorem dX10_lookAround_90 : decode cX10_lookAround 90 = .ok (.goto (-80), 3) := dgX10_lookAround_1 (90, (.goto (-80), 3)) (List.mem_of_getElem? (i := 6) rfl)
theorem dX10_lookAround_93 : decode cX10_lookAround 93 = .ok (.return_, 1) := dgX10_lookAround_1 (93, (.return_, 1)) (List.mem_of_getElem? (i := 7) rfl)
theorem ml_X10_23 : Cond.methodLink RX10 23 yJ7_fill_d0a16 ∈ tblG := tg 917 (by decide +kernel) (by decide +kernel)
theorem st_J7_fill_d0a16 : Cond.static yJ7_fill_d0a16 ∈ tblG := tg 918 (by decide +kernel) (by decide +kernel)
theorem ini_J7 : Cond.initialized RJ7 ∈ tblG := tg 105 (by decide +kernel) (by decide +kernel)
theorem cd_J7_fill_d0a16 : Cond.code yJ7_fill_d0a16 cJ7_fill_d0a16 5 none ∈ tblG := tg 919 (by decide +kernel) (by decide +kernel)
theorem gW_J7_fill_d0a16 : GoodIn tblG (wsG yJ7_fill_d0a16 cJ7_fill_d0a16 5 none) := tgi cd_J7_fill_d0a16
theorem gS_X10_23 : GoodIn tblG (va_wsS RX10 23 yJ7_fill_d0a16 (wsG yJ7_fill_d0a16 cJ7_fill_d0a16 5 none)) := tgS ml_X10_23 st_J7_fill_d0a16 ini_J7 gW_J7_fill_d0a16
theorem hs_J7_fill_d0a16 : yJ7_fill_d0a16.cls ≠ "java/lang/invoke/MethodHandle" ∧ yJ7_fill_d0a16.cls ≠ "java/lang/invoke/VarHandle" ∧ (parseMethodDescriptor yJ7_fill_d0a16.desc).map (fun d => d.parameters.length) = some 2 := by decide +kernel
theorem fl_X10_15 : Cond.fieldLink RX10 15 "LateGlass$Watch" "house" "LLateGlass$House;" ∈ tblG := tg 300 (by decide +kernel) (by decide +kernel)
theorem fl_X10_29 : Cond.fieldLink RX10 29 "LateGlass$House" "bodies" "LLateGlass$Table;" ∈ tblG := tg 174 (by decide +kernel) (by decide +kernel)
theorem fl_X10_35 : Cond.fieldLink RX10 35 "LateGlass$Table" "rows" "I" ∈ tblG := tg 139 (by decide +kernel) (by decide +kernel)
theorem ml_X10_41 : Cond.methodLink RX10 41 yX6_get ∈ tblG := tg 920 (by decide +kernel) (by decide +kernel)
theorem gV_X10_41 : GoodIn tblG (wsV RX10 41 RX6 yX6_get (wsG yX6_get cX6_get 3 (some .int))) := tgV ml_X10_41 im_X6_get se_X6_get ini_X6 gW_X6_get
theorem ml_X10_45 : Cond.methodLink RX10 45 yX5_run ∈ tblG := tg 921 (by decide +kernel) (by decide +kernel)
theorem gV_X10_45 : GoodIn tblG (wsV RX10 45 RX5 yX5_run (wsG yX5_run cX5_run 9 none)) := tgV ml_X10_45 im_X5_run se_X5_run ini_X5 gW_X5_run
theorem ml_X10_51 : Cond.methodLink RX10 51 yX10_addPoints ∈ tblG := tg 922 (by decide +kernel) (by decide +kernel)
theorem im_X10_addPoints : Cond.instanceMethod yX10_addPoints ∈ tblG := tg 924 (by decide +kernel) (by decide +kernel)
theorem se_X10_addPoints : Cond.selects RX10 yX10_addPoints yX10_addPoints ∈ tblG := tg 19 (by decide +kernel) (by decide +kernel)
theorem ini_X10 : Cond.initialized RX10 ∈ tblG := tg 93 (by decide +kernel) (by decide +kernel)
theorem cd_X10_addPoints : Cond.code yX10_addPoints cX10_addPoints 2 none ∈ tblG := tg 925 (by decide +kernel) (by decide +kernel)
theorem gW_X10_addPoints : GoodIn tblG (wsG yX10_addPoints cX10_addPoints 2 none) := tgi cd_X10_addPoints
theorem gV_X10_51 : GoodIn tblG (wsV RX10 51 RX10 yX10_addPoints (wsG yX10_addPoints cX10_addPoints 2 none)) := tgV ml_X10_51 im_X10_addPoints se_X10_addPoints ini_X10 gW_X10_addPoints
theorem hv_X10_addPoints : yX10_addPoints.cls = RX10 ∧ yX10_addPoints.cls ≠ "java/lang/invoke/MethodHandle" ∧ yX10_addPoints.cls ≠ "java/lang/invoke/VarHandle" ∧ (parseMethodDescriptor yX10_addPoints.desc).map (fun d => d.parameters.length) = some 0 := by decide +kernel
set_option maxHeartbeats 4000000 in
set_option maxRecDepth 100000 in
theorem w_lookAroundN (l : Launch) (G : g5_G) (a_k a_h a_g a_gn a_b a_bn a_p a_pn a_bb a_j a_as a_sk a_l a_pt a_wa a_bo a_s a_w : Nat) (sz : Nat) (e_le : Int32) (e_st : Int32) (e_fo : Int32) (e_lc : Int32) (e_g : Int32) (e_b : Int32) (e_p : Int32) (e_ln : Int32) (e_se : Int32) (e_lh : Int32) (e_br : Int32) (e_we : Int32) (e_me : Int32) (e_ce : Int32) (e_wy : Int32) (e_ho : Int32) (e_ov : Int32) (e_wa : Int64) (e_gb : Int64) (f_g : Nat → Int32) (f_b : Nat → Int32) (f_p : Nat → Int32) (f_bb : Nat → Int64) (f_as : Nat → Int32) (f_sk : Nat → Int64) (f_l : Nat → Option Nat) (f_pt : Nat → Int32) (f_bo : Nat → Int64) (h_e_g : 0 ≤ e_g.toInt ∧ e_g.toInt ≤ 6) (h_e_b : 0 ≤ e_b.toInt ∧ e_b.toInt ≤ 5) (h_e_p : 0 ≤ e_p.toInt ∧ e_p.toInt ≤ 8) (h_e_ov : 0 ≤ e_ov.toInt ∧ e_ov.toInt ≤ 1) (e_gk : gOK f_g e_g.toInt) (e_pk : gOK f_p e_p.toInt) (e_gi : inT e_gb f_g e_g.toInt) (e_f : e_fo.toInt < 0 ∨ e_lc.toInt ≤ e_fo.toInt) : Met l yX10_lookAround (wsG yX10_lookAround cX10_lookAround 5 none) ({ frames := 14, cells := 0, slots := 0, locals := 556 }) (va_Pc [.ref a_wa] (g5_P G [(a_k, (oc5 a_h a_j a_pt e_ln e_se e_lh e_br e_we e_me e_ce e_wy e_ho e_ov)), (a_h, (oc1 e_wa e_le e_st e_fo e_lc a_l a_g a_b a_s a_p a_w e_gb a_bb)), (a_g, (oc6 6 5 a_gn e_g)), (a_gn, (arI G 30 f_g)), (a_b, (oc6 5 24 a_bn e_b)), (a_bn, (arI G 120 f_b)), (a_p, (oc6 8 5 a_pn e_p)), (a_pn, (arI G 40 f_p)), (a_bb, (arJ G 24 f_bb)), (a_j, (oc2 a_as a_sk)), (a_as, (arI G 8 f_as)), (a_sk, (arJ G 50 f_sk)), (a_l, (arW G 6 f_l)), (a_pt, (arI G 200 f_pt)), (a_wa, (oc10 a_h a_k a_bo)), (a_bo, (arJ G 24 f_bo))] sz)) (va_Qv (fun (u : va_W) => (∃ (o_ln : Int32) (o_se : Int32) (o_lh : Int32) (o_br : Int32) (o_we : Int32) (o_me : Int32) (o_ce : Int32) (o_wy : Int32) (o_ho : Int32) (o_ov : Int32) (o_pt : Nat → Int32) (o_as : Nat → Int32) (o_sk : Nat → Int64) (o_bo : Nat → Int64), (0 ≤ o_ov.toInt ∧ o_ov.toInt ≤ 1) ∧ (u = [(a_k, (oc5 a_h a_j a_pt o_ln o_se o_lh o_br o_we o_me o_ce o_wy o_ho o_ov)), (a_h, (oc1 e_wa e_le e_st e_fo e_lc a_l a_g a_b a_s a_p a_w e_gb a_bb)), (a_g, (oc6 6 5 a_gn e_g)), (a_gn, (arI G 30 f_g)), (a_b, (oc6 5 24 a_bn e_b)), (a_bn, (arI G 120 f_b)), (a_p, (oc6 8 5 a_pn e_p)), (a_pn, (arI G 40 f_p)), (a_bb, (arJ G 24 f_bb)), (a_j, (oc2 a_as a_sk)), (a_as, (arI G 8 o_as)), (a_sk, (arJ G 50 o_sk)), (a_l, (arW G 6 f_l)), (a_pt, (arI G 200 o_pt)), (a_wa, (oc10 a_h a_k a_bo)), (a_bo, (arJ G 24 o_bo))]))) (g5_B G (va_A [(a_k, (oc5 a_h a_j a_pt e_ln e_se e_lh e_br e_we e_me e_ce e_wy e_ho e_ov)), (a_h, (oc1 e_wa e_le e_st e_fo e_lc a_l a_g a_b a_s a_p a_w e_gb a_bb)), (a_g, (oc6 6 5 a_gn e_g)), (a_gn, (arI G 30 f_g)), (a_b, (oc6 5 24 a_bn e_b)), (a_bn, (arI G 120 f_b)), (a_p, (oc6 8 5 a_pn e_p)), (a_pn, (arI G 40 f_p)), (a_bb, (arJ G 24 f_bb)), (a_j, (oc2 a_as a_sk)), (a_as, (arI G 8 f_as)), (a_sk, (arJ G 50 f_sk)), (a_l, (arW G 6 f_l)), (a_pt, (arI G 200 f_pt)), (a_wa, (oc10 a_h a_k a_bo)), (a_bo, (arJ G 24 f_bo))] sz)) (va_A [(a_k, (oc5 a_h a_j a_pt e_ln e_se e_lh e_br e_we e_me e_ce e_wy e_ho e_ov)), (a_h, (oc1 e_wa e_le e_st e_fo e_lc a_l a_g a_b a_s a_p a_w e_gb a_bb)), (a_g, (oc6 6 5 a_gn e_g)), (a_gn, (arI G 30 f_g)), (a_b, (oc6 5 24 a_bn e_b)), (a_bn, (arI G 120 f_b)), (a_p, (oc6 8 5 a_pn e_p)), (a_pn, (arI G 40 f_p)), (a_bb, (arJ G 24 f_bb)), (a_j, (oc2 a_as a_sk)), (a_as, (arI G 8 f_as)), (a_sk, (arJ G 50 f_sk)), (a_l, (arW G 6 f_l)), (a_pt, (arI G 200 f_pt)), (a_wa, (oc10 a_h a_k a_bo)), (a_bo, (arJ G 24 f_bo))] sz)) 0 0 (va_A [(a_k, (oc5 a_h a_j a_pt e_ln e_se e_lh e_br e_we e_me e_ce e_wy e_ho e_ov)), (a_h, (oc1 e_wa e_le e_st e_fo e_lc a_l a_g a_b a_s a_p a_w e_gb a_bb)), (a_g, (oc6 6 5 a_gn e_g)), (a_gn, (arI G 30 f_g)), (a_b, (oc6 5 24 a_bn e_b)), (a_bn, (arI G 120 f_b)), (a_p, (oc6 8 5 a_pn e_p)), (a_pn, (arI G 40 f_p)), (a_bb, (arJ G 24 f_bb)), (a_j, (oc2 a_as a_sk)), (a_as, (arI G 8 f_as)), (a_sk, (arJ G 50 f_sk)), (a_l, (arW G 6 f_l)), (a_pt, (arI G 200 f_pt)), (a_wa, (oc10 a_h a_k a_bo)), (a_bo, (arJ G 24 f_bo))] sz) := by
  refine Met.ofW (cc := cX10_lookAround) (maxL := 5) (ret := none) (by decide) rfl ?_
  intro p e s m args below meth c s₁ B hml hv
  obtain ⟨rfl, hsz, hP, hK, hD0, hN, hT⟩ := hv
  have hx := B.exec
  have hb := B.bytes
  have hr := B.returns
  have hts : ∀ w ∈ tblG, w.before _ s = true := fun w h => atoms_spec (ws := (wsG yX10_lookAround cX10_lookAround 5 none)) B.pre w (List.mem_cons_of_mem _ h)
  have hown : s.vm.findClass RX10 = some m.cls := findClass_of_methodNamed B.named
  have hlocks := B.notSynchronized
  subst hsz
  have hD := hD0.self (sz := s.heap.size)
  generalize hAe : va_A [(a_k, (oc5 a_h a_j a_pt e_ln e_se e_lh e_br e_we e_me e_ce e_wy e_ho e_ov)), (a_h, (oc1 e_wa e_le e_st e_fo e_lc a_l a_g a_b a_s a_p a_w e_gb a_bb)), (a_g, (oc6 6 5 a_gn e_g)), (a_gn, (arI G 30 f_g)), (a_b, (oc6 5 24 a_bn e_b)), (a_bn, (arI G 120 f_b)), (a_p, (oc6 8 5 a_pn e_p)), (a_pn, (arI G 40 f_p)), (a_bb, (arJ G 24 f_bb)), (a_j, (oc2 a_as a_sk)), (a_as, (arI G 8 f_as)), (a_sk, (arJ G 50 f_sk)), (a_l, (arW G 6 f_l)), (a_pt, (arI G 200 f_pt)), (a_wa, (oc10 a_h a_k a_bo)), (a_bo, (arJ G 24 f_bo))] s.heap.size = A at hD hT ⊢
  have hA : ∀ q : Nat, s.heap.size ≤ q → A q := fun q h => by rw [← hAe]; exact Or.inr h
  have hS : va_S A s.heap s.heap [] := va_S.rf
  have hP : va_P G.1 vwCl [(a_k, (oc5 a_h a_j a_pt e_ln e_se e_lh e_br e_we e_me e_ce e_wy e_ho e_ov)), (a_h, (oc1 e_wa e_le e_st e_fo e_lc a_l a_g a_b a_s a_p a_w e_gb a_bb)), (a_g, (oc6 6 5 a_gn e_g)), (a_gn, (arI G 30 f_g)), (a_b, (oc6 5 24 a_bn e_b)), (a_bn, (arI G 120 f_b)), (a_p, (oc6 8 5 a_pn e_p)), (a_pn, (arI G 40 f_p)), (a_bb, (arJ G 24 f_bb)), (a_j, (oc2 a_as a_sk)), (a_as, (arI G 8 f_as)), (a_sk, (arJ G 50 f_sk)), (a_l, (arW G 6 f_l)), (a_pt, (arI G 200 f_pt)), (a_wa, (oc10 a_h a_k a_bo)), (a_bo, (arJ G 24 f_bo))] s.heap := hP
  have hl := lv_entry ([.ref a_wa]) (n := 5) (Nat.le_of_ble_eq_true rfl)
  rw [lg_entry_eq]
  generalize (lg_sl ([.ref a_wa]) ++ List.replicate (5 - (lg_sl ([.ref a_wa])).length) Slot.unset).toArray = ls at hl ⊢
  have hl : lv_has ls 5 [(0, .ref a_wa)] := hl
  refine lv_aload_n hx hb dX10_lookAround_0 rfl (lv_at hl 0 rfl) ?_
  refine va_get (D := G.1) (ci := 10) (v := .ref a_bo) (C := RX10) (T := TX10) (N := 3) hx hb hts inG_X10 hown hK hP 14 rfl rfl 2 (by decide) (hts _ fl_X10_9) (fun _ h9 => h9) rfl dX10_lookAround_1 ?_
  refine lv_lconst (v := 0) hx hb dX10_lookAround_4 (by decide) ?_
  obtain ⟨hPc, hDc, hFc⟩ := g5_sub3 (wc := [(a_bo, (arJ G 24 f_bo))]) hP hD hS hA [15] (by decide) rfl
  refine va_callv (va_runS (As := [.ref a_bo, .long 0]) (rest := []) ⟨hx, hb, hml, hown, hts⟩ (k_fillJ24 l G a_bo s.heap.size 0 f_bo) (va_cwS 2 hts gS_X10_23 rfl rfl rfl hs_J7_fill_d0a16 ⟨Nat.le_of_ble_eq_true rfl, Nat.le_of_ble_eq_true rfl⟩) (g5_preS hPc hK hDc hN hT hS hFc) rfl rfl hl.1 rfl (lv_room (Nat.le_of_ble_eq_true rfl)) dX10_lookAround_5 ⟨Nat.le_of_ble_eq_true rfl, Nat.le_of_ble_eq_true rfl⟩) hS (fun q _ h => hFc q h) hFc (fun u t H1 locs ht hvm hw hB hz1 hk1 hS => ?_)
  obtain ⟨hP1, hD1⟩ := hB
  rw [ht] at hP1
  obtain rfl := hw
  obtain ⟨hP, hD⟩ := va_join (wr := [(a_k, (oc5 a_h a_j a_pt e_ln e_se e_lh e_br e_we e_me e_ce e_wy e_ho e_ov)), (a_h, (oc1 e_wa e_le e_st e_fo e_lc a_l a_g a_b a_s a_p a_w e_gb a_bb)), (a_g, (oc6 6 5 a_gn e_g)), (a_gn, (arI G 30 f_g)), (a_b, (oc6 5 24 a_bn e_b)), (a_bn, (arI G 120 f_b)), (a_p, (oc6 8 5 a_pn e_p)), (a_pn, (arI G 40 f_p)), (a_bb, (arJ G 24 f_bb)), (a_j, (oc2 a_as a_sk)), (a_as, (arI G 8 f_as)), (a_sk, (arJ G 50 f_sk)), (a_l, (arW G 6 f_l)), (a_pt, (arI G 200 f_pt)), (a_wa, (oc10 a_h a_k a_bo))]) hP hD [15] [0, 1, 2, 3, 4, 5, 6, 7, 8, 9, 10, 11, 12, 13, 14] rfl rfl (by decide) (by decide) hk1 hFc hP1 hD1
  generalize H1 = H at hP hS ⊢
  refine g5_rs [(a_k, (oc5 a_h a_j a_pt e_ln e_se e_lh e_br e_we e_me e_ce e_wy e_ho e_ov)), (a_h, (oc1 e_wa e_le e_st e_fo e_lc a_l a_g a_b a_s a_p a_w e_gb a_bb)), (a_g, (oc6 6 5 a_gn e_g)), (a_gn, (arI G 30 f_g)), (a_b, (oc6 5 24 a_bn e_b)), (a_bn, (arI G 120 f_b)), (a_p, (oc6 8 5 a_pn e_p)), (a_pn, (arI G 40 f_p)), (a_bb, (arJ G 24 f_bb)), (a_j, (oc2 a_as a_sk)), (a_as, (arI G 8 f_as)), (a_sk, (arJ G 50 f_sk)), (a_l, (arW G 6 f_l)), (a_pt, (arI G 200 f_pt)), (a_wa, (oc10 a_h a_k a_bo)), (a_bo, (arJ G 24 (fun _ => 0)))] hP hD (fun hP hD => ?_)
  refine lv_iconst (v := 0) hx hb dX10_lookAround_8 (by decide) ?_
  refine lv_istore_n (lv' := [(1, .int 0), (0, .ref a_wa)]) hx hb dX10_lookAround_9 rfl hl (by decide) rfl (fun ls hl => ?_)
  refine g5_loop (α := (Int32) × (Int32) × (Int32) × (Int32) × (Int32) × (Int32) × (Int32) × (Int32) × (Int32) × (Int32) × (Nat → Int32) × (Nat → Int32) × (Nat → Int64) × (Int32) × (Nat → Int64)) (fun (q : (Int32) × (Int32) × (Int32) × (Int32) × (Int32) × (Int32) × (Int32) × (Int32) × (Int32) × (Int32) × (Nat → Int32) × (Nat → Int32) × (Nat → Int64) × (Int32) × (Nat → Int64)) (ls : Array Slot) (H : Heap) (locs : List Loc) => match q with | (k_q, k_se, k_lh, k_br, k_we, k_me, k_ce, k_wy, k_ho, k_ov, k_pt, k_as, k_sk, k_ln, k_bo) => lv_has ls 5 [(1, .int k_q), (0, .ref a_wa)] ∧ va_P G.1 vwCl [(a_k, (oc5 a_h a_j a_pt k_ln k_se k_lh k_br k_we k_me k_ce k_wy k_ho k_ov)), (a_h, (oc1 e_wa e_le e_st e_fo e_lc a_l a_g a_b a_s a_p a_w e_gb a_bb)), (a_g, (oc6 6 5 a_gn e_g)), (a_gn, (arI G 30 f_g)), (a_b, (oc6 5 24 a_bn e_b)), (a_bn, (arI G 120 f_b)), (a_p, (oc6 8 5 a_pn e_p)), (a_pn, (arI G 40 f_p)), (a_bb, (arJ G 24 f_bb)), (a_j, (oc2 a_as a_sk)), (a_as, (arI G 8 k_as)), (a_sk, (arJ G 50 k_sk)), (a_l, (arW G 6 f_l)), (a_pt, (arI G 200 k_pt)), (a_wa, (oc10 a_h a_k a_bo)), (a_bo, (arJ G 24 k_bo))] H ∧ va_D A [(a_k, (oc5 a_h a_j a_pt k_ln k_se k_lh k_br k_we k_me k_ce k_wy k_ho k_ov)), (a_h, (oc1 e_wa e_le e_st e_fo e_lc a_l a_g a_b a_s a_p a_w e_gb a_bb)), (a_g, (oc6 6 5 a_gn e_g)), (a_gn, (arI G 30 f_g)), (a_b, (oc6 5 24 a_bn e_b)), (a_bn, (arI G 120 f_b)), (a_p, (oc6 8 5 a_pn e_p)), (a_pn, (arI G 40 f_p)), (a_bb, (arJ G 24 f_bb)), (a_j, (oc2 a_as a_sk)), (a_as, (arI G 8 k_as)), (a_sk, (arJ G 50 k_sk)), (a_l, (arW G 6 f_l)), (a_pt, (arI G 200 k_pt)), (a_wa, (oc10 a_h a_k a_bo)), (a_bo, (arJ G 24 k_bo))] ∧ va_S A s.heap H locs ∧ (0 ≤ k_q.toInt ∧ k_q.toInt ≤ 5) ∧ (0 ≤ k_ov.toInt ∧ k_ov.toInt ≤ 1) ∧ (k_q.toInt ≤ e_b.toInt)) (fun (q : (Int32) × (Int32) × (Int32) × (Int32) × (Int32) × (Int32) × (Int32) × (Int32) × (Int32) × (Int32) × (Nat → Int32) × (Nat → Int32) × (Nat → Int64) × (Int32) × (Nat → Int64)) => match q with | (k_q, k_se, k_lh, k_br, k_we, k_me, k_ce, k_wy, k_ho, k_ov, k_pt, k_as, k_sk, k_ln, k_bo) => Int.toNat (5 - k_q.toInt)) (0, e_se, e_lh, e_br, e_we, e_me, e_ce, e_wy, e_ho, e_ov, f_pt, f_as, f_sk, e_ln, (fun _ => 0)) ⟨lv_sub hl [0, 1] rfl, hP, hD, hS, ⟨by decide, by decide⟩, h_e_ov, by have z0 : (0 : Int32).toInt = 0 := (by decide); omega⟩ ?_
  rintro ⟨k_q, k_se, k_lh, k_br, k_we, k_me, k_ce, k_wy, k_ho, k_ov, k_pt, k_as, k_sk, k_ln, k_bo⟩ ls H locs ⟨hl, hP, hD, hS, i_1, i_2, i_3⟩ ih_10_4
  have hl : lv_has ls 5 [(1, .int k_q), (0, .ref a_wa)] := hl
  have i_1 : 0 ≤ k_q.toInt ∧ k_q.toInt ≤ 5 := i_1
  have i_2 : 0 ≤ k_ov.toInt ∧ k_ov.toInt ≤ 1 := i_2
  have i_3 : k_q.toInt ≤ e_b.toInt := i_3
  refine g5_rs [(a_k, (oc5 a_h a_j a_pt k_ln k_se k_lh k_br k_we k_me k_ce k_wy k_ho k_ov)), (a_h, (oc1 e_wa e_le e_st e_fo e_lc a_l a_g a_b a_s a_p a_w e_gb a_bb)), (a_g, (oc6 6 5 a_gn e_g)), (a_gn, (arI G 30 f_g)), (a_b, (oc6 5 24 a_bn e_b)), (a_bn, (arI G 120 f_b)), (a_p, (oc6 8 5 a_pn e_p)), (a_pn, (arI G 40 f_p)), (a_bb, (arJ G 24 f_bb)), (a_j, (oc2 a_as a_sk)), (a_as, (arI G 8 k_as)), (a_sk, (arJ G 50 k_sk)), (a_l, (arW G 6 f_l)), (a_pt, (arI G 200 k_pt)), (a_wa, (oc10 a_h a_k a_bo)), (a_bo, (arJ G 24 k_bo))] hP hD (fun hP hD => ?_)
  refine lv_iload_n hx hb dX10_lookAround_10 rfl (lv_at hl 0 rfl) ?_
  refine lv_aload_n hx hb dX10_lookAround_11 rfl (lv_at hl 1 rfl) ?_
  refine va_get (D := G.1) (ci := 10) (v := .ref a_h) (C := RX10) (T := TX10) (N := 3) hx hb hts inG_X10 hown hK hP 14 rfl rfl 0 (by decide) (hts _ fl_X10_15) (fun _ h9 => h9) rfl dX10_lookAround_12 ?_
  refine va_get (D := G.1) (ci := 1) (v := .ref a_b) (C := RX1) (T := TX1) (N := 13) hx hb hts inG_X1 hown hK hP 1 rfl rfl 7 (by decide) (hts _ fl_X10_29) (fun _ h9 => h9) rfl dX10_lookAround_15 ?_
  refine va_get (D := G.1) (ci := 6) (v := .int e_b) (C := RX6) (T := TX6) (N := 4) hx hb hts inG_X6 hown hK hP 4 rfl rfl 3 (by decide) (hts _ fl_X10_35) (fun _ h9 => h9) rfl dX10_lookAround_18 ?_
  refine lv_icmp_ge (tgt := 93) hx hb dX10_lookAround_21 (by decide) (fun c_5 => ?_) (fun c_5 => ?_)
  ·
    have i_5 : k_q.toInt ≥ e_b.toInt := by have z := g5_ge (a := k_q.toInt) (b := e_b.toInt) (by rfl) (by rfl) c_5; omega
    exact W.vret hx hb hr (fun t ht hW => ⟨⟨[(a_k, (oc5 a_h a_j a_pt k_ln k_se k_lh k_br k_we k_me k_ce k_wy k_ho k_ov)), (a_h, (oc1 e_wa e_le e_st e_fo e_lc a_l a_g a_b a_s a_p a_w e_gb a_bb)), (a_g, (oc6 6 5 a_gn e_g)), (a_gn, (arI G 30 f_g)), (a_b, (oc6 5 24 a_bn e_b)), (a_bn, (arI G 120 f_b)), (a_p, (oc6 8 5 a_pn e_p)), (a_pn, (arI G 40 f_p)), (a_bb, (arJ G 24 f_bb)), (a_j, (oc2 a_as a_sk)), (a_as, (arI G 8 k_as)), (a_sk, (arJ G 50 k_sk)), (a_l, (arW G 6 f_l)), (a_pt, (arI G 200 k_pt)), (a_wa, (oc10 a_h a_k a_bo)), (a_bo, (arJ G 24 k_bo))], rfl, ⟨k_ln, k_se, k_lh, k_br, k_we, k_me, k_ce, k_wy, k_ho, k_ov, k_pt, k_as, k_sk, k_bo, i_2, rfl⟩, by rw [ht]; exact hP.sub [0, 1, 2, 3, 4, 5, 6, 7, 8, 9, 10, 11, 12, 13, 14, 15] rfl, hD.sub [0, 1, 2, 3, 4, 5, 6, 7, 8, 9, 10, 11, 12, 13, 14, 15] (by decide) rfl⟩, hS.F ht⟩) hS.2.2 dX10_lookAround_93
  ·
    have i_5 : k_q.toInt < e_b.toInt := by have z := g5_geN (a := k_q.toInt) (b := e_b.toInt) (by rfl) (by rfl) c_5; omega
    refine lv_iconst (v := 0) hx hb dX10_lookAround_24 (by decide) ?_
    refine lv_istore_n (lv' := [(2, .int 0), (1, .int k_q), (0, .ref a_wa)]) hx hb dX10_lookAround_25 rfl hl (by decide) rfl (fun ls hl => ?_)
    refine g5_loop (α := (Int32) × (Int32) × (Int32) × (Int32) × (Int32) × (Int32) × (Int32) × (Int32) × (Int32) × (Int32) × (Nat → Int32) × (Nat → Int32) × (Nat → Int64) × (Int32) × (Nat → Int64)) (fun (q : (Int32) × (Int32) × (Int32) × (Int32) × (Int32) × (Int32) × (Int32) × (Int32) × (Int32) × (Int32) × (Nat → Int32) × (Nat → Int32) × (Nat → Int64) × (Int32) × (Nat → Int64)) (ls : Array Slot) (H : Heap) (locs : List Loc) => match q with | (m_q, m_se, m_lh, m_br, m_we, m_me, m_ce, m_wy, m_ho, m_ov, m_pt, m_as, m_sk, m_ln, m_bo) => lv_has ls 5 [(2, .int m_q), (1, .int k_q), (0, .ref a_wa)] ∧ va_P G.1 vwCl [(a_k, (oc5 a_h a_j a_pt m_ln m_se m_lh m_br m_we m_me m_ce m_wy m_ho m_ov)), (a_h, (oc1 e_wa e_le e_st e_fo e_lc a_l a_g a_b a_s a_p a_w e_gb a_bb)), (a_g, (oc6 6 5 a_gn e_g)), (a_gn, (arI G 30 f_g)), (a_b, (oc6 5 24 a_bn e_b)), (a_bn, (arI G 120 f_b)), (a_p, (oc6 8 5 a_pn e_p)), (a_pn, (arI G 40 f_p)), (a_bb, (arJ G 24 f_bb)), (a_j, (oc2 a_as a_sk)), (a_as, (arI G 8 m_as)), (a_sk, (arJ G 50 m_sk)), (a_l, (arW G 6 f_l)), (a_pt, (arI G 200 m_pt)), (a_wa, (oc10 a_h a_k a_bo)), (a_bo, (arJ G 24 m_bo))] H ∧ va_D A [(a_k, (oc5 a_h a_j a_pt m_ln m_se m_lh m_br m_we m_me m_ce m_wy m_ho m_ov)), (a_h, (oc1 e_wa e_le e_st e_fo e_lc a_l a_g a_b a_s a_p a_w e_gb a_bb)), (a_g, (oc6 6 5 a_gn e_g)), (a_gn, (arI G 30 f_g)), (a_b, (oc6 5 24 a_bn e_b)), (a_bn, (arI G 120 f_b)), (a_p, (oc6 8 5 a_pn e_p)), (a_pn, (arI G 40 f_p)), (a_bb, (arJ G 24 f_bb)), (a_j, (oc2 a_as a_sk)), (a_as, (arI G 8 m_as)), (a_sk, (arJ G 50 m_sk)), (a_l, (arW G 6 f_l)), (a_pt, (arI G 200 m_pt)), (a_wa, (oc10 a_h a_k a_bo)), (a_bo, (arJ G 24 m_bo))] ∧ va_S A s.heap H locs ∧ (0 ≤ m_q.toInt ∧ m_q.toInt ≤ 24) ∧ (0 ≤ m_ov.toInt ∧ m_ov.toInt ≤ 1)) (fun (q : (Int32) × (Int32) × (Int32) × (Int32) × (Int32) × (Int32) × (Int32) × (Int32) × (Int32) × (Int32) × (Nat → Int32) × (Nat → Int32) × (Nat → Int64) × (Int32) × (Nat → Int64)) => match q with | (m_q, m_se, m_lh, m_br, m_we, m_me, m_ce, m_wy, m_ho, m_ov, m_pt, m_as, m_sk, m_ln, m_bo) => Int.toNat (24 - m_q.toInt)) (0, k_se, k_lh, k_br, k_we, k_me, k_ce, k_wy, k_ho, k_ov, k_pt, k_as, k_sk, k_ln, k_bo) ⟨lv_sub hl [0, 1, 2] rfl, hP, hD, hS, ⟨by decide, by decide⟩, i_2⟩ ?_
    rintro ⟨m_q, m_se, m_lh, m_br, m_we, m_me, m_ce, m_wy, m_ho, m_ov, m_pt, m_as, m_sk, m_ln, m_bo⟩ ls H locs ⟨hl, hP, hD, hS, i_6, i_7⟩ ih_26_8
    have hl : lv_has ls 5 [(2, .int m_q), (1, .int k_q), (0, .ref a_wa)] := hl
    have i_6 : 0 ≤ m_q.toInt ∧ m_q.toInt ≤ 24 := i_6
    have i_7 : 0 ≤ m_ov.toInt ∧ m_ov.toInt ≤ 1 := i_7
    refine g5_rs [(a_k, (oc5 a_h a_j a_pt m_ln m_se m_lh m_br m_we m_me m_ce m_wy m_ho m_ov)), (a_h, (oc1 e_wa e_le e_st e_fo e_lc a_l a_g a_b a_s a_p a_w e_gb a_bb)), (a_g, (oc6 6 5 a_gn e_g)), (a_gn, (arI G 30 f_g)), (a_b, (oc6 5 24 a_bn e_b)), (a_bn, (arI G 120 f_b)), (a_p, (oc6 8 5 a_pn e_p)), (a_pn, (arI G 40 f_p)), (a_bb, (arJ G 24 f_bb)), (a_j, (oc2 a_as a_sk)), (a_as, (arI G 8 m_as)), (a_sk, (arJ G 50 m_sk)), (a_l, (arW G 6 f_l)), (a_pt, (arI G 200 m_pt)), (a_wa, (oc10 a_h a_k a_bo)), (a_bo, (arJ G 24 m_bo))] hP hD (fun hP hD => ?_)
    refine lv_iload_n hx hb dX10_lookAround_26 rfl (lv_at hl 0 rfl) ?_
    refine lv_bipush (v := 24) hx hb dX10_lookAround_27 (by decide) ?_
    refine lv_icmp_ge (tgt := 87) hx hb dX10_lookAround_29 (by decide) (fun c_9 => ?_) (fun c_9 => ?_)
    ·
      have i_9 : m_q.toInt ≥ 24 := by have z := g5_ge (a := m_q.toInt) (b := 24) (by rfl) (by decide) c_9; omega
      refine lv_iinc (v := (k_q + 1)) (lv' := [(1, .int (k_q + 1)), (2, .int m_q), (0, .ref a_wa)]) hx hb dX10_lookAround_87 hl (k := 1) rfl rfl (by decide) rfl (fun ls hl => ?_)
      have t_10 : (k_q + 1).toInt = k_q.toInt + 1 := g5_iadd (a := k_q.toInt) (b := 1) rfl (by decide) (by omega) (by omega)
      refine lv_goto (tgt := 10) hx hb dX10_lookAround_90 (by decide) ?_
      exact ih_10_4 ((k_q + 1), m_se, m_lh, m_br, m_we, m_me, m_ce, m_wy, m_ho, m_ov, m_pt, m_as, m_sk, m_ln, m_bo) ls H locs (show Int.toNat (5 - (k_q + 1).toInt) < Int.toNat (5 - k_q.toInt) from g_up (show k_q.toInt < (k_q + 1).toInt by omega) (show k_q.toInt < 5 by omega)) ⟨lv_sub hl [0, 2] rfl, hP, hD, hS, ⟨by omega, by omega⟩, i_7, by omega⟩
    ·
      have i_9 : m_q.toInt < 24 := by have z := g5_geN (a := m_q.toInt) (b := 24) (by rfl) (by decide) c_9; omega
      refine lv_aload_n hx hb dX10_lookAround_32 rfl (lv_at hl 2 rfl) ?_
      refine va_get (D := G.1) (ci := 10) (v := .ref a_h) (C := RX10) (T := TX10) (N := 3) hx hb hts inG_X10 hown hK hP 14 rfl rfl 0 (by decide) (hts _ fl_X10_15) (fun _ h9 => h9) rfl dX10_lookAround_33 ?_
      refine va_get (D := G.1) (ci := 1) (v := .ref a_b) (C := RX1) (T := TX1) (N := 13) hx hb hts inG_X1 hown hK hP 1 rfl rfl 7 (by decide) (hts _ fl_X10_29) (fun _ h9 => h9) rfl dX10_lookAround_36 ?_
      refine lv_iload_n hx hb dX10_lookAround_39 rfl (lv_at hl 1 rfl) ?_
      refine lv_iload_n hx hb dX10_lookAround_40 rfl (lv_at hl 0 rfl) ?_
      obtain ⟨hPc, hDc, hFc⟩ := g5_sub3 (wc := [(a_b, (oc6 5 24 a_bn e_b)), (a_bn, (arI G 120 f_b))]) hP hD hS hA [4, 5] (by decide) rfl
      refine va_calli (va_runV (As := [.int k_q, .int m_q]) (rest := []) ⟨hx, hb, hml, hown, hts⟩ (t_get_B l G a_b a_bn H.size e_b k_q m_q f_b h_e_b) (cwV 2 hts gV_X10_41 rfl rfl rfl hv_X6_get ⟨Nat.le_of_ble_eq_true rfl, Nat.le_of_ble_eq_true rfl⟩) (g5_preV hPc hK hDc hN hT hS hFc (ci := 6) (q0 := 0) rfl rfl) rfl rfl hl.1 rfl (lv_room (Nat.le_of_ble_eq_true rfl)) dX10_lookAround_41 ⟨Nat.le_of_ble_eq_true rfl, Nat.le_of_ble_eq_true rfl⟩) hS (fun q _ h => hFc q h) hFc (fun r u t H1 locs ht hvm hw hB hz1 hk1 hS => ?_)
      obtain ⟨hP1, hD1⟩ := hB
      rw [ht] at hP1
      obtain ⟨z12, i_11, y13, rfl⟩ := hw
      have i_11 : z12 = tget f_b e_b.toInt 24 k_q.toInt m_q.toInt := i_11
      obtain ⟨hP, hD⟩ := va_join (wr := [(a_k, (oc5 a_h a_j a_pt m_ln m_se m_lh m_br m_we m_me m_ce m_wy m_ho m_ov)), (a_h, (oc1 e_wa e_le e_st e_fo e_lc a_l a_g a_b a_s a_p a_w e_gb a_bb)), (a_g, (oc6 6 5 a_gn e_g)), (a_gn, (arI G 30 f_g)), (a_p, (oc6 8 5 a_pn e_p)), (a_pn, (arI G 40 f_p)), (a_bb, (arJ G 24 f_bb)), (a_j, (oc2 a_as a_sk)), (a_as, (arI G 8 m_as)), (a_sk, (arJ G 50 m_sk)), (a_l, (arW G 6 f_l)), (a_pt, (arI G 200 m_pt)), (a_wa, (oc10 a_h a_k a_bo)), (a_bo, (arJ G 24 m_bo))]) hP hD [4, 5] [0, 1, 2, 3, 6, 7, 8, 9, 10, 11, 12, 13, 14, 15] rfl rfl (by decide) (by decide) hk1 hFc hP1 hD1
      generalize H1 = H at hP hS ⊢
      refine g5_rs [(a_k, (oc5 a_h a_j a_pt m_ln m_se m_lh m_br m_we m_me m_ce m_wy m_ho m_ov)), (a_h, (oc1 e_wa e_le e_st e_fo e_lc a_l a_g a_b a_s a_p a_w e_gb a_bb)), (a_g, (oc6 6 5 a_gn e_g)), (a_gn, (arI G 30 f_g)), (a_p, (oc6 8 5 a_pn e_p)), (a_pn, (arI G 40 f_p)), (a_bb, (arJ G 24 f_bb)), (a_j, (oc2 a_as a_sk)), (a_as, (arI G 8 m_as)), (a_sk, (arJ G 50 m_sk)), (a_l, (arW G 6 f_l)), (a_pt, (arI G 200 m_pt)), (a_wa, (oc10 a_h a_k a_bo)), (a_bo, (arJ G 24 m_bo)), (a_b, (oc6 5 24 a_bn e_b)), (a_bn, (arI G 120 f_b))] hP hD (fun hP hD => ?_)
      refine g5_ti (v := z12) y13 ?_
      refine lv_istore_n (lv' := [(3, .int z12), (2, .int m_q), (1, .int k_q), (0, .ref a_wa)]) hx hb dX10_lookAround_44 rfl hl (by decide) rfl (fun ls hl => ?_)
      refine lv_iconst (v := 0) hx hb dX10_lookAround_45 (by decide) ?_
      refine lv_istore (lv' := [(4, .int 0), (3, .int z12), (2, .int m_q), (1, .int k_q), (0, .ref a_wa)]) hx hb dX10_lookAround_46 hl (by decide) rfl (fun ls hl => ?_)
      refine g5_loop (α := (Int32) × (Int32) × (Int32) × (Int32) × (Int32) × (Int32) × (Int32) × (Int32) × (Int32) × (Int32) × (Nat → Int32) × (Nat → Int32) × (Nat → Int64) × (Int32) × (Nat → Int64)) (fun (q : (Int32) × (Int32) × (Int32) × (Int32) × (Int32) × (Int32) × (Int32) × (Int32) × (Int32) × (Int32) × (Nat → Int32) × (Nat → Int32) × (Nat → Int64) × (Int32) × (Nat → Int64)) (ls : Array Slot) (H : Heap) (locs : List Loc) => match q with | (n_q, n_se, n_lh, n_br, n_we, n_me, n_ce, n_wy, n_ho, n_ov, n_pt, n_as, n_sk, n_ln, n_bo) => lv_has ls 5 [(4, .int n_q), (3, .int z12), (2, .int m_q), (1, .int k_q), (0, .ref a_wa)] ∧ va_P G.1 vwCl [(a_k, (oc5 a_h a_j a_pt n_ln n_se n_lh n_br n_we n_me n_ce n_wy n_ho n_ov)), (a_h, (oc1 e_wa e_le e_st e_fo e_lc a_l a_g a_b a_s a_p a_w e_gb a_bb)), (a_g, (oc6 6 5 a_gn e_g)), (a_gn, (arI G 30 f_g)), (a_p, (oc6 8 5 a_pn e_p)), (a_pn, (arI G 40 f_p)), (a_bb, (arJ G 24 f_bb)), (a_j, (oc2 a_as a_sk)), (a_as, (arI G 8 n_as)), (a_sk, (arJ G 50 n_sk)), (a_l, (arW G 6 f_l)), (a_pt, (arI G 200 n_pt)), (a_wa, (oc10 a_h a_k a_bo)), (a_bo, (arJ G 24 n_bo)), (a_b, (oc6 5 24 a_bn e_b)), (a_bn, (arI G 120 f_b))] H ∧ va_D A [(a_k, (oc5 a_h a_j a_pt n_ln n_se n_lh n_br n_we n_me n_ce n_wy n_ho n_ov)), (a_h, (oc1 e_wa e_le e_st e_fo e_lc a_l a_g a_b a_s a_p a_w e_gb a_bb)), (a_g, (oc6 6 5 a_gn e_g)), (a_gn, (arI G 30 f_g)), (a_p, (oc6 8 5 a_pn e_p)), (a_pn, (arI G 40 f_p)), (a_bb, (arJ G 24 f_bb)), (a_j, (oc2 a_as a_sk)), (a_as, (arI G 8 n_as)), (a_sk, (arJ G 50 n_sk)), (a_l, (arW G 6 f_l)), (a_pt, (arI G 200 n_pt)), (a_wa, (oc10 a_h a_k a_bo)), (a_bo, (arJ G 24 n_bo)), (a_b, (oc6 5 24 a_bn e_b)), (a_bn, (arI G 120 f_b))] ∧ va_S A s.heap H locs ∧ (0 ≤ n_q.toInt ∧ n_q.toInt ≤ 4) ∧ (0 ≤ n_ov.toInt ∧ n_ov.toInt ≤ 1)) (fun (q : (Int32) × (Int32) × (Int32) × (Int32) × (Int32) × (Int32) × (Int32) × (Int32) × (Int32) × (Int32) × (Nat → Int32) × (Nat → Int32) × (Nat → Int64) × (Int32) × (Nat → Int64)) => match q with | (n_q, n_se, n_lh, n_br, n_we, n_me, n_ce, n_wy, n_ho, n_ov, n_pt, n_as, n_sk, n_ln, n_bo) => Int.toNat (4 - n_q.toInt)) (0, m_se, m_lh, m_br, m_we, m_me, m_ce, m_wy, m_ho, m_ov, m_pt, m_as, m_sk, m_ln, m_bo) ⟨lv_sub hl [0, 1, 2, 3, 4] rfl, hP, hD, hS, ⟨by decide, by decide⟩, i_7⟩ ?_
      rintro ⟨n_q, n_se, n_lh, n_br, n_we, n_me, n_ce, n_wy, n_ho, n_ov, n_pt, n_as, n_sk, n_ln, n_bo⟩ ls H locs ⟨hl, hP, hD, hS, i_14, i_15⟩ ih_48_16
      have hl : lv_has ls 5 [(4, .int n_q), (3, .int z12), (2, .int m_q), (1, .int k_q), (0, .ref a_wa)] := hl
      have i_14 : 0 ≤ n_q.toInt ∧ n_q.toInt ≤ 4 := i_14
      have i_15 : 0 ≤ n_ov.toInt ∧ n_ov.toInt ≤ 1 := i_15
      refine g5_rs [(a_k, (oc5 a_h a_j a_pt n_ln n_se n_lh n_br n_we n_me n_ce n_wy n_ho n_ov)), (a_h, (oc1 e_wa e_le e_st e_fo e_lc a_l a_g a_b a_s a_p a_w e_gb a_bb)), (a_g, (oc6 6 5 a_gn e_g)), (a_gn, (arI G 30 f_g)), (a_p, (oc6 8 5 a_pn e_p)), (a_pn, (arI G 40 f_p)), (a_bb, (arJ G 24 f_bb)), (a_j, (oc2 a_as a_sk)), (a_as, (arI G 8 n_as)), (a_sk, (arJ G 50 n_sk)), (a_l, (arW G 6 f_l)), (a_pt, (arI G 200 n_pt)), (a_wa, (oc10 a_h a_k a_bo)), (a_bo, (arJ G 24 n_bo)), (a_b, (oc6 5 24 a_bn e_b)), (a_bn, (arI G 120 f_b))] hP hD (fun hP hD => ?_)
      refine lv_iload hx hb dX10_lookAround_48 (lv_at hl 0 rfl) ?_
      refine lv_iconst (v := 4) hx hb dX10_lookAround_50 (by decide) ?_
      refine lv_icmp_ge (tgt := 81) hx hb dX10_lookAround_51 (by decide) (fun c_17 => ?_) (fun c_17 => ?_)
      ·
        have i_17 : n_q.toInt ≥ 4 := by have z := g5_ge (a := n_q.toInt) (b := 4) (by rfl) (by decide) c_17; omega
        refine lv_iinc (v := (m_q + 1)) (lv' := [(2, .int (m_q + 1)), (4, .int n_q), (3, .int z12), (1, .int k_q), (0, .ref a_wa)]) hx hb dX10_lookAround_81 hl (k := 2) rfl rfl (by decide) rfl (fun ls hl => ?_)
        have t_18 : (m_q + 1).toInt = m_q.toInt + 1 := g5_iadd (a := m_q.toInt) (b := 1) rfl (by decide) (by omega) (by omega)
        refine lv_goto (tgt := 26) hx hb dX10_lookAround_84 (by decide) ?_
        exact ih_26_8 ((m_q + 1), n_se, n_lh, n_br, n_we, n_me, n_ce, n_wy, n_ho, n_ov, n_pt, n_as, n_sk, n_ln, n_bo) ls H locs (show Int.toNat (24 - (m_q + 1).toInt) < Int.toNat (24 - m_q.toInt) from g_up (show m_q.toInt < (m_q + 1).toInt by omega) (show m_q.toInt < 24 by omega)) ⟨lv_sub hl [0, 3, 4] rfl, hP.sub [0, 1, 2, 3, 14, 15, 4, 5, 6, 7, 8, 9, 10, 11, 12, 13] rfl, hD.sub [0, 1, 2, 3, 14, 15, 4, 5, 6, 7, 8, 9, 10, 11, 12, 13] (by decide) rfl, hS, ⟨by omega, by omega⟩, i_15⟩
      ·
        have i_17 : n_q.toInt < 4 := by have z := g5_geN (a := n_q.toInt) (b := 4) (by rfl) (by decide) c_17; omega
        refine lv_iload_n hx hb dX10_lookAround_54 rfl (lv_at hl 1 rfl) ?_
        refine lv_iconst (v := (-1)) hx hb dX10_lookAround_55 (by decide) ?_
        refine lv_icmp_eq (tgt := 81) hx hb dX10_lookAround_56 (by decide) (fun c_19 => ?_) (fun c_19 => ?_)
        ·
          have i_19 : z12.toInt = (-1) := by have z := g5_eq (a := z12.toInt) (b := (-1)) (by rfl) (by decide) c_19; omega
          refine lv_iinc (v := (m_q + 1)) (lv' := [(2, .int (m_q + 1)), (4, .int n_q), (3, .int z12), (1, .int k_q), (0, .ref a_wa)]) hx hb dX10_lookAround_81 hl (k := 2) rfl rfl (by decide) rfl (fun ls hl => ?_)
          have t_20 : (m_q + 1).toInt = m_q.toInt + 1 := g5_iadd (a := m_q.toInt) (b := 1) rfl (by decide) (by omega) (by omega)
          refine lv_goto (tgt := 26) hx hb dX10_lookAround_84 (by decide) ?_
          exact ih_26_8 ((m_q + 1), n_se, n_lh, n_br, n_we, n_me, n_ce, n_wy, n_ho, n_ov, n_pt, n_as, n_sk, n_ln, n_bo) ls H locs (show Int.toNat (24 - (m_q + 1).toInt) < Int.toNat (24 - m_q.toInt) from g_up (show m_q.toInt < (m_q + 1).toInt by omega) (show m_q.toInt < 24 by omega)) ⟨lv_sub hl [0, 3, 4] rfl, hP.sub [0, 1, 2, 3, 14, 15, 4, 5, 6, 7, 8, 9, 10, 11, 12, 13] rfl, hD.sub [0, 1, 2, 3, 14, 15, 4, 5, 6, 7, 8, 9, 10, 11, 12, 13] (by decide) rfl, hS, ⟨by omega, by omega⟩, i_15⟩
        ·
          have n_19 : gNe (z12.toInt) ((-1)) := by have z := g5_eqN (a := z12.toInt) (b := (-1)) (by rfl) (by decide) c_19; unfold gNe; omega
          refine lv_aload_n hx hb dX10_lookAround_59 rfl (lv_at hl 4 rfl) ?_
          refine va_get (D := G.1) (ci := 10) (v := .ref a_k) (C := RX10) (T := TX10) (N := 3) hx hb hts inG_X10 hown hK hP 12 rfl rfl 1 (by decide) (hts _ fl_X10_19) (fun _ h9 => h9) rfl dX10_lookAround_60 ?_
          refine lv_iload_n hx hb dX10_lookAround_63 rfl (lv_at hl 1 rfl) ?_
          refine lv_iload hx hb dX10_lookAround_64 (lv_at hl 0 rfl) ?_
          refine lv_iload_n hx hb dX10_lookAround_66 rfl (lv_at hl 2 rfl) ?_
          refine lv_iconst (v := 0) hx hb dX10_lookAround_67 (by decide) ?_
          obtain ⟨hPc, hDc, hFc⟩ := g5_sub3 (wc := [(a_k, (oc5 a_h a_j a_pt n_ln n_se n_lh n_br n_we n_me n_ce n_wy n_ho n_ov)), (a_h, (oc1 e_wa e_le e_st e_fo e_lc a_l a_g a_b a_s a_p a_w e_gb a_bb)), (a_g, (oc6 6 5 a_gn e_g)), (a_gn, (arI G 30 f_g)), (a_b, (oc6 5 24 a_bn e_b)), (a_bn, (arI G 120 f_b)), (a_p, (oc6 8 5 a_pn e_p)), (a_pn, (arI G 40 f_p)), (a_bb, (arJ G 24 f_bb)), (a_j, (oc2 a_as a_sk)), (a_as, (arI G 8 n_as)), (a_sk, (arJ G 50 n_sk)), (a_l, (arW G 6 f_l)), (a_pt, (arI G 200 n_pt))]) hP hD hS hA [0, 1, 2, 3, 14, 15, 4, 5, 6, 7, 8, 9, 10, 11] (by decide) rfl
          refine va_callv (va_runV (As := [.int z12, .int n_q, .int m_q, .int 0]) (rest := []) ⟨hx, hb, hml, hown, hts⟩ (k_runN l G a_k a_h a_g a_gn a_b a_bn a_p a_pn a_bb a_j a_as a_sk a_l a_pt a_s a_w H.size e_le e_st e_fo e_lc e_g e_b e_p n_ln n_se n_lh n_br n_we n_me n_ce n_wy n_ho n_ov z12 n_q m_q 0 e_wa e_gb f_g f_b f_p f_bb n_as n_sk f_l n_pt h_e_g h_e_b h_e_p i_15 (e_gk) (e_pk) (e_gi) (e_f)) (cwV 4 hts gV_X10_45 rfl rfl rfl hv_X5_run ⟨Nat.le_of_ble_eq_true rfl, Nat.le_of_ble_eq_true rfl⟩) (g5_preV hPc hK hDc hN hT hS hFc (ci := 5) (q0 := 0) rfl rfl) rfl rfl hl.1 rfl (lv_room (Nat.le_of_ble_eq_true rfl)) dX10_lookAround_68 ⟨Nat.le_of_ble_eq_true rfl, Nat.le_of_ble_eq_true rfl⟩) hS (fun q _ h => hFc q h) hFc (fun u t H1 locs ht hvm hw hB hz1 hk1 hS => ?_)
          obtain ⟨hP1, hD1⟩ := hB
          rw [ht] at hP1
          obtain ⟨z24, z25, z26, z27, z28, z29, z30, z31, z32, z33, z34, z35, z36, i_21, i_22, i_23, rfl⟩ := hw
          have i_21 : 0 ≤ z24.toInt ∧ z24.toInt ≤ 200 := i_21
          have i_22 : 0 ≤ z33.toInt ∧ z33.toInt ≤ 1 := i_22
          have i_23 : ∀ j : Nat, (j : Int) < z24.toInt → 0 ≤ (z34 j).toInt ∧ (z34 j).toInt ≤ 1535 := i_23
          obtain ⟨hP, hD⟩ := va_join (wr := [(a_wa, (oc10 a_h a_k a_bo)), (a_bo, (arJ G 24 n_bo))]) hP hD [0, 1, 2, 3, 14, 15, 4, 5, 6, 7, 8, 9, 10, 11] [12, 13] rfl rfl (by decide) (by decide) hk1 hFc hP1 hD1
          generalize H1 = H at hP hS ⊢
          refine g5_rs [(a_wa, (oc10 a_h a_k a_bo)), (a_bo, (arJ G 24 n_bo)), (a_k, (oc5 a_h a_j a_pt z24 z25 z26 z27 z28 z29 z30 z31 z32 z33)), (a_h, (oc1 e_wa e_le e_st e_fo e_lc a_l a_g a_b a_s a_p a_w e_gb a_bb)), (a_g, (oc6 6 5 a_gn e_g)), (a_gn, (arI G 30 f_g)), (a_b, (oc6 5 24 a_bn e_b)), (a_bn, (arI G 120 f_b)), (a_p, (oc6 8 5 a_pn e_p)), (a_pn, (arI G 40 f_p)), (a_bb, (arJ G 24 f_bb)), (a_j, (oc2 a_as a_sk)), (a_as, (arI G 8 z35)), (a_sk, (arJ G 50 z36)), (a_l, (arW G 6 f_l)), (a_pt, (arI G 200 z34))] hP hD (fun hP hD => ?_)
          refine lv_aload_n hx hb dX10_lookAround_71 rfl (lv_at hl 4 rfl) ?_
          obtain ⟨hPc, hDc, hFc⟩ := g5_sub3 (wc := [(a_wa, (oc10 a_h a_k a_bo)), (a_k, (oc5 a_h a_j a_pt z24 z25 z26 z27 z28 z29 z30 z31 z32 z33)), (a_pt, (arI G 200 z34)), (a_bo, (arJ G 24 n_bo))]) hP hD hS hA [0, 2, 15, 1] (by decide) rfl
          refine va_callv (va_runV (As := []) (rest := []) ⟨hx, hb, hml, hown, hts⟩ (w_addPoints l G a_wa a_k a_pt a_bo a_h a_j H.size z24 z25 z26 z27 z28 z29 z30 z31 z32 z33 z34 n_bo i_21 i_22 (i_23)) (cwV 0 hts gV_X10_51 rfl rfl rfl hv_X10_addPoints ⟨Nat.le_of_ble_eq_true rfl, Nat.le_of_ble_eq_true rfl⟩) (g5_preV hPc hK hDc hN hT hS hFc (ci := 10) (q0 := 0) rfl rfl) rfl rfl hl.1 rfl (lv_room (Nat.le_of_ble_eq_true rfl)) dX10_lookAround_72 ⟨Nat.le_of_ble_eq_true rfl, Nat.le_of_ble_eq_true rfl⟩) hS (fun q _ h => hFc q h) hFc (fun u t H1 locs ht hvm hw hB hz1 hk1 hS => ?_)
          obtain ⟨hP1, hD1⟩ := hB
          rw [ht] at hP1
          obtain ⟨z37, rfl⟩ := hw
          obtain ⟨hP, hD⟩ := va_join (wr := [(a_h, (oc1 e_wa e_le e_st e_fo e_lc a_l a_g a_b a_s a_p a_w e_gb a_bb)), (a_g, (oc6 6 5 a_gn e_g)), (a_gn, (arI G 30 f_g)), (a_b, (oc6 5 24 a_bn e_b)), (a_bn, (arI G 120 f_b)), (a_p, (oc6 8 5 a_pn e_p)), (a_pn, (arI G 40 f_p)), (a_bb, (arJ G 24 f_bb)), (a_j, (oc2 a_as a_sk)), (a_as, (arI G 8 z35)), (a_sk, (arJ G 50 z36)), (a_l, (arW G 6 f_l))]) hP hD [0, 2, 15, 1] [3, 4, 5, 6, 7, 8, 9, 10, 11, 12, 13, 14] rfl rfl (by decide) (by decide) hk1 hFc hP1 hD1
          generalize H1 = H at hP hS ⊢
          refine g5_rs [(a_h, (oc1 e_wa e_le e_st e_fo e_lc a_l a_g a_b a_s a_p a_w e_gb a_bb)), (a_g, (oc6 6 5 a_gn e_g)), (a_gn, (arI G 30 f_g)), (a_b, (oc6 5 24 a_bn e_b)), (a_bn, (arI G 120 f_b)), (a_p, (oc6 8 5 a_pn e_p)), (a_pn, (arI G 40 f_p)), (a_bb, (arJ G 24 f_bb)), (a_j, (oc2 a_as a_sk)), (a_as, (arI G 8 z35)), (a_sk, (arJ G 50 z36)), (a_l, (arW G 6 f_l)), (a_wa, (oc10 a_h a_k a_bo)), (a_k, (oc5 a_h a_j a_pt z24 z25 z26 z27 z28 z29 z30 z31 z32 z33)), (a_pt, (arI G 200 z34)), (a_bo, (arJ G 24 z37))] hP hD (fun hP hD => ?_)
          refine lv_iinc (v := (n_q + 1)) (lv' := [(4, .int (n_q + 1)), (3, .int z12), (2, .int m_q), (1, .int k_q), (0, .ref a_wa)]) hx hb dX10_lookAround_75 hl (k := 0) rfl rfl (by decide) rfl (fun ls hl => ?_)
          have t_38 : (n_q + 1).toInt = n_q.toInt + 1 := g5_iadd (a := n_q.toInt) (b := 1) rfl (by decide) (by omega) (by omega)
          refine lv_goto (tgt := 48) hx hb dX10_lookAround_78 (by decide) ?_
          exact ih_48_16 ((n_q + 1), z25, z26, z27, z28, z29, z30, z31, z32, z33, z34, z35, z36, z24, z37) ls H locs (show Int.toNat (4 - (n_q + 1).toInt) < Int.toNat (4 - n_q.toInt) from g_up (show n_q.toInt < (n_q + 1).toInt by omega) (show n_q.toInt < 4 by omega)) ⟨lv_sub hl [0, 1, 2, 3, 4] rfl, hP.sub [13, 0, 1, 2, 5, 6, 7, 8, 9, 10, 11, 14, 12, 15, 3, 4] rfl, hD.sub [13, 0, 1, 2, 5, 6, 7, 8, 9, 10, 11, 14, 12, 15, 3, 4] (by decide) rfl, hS, ⟨by omega, by omega⟩, i_22⟩
set_option maxHeartbeats 4000000 in
set_option maxRecDepth 100000 in
theorem w_lookAroundL (l : Launch) (G : g5_G) (a_k a_h a_g a_gn a_b a_bn a_p a_pn a_bb a_j a_as a_sk a_l a_lo a_sr a_cd a_hd a_pt a_wa a_bo a_s a_w : Nat) (sz : Nat) (e_le : Int32) (e_st : Int32) (e_fo : Int32) (e_lc : Int32) (e_g : Int32) (e_b : Int32) (e_p : Int32) (e_cl : Int32) (e_ln : Int32) (e_se : Int32) (e_lh : Int32) (e_br : Int32) (e_we : Int32) (e_me : Int32) (e_ce : Int32) (e_wy : Int32) (e_ho : Int32) (e_ov : Int32) (e_wa : Int64) (e_gb : Int64) (f_g : Nat → Int32) (f_b : Nat → Int32) (f_p : Nat → Int32) (f_bb : Nat → Int64) (f_as : Nat → Int32) (f_sk : Nat → Int64) (f_l : Nat → Option Nat) (f_sr : Nat → Int32) (f_cd : Nat → Int32) (f_hd : Nat → Int32) (f_pt : Nat → Int32) (f_bo : Nat → Int64) (n_sr : Nat) (n_cd : Nat) (n_hd : Nat) (h_e_g : 0 ≤ e_g.toInt ∧ e_g.toInt ≤ 6) (h_e_b : 0 ≤ e_b.toInt ∧ e_b.toInt ≤ 5) (h_e_p : 0 ≤ e_p.toInt ∧ e_p.toInt ≤ 8) (h_e_cl : 0 ≤ e_cl.toInt ∧ e_cl.toInt ≤ 12) (h_e_ov : 0 ≤ e_ov.toInt ∧ e_ov.toInt ≤ 1) (e_gk : gOK f_g e_g.toInt) (e_pk : gOK f_p e_p.toInt) (e_gi : inT e_gb f_g e_g.toInt) (e_f : 0 ≤ e_fo.toInt ∧ e_fo.toInt < e_lc.toInt ∧ e_lc.toInt ≤ 6) (e_a : f_l e_fo.toNatClampNeg = some a_lo) (e_hn : n_cd ≤ 400) (e_hs : ∀ j : Nat, j < n_sr → 0 ≤ (f_sr j).toInt ∧ (f_sr j).toInt ≤ (n_cd : Int)) (e_hk : ∀ j : Nat, j < n_cd → (f_cd j >>> (12 &&& 31)).toInt = 1 → (f_cd j &&& 4095).toInt < 8) (e_c : (e_cl.toInt : Int) ≤ (n_hd : Int) ∧ (e_cl.toInt + 1 : Int) ≤ (n_sr : Int)) : Met l yX10_lookAround (wsG yX10_lookAround cX10_lookAround 5 none) ({ frames := 14, cells := 0, slots := 0, locals := 556 }) (va_Pc [.ref a_wa] (g5_P G [(a_k, (oc5 a_h a_j a_pt e_ln e_se e_lh e_br e_we e_me e_ce e_wy e_ho e_ov)), (a_h, (oc1 e_wa e_le e_st e_fo e_lc a_l a_g a_b a_s a_p a_w e_gb a_bb)), (a_g, (oc6 6 5 a_gn e_g)), (a_gn, (arI G 30 f_g)), (a_b, (oc6 5 24 a_bn e_b)), (a_bn, (arI G 120 f_b)), (a_p, (oc6 8 5 a_pn e_p)), (a_pn, (arI G 40 f_p)), (a_bb, (arJ G 24 f_bb)), (a_j, (oc2 a_as a_sk)), (a_as, (arI G 8 f_as)), (a_sk, (arJ G 50 f_sk)), (a_l, (arW G 6 f_l)), (a_lo, (oc3 e_cl a_hd a_sr a_cd)), (a_sr, (arI G n_sr f_sr)), (a_cd, (arI G n_cd f_cd)), (a_hd, (arI G n_hd f_hd)), (a_pt, (arI G 200 f_pt)), (a_wa, (oc10 a_h a_k a_bo)), (a_bo, (arJ G 24 f_bo))] sz)) (va_Qv (fun (u : va_W) => (∃ (o_ln : Int32) (o_se : Int32) (o_lh : Int32) (o_br : Int32) (o_we : Int32) (o_me : Int32) (o_ce : Int32) (o_wy : Int32) (o_ho : Int32) (o_ov : Int32) (o_pt : Nat → Int32) (o_as : Nat → Int32) (o_sk : Nat → Int64) (o_bo : Nat → Int64), (0 ≤ o_ov.toInt ∧ o_ov.toInt ≤ 1) ∧ (u = [(a_k, (oc5 a_h a_j a_pt o_ln o_se o_lh o_br o_we o_me o_ce o_wy o_ho o_ov)), (a_h, (oc1 e_wa e_le e_st e_fo e_lc a_l a_g a_b a_s a_p a_w e_gb a_bb)), (a_g, (oc6 6 5 a_gn e_g)), (a_gn, (arI G 30 f_g)), (a_b, (oc6 5 24 a_bn e_b)), (a_bn, (arI G 120 f_b)), (a_p, (oc6 8 5 a_pn e_p)), (a_pn, (arI G 40 f_p)), (a_bb, (arJ G 24 f_bb)), (a_j, (oc2 a_as a_sk)), (a_as, (arI G 8 o_as)), (a_sk, (arJ G 50 o_sk)), (a_l, (arW G 6 f_l)), (a_lo, (oc3 e_cl a_hd a_sr a_cd)), (a_sr, (arI G n_sr f_sr)), (a_cd, (arI G n_cd f_cd)), (a_hd, (arI G n_hd f_hd)), (a_pt, (arI G 200 o_pt)), (a_wa, (oc10 a_h a_k a_bo)), (a_bo, (arJ G 24 o_bo))]))) (g5_B G (va_A [(a_k, (oc5 a_h a_j a_pt e_ln e_se e_lh e_br e_we e_me e_ce e_wy e_ho e_ov)), (a_h, (oc1 e_wa e_le e_st e_fo e_lc a_l a_g a_b a_s a_p a_w e_gb a_bb)), (a_g, (oc6 6 5 a_gn e_g)), (a_gn, (arI G 30 f_g)), (a_b, (oc6 5 24 a_bn e_b)), (a_bn, (arI G 120 f_b)), (a_p, (oc6 8 5 a_pn e_p)), (a_pn, (arI G 40 f_p)), (a_bb, (arJ G 24 f_bb)), (a_j, (oc2 a_as a_sk)), (a_as, (arI G 8 f_as)), (a_sk, (arJ G 50 f_sk)), (a_l, (arW G 6 f_l)), (a_lo, (oc3 e_cl a_hd a_sr a_cd)), (a_sr, (arI G n_sr f_sr)), (a_cd, (arI G n_cd f_cd)), (a_hd, (arI G n_hd f_hd)), (a_pt, (arI G 200 f_pt)), (a_wa, (oc10 a_h a_k a_bo)), (a_bo, (arJ G 24 f_bo))] sz)) (va_A [(a_k, (oc5 a_h a_j a_pt e_ln e_se e_lh e_br e_we e_me e_ce e_wy e_ho e_ov)), (a_h, (oc1 e_wa e_le e_st e_fo e_lc a_l a_g a_b a_s a_p a_w e_gb a_bb)), (a_g, (oc6 6 5 a_gn e_g)), (a_gn, (arI G 30 f_g)), (a_b, (oc6 5 24 a_bn e_b)), (a_bn, (arI G 120 f_b)), (a_p, (oc6 8 5 a_pn e_p)), (a_pn, (arI G 40 f_p)), (a_bb, (arJ G 24 f_bb)), (a_j, (oc2 a_as a_sk)), (a_as, (arI G 8 f_as)), (a_sk, (arJ G 50 f_sk)), (a_l, (arW G 6 f_l)), (a_lo, (oc3 e_cl a_hd a_sr a_cd)), (a_sr, (arI G n_sr f_sr)), (a_cd, (arI G n_cd f_cd)), (a_hd, (arI G n_hd f_hd)), (a_pt, (arI G 200 f_pt)), (a_wa, (oc10 a_h a_k a_bo)), (a_bo, (arJ G 24 f_bo))] sz)) 0 0 (va_A [(a_k, (oc5 a_h a_j a_pt e_ln e_se e_lh e_br e_we e_me e_ce e_wy e_ho e_ov)), (a_h, (oc1 e_wa e_le e_st e_fo e_lc a_l a_g a_b a_s a_p a_w e_gb a_bb)), (a_g, (oc6 6 5 a_gn e_g)), (a_gn, (arI G 30 f_g)), (a_b, (oc6 5 24 a_bn e_b)), (a_bn, (arI G 120 f_b)), (a_p, (oc6 8 5 a_pn e_p)), (a_pn, (arI G 40 f_p)), (a_bb, (arJ G 24 f_bb)), (a_j, (oc2 a_as a_sk)), (a_as, (arI G 8 f_as)), (a_sk, (arJ G 50 f_sk)), (a_l, (arW G 6 f_l)), (a_lo, (oc3 e_cl a_hd a_sr a_cd)), (a_sr, (arI G n_sr f_sr)), (a_cd, (arI G n_cd f_cd)), (a_hd, (arI G n_hd f_hd)), (a_pt, (arI G 200 f_pt)), (a_wa, (oc10 a_h a_k a_bo)), (a_bo, (arJ G 24 f_bo))] sz) := by
  refine Met.ofW (cc := cX10_lookAround) (maxL := 5) (ret := none) (by decide) rfl ?_
  intro p e s m args below meth c s₁ B hml hv
  obtain ⟨rfl, hsz, hP, hK, hD0, hN, hT⟩ := hv
  have hx := B.exec
  have hb := B.bytes
  have hr := B.returns
  have hts : ∀ w ∈ tblG, w.before _ s = true := fun w h => atoms_spec (ws := (wsG yX10_lookAround cX10_lookAround 5 none)) B.pre w (List.mem_cons_of_mem _ h)
  have hown : s.vm.findClass RX10 = some m.cls := findClass_of_methodNamed B.named
  have hlocks := B.notSynchronized
  subst hsz
  have hD := hD0.self (sz := s.heap.size)
  generalize hAe : va_A [(a_k, (oc5 a_h a_j a_pt e_ln e_se e_lh e_br e_we e_me e_ce e_wy e_ho e_ov)), (a_h, (oc1 e_wa e_le e_st e_fo e_lc a_l a_g a_b a_s a_p a_w e_gb a_bb)), (a_g, (oc6 6 5 a_gn e_g)), (a_gn, (arI G 30 f_g)), (a_b, (oc6 5 24 a_bn e_b)), (a_bn, (arI G 120 f_b)), (a_p, (oc6 8 5 a_pn e_p)), (a_pn, (arI G 40 f_p)), (a_bb, (arJ G 24 f_bb)), (a_j, (oc2 a_as a_sk)), (a_as, (arI G 8 f_as)), (a_sk, (arJ G 50 f_sk)), (a_l, (arW G 6 f_l)), (a_lo, (oc3 e_cl a_hd a_sr a_cd)), (a_sr, (arI G n_sr f_sr)), (a_cd, (arI G n_cd f_cd)), (a_hd, (arI G n_hd f_hd)), (a_pt, (arI G 200 f_pt)), (a_wa, (oc10 a_h a_k a_bo)), (a_bo, (arJ G 24 f_bo))] s.heap.size = A at hD hT ⊢
  have hA : ∀ q : Nat, s.heap.size ≤ q → A q := fun q h => by rw [← hAe]; exact Or.inr h
  have hS : va_S A s.heap s.heap [] := va_S.rf
  have hP : va_P G.1 vwCl [(a_k, (oc5 a_h a_j a_pt e_ln e_se e_lh e_br e_we e_me e_ce e_wy e_ho e_ov)), (a_h, (oc1 e_wa e_le e_st e_fo e_lc a_l a_g a_b a_s a_p a_w e_gb a_bb)), (a_g, (oc6 6 5 a_gn e_g)), (a_gn, (arI G 30 f_g)), (a_b, (oc6 5 24 a_bn e_b)), (a_bn, (arI G 120 f_b)), (a_p, (oc6 8 5 a_pn e_p)), (a_pn, (arI G 40 f_p)), (a_bb, (arJ G 24 f_bb)), (a_j, (oc2 a_as a_sk)), (a_as, (arI G 8 f_as)), (a_sk, (arJ G 50 f_sk)), (a_l, (arW G 6 f_l)), (a_lo, (oc3 e_cl a_hd a_sr a_cd)), (a_sr, (arI G n_sr f_sr)), (a_cd, (arI G n_cd f_cd)), (a_hd, (arI G n_hd f_hd)), (a_pt, (arI G 200 f_pt)), (a_wa, (oc10 a_h a_k a_bo)), (a_bo, (arJ G 24 f_bo))] s.heap := hP
  have hl := lv_entry ([.ref a_wa]) (n := 5) (Nat.le_of_ble_eq_true rfl)
  rw [lg_entry_eq]
  generalize (lg_sl ([.ref a_wa]) ++ List.replicate (5 - (lg_sl ([.ref a_wa])).length) Slot.unset).toArray = ls at hl ⊢
  have hl : lv_has ls 5 [(0, .ref a_wa)] := hl
  refine lv_aload_n hx hb dX10_lookAround_0 rfl (lv_at hl 0 rfl) ?_
  refine va_get (D := G.1) (ci := 10) (v := .ref a_bo) (C := RX10) (T := TX10) (N := 3) hx hb hts inG_X10 hown hK hP 18 rfl rfl 2 (by decide) (hts _ fl_X10_9) (fun _ h9 => h9) rfl dX10_lookAround_1 ?_
  refine lv_lconst (v := 0) hx hb dX10_lookAround_4 (by decide) ?_
  obtain ⟨hPc, hDc, hFc⟩ := g5_sub3 (wc := [(a_bo, (arJ G 24 f_bo))]) hP hD hS hA [19] (by decide) rfl
  refine va_callv (va_runS (As := [.ref a_bo, .long 0]) (rest := []) ⟨hx, hb, hml, hown, hts⟩ (k_fillJ24 l G a_bo s.heap.size 0 f_bo) (va_cwS 2 hts gS_X10_23 rfl rfl rfl hs_J7_fill_d0a16 ⟨Nat.le_of_ble_eq_true rfl, Nat.le_of_ble_eq_true rfl⟩) (g5_preS hPc hK hDc hN hT hS hFc) rfl rfl hl.1 rfl (lv_room (Nat.le_of_ble_eq_true rfl)) dX10_lookAround_5 ⟨Nat.le_of_ble_eq_true rfl, Nat.le_of_ble_eq_true rfl⟩) hS (fun q _ h => hFc q h) hFc (fun u t H1 locs ht hvm hw hB hz1 hk1 hS => ?_)
  obtain ⟨hP1, hD1⟩ := hB
  rw [ht] at hP1
  obtain rfl := hw
  obtain ⟨hP, hD⟩ := va_join (wr := [(a_k, (oc5 a_h a_j a_pt e_ln e_se e_lh e_br e_we e_me e_ce e_wy e_ho e_ov)), (a_h, (oc1 e_wa e_le e_st e_fo e_lc a_l a_g a_b a_s a_p a_w e_gb a_bb)), (a_g, (oc6 6 5 a_gn e_g)), (a_gn, (arI G 30 f_g)), (a_b, (oc6 5 24 a_bn e_b)), (a_bn, (arI G 120 f_b)), (a_p, (oc6 8 5 a_pn e_p)), (a_pn, (arI G 40 f_p)), (a_bb, (arJ G 24 f_bb)), (a_j, (oc2 a_as a_sk)), (a_as, (arI G 8 f_as)), (a_sk, (arJ G 50 f_sk)), (a_l, (arW G 6 f_l)), (a_lo, (oc3 e_cl a_hd a_sr a_cd)), (a_sr, (arI G n_sr f_sr)), (a_cd, (arI G n_cd f_cd)), (a_hd, (arI G n_hd f_hd)), (a_pt, (arI G 200 f_pt)), (a_wa, (oc10 a_h a_k a_bo))]) hP hD [19] [0, 1, 2, 3, 4, 5, 6, 7, 8, 9, 10, 11, 12, 13, 14, 15, 16, 17, 18] rfl rfl (by decide) (by decide) hk1 hFc hP1 hD1
  generalize H1 = H at hP hS ⊢
  refine g5_rs [(a_k, (oc5 a_h a_j a_pt e_ln e_se e_lh e_br e_we e_me e_ce e_wy e_ho e_ov)), (a_h, (oc1 e_wa e_le e_st e_fo e_lc a_l a_g a_b a_s a_p a_w e_gb a_bb)), (a_g, (oc6 6 5 a_gn e_g)), (a_gn, (arI G 30 f_g)), (a_b, (oc6 5 24 a_bn e_b)), (a_bn, (arI G 120 f_b)), (a_p, (oc6 8 5 a_pn e_p)), (a_pn, (arI G 40 f_p)), (a_bb, (arJ G 24 f_bb)), (a_j, (oc2 a_as a_sk)), (a_as, (arI G 8 f_as)), (a_sk, (arJ G 50 f_sk)), (a_l, (arW G 6 f_l)), (a_lo, (oc3 e_cl a_hd a_sr a_cd)), (a_sr, (arI G n_sr f_sr)), (a_cd, (arI G n_cd f_cd)), (a_hd, (arI G n_hd f_hd)), (a_pt, (arI G 200 f_pt)), (a_wa, (oc10 a_h a_k a_bo)), (a_bo, (arJ G 24 (fun _ => 0)))] hP hD (fun hP hD => ?_)
  refine lv_iconst (v := 0) hx hb dX10_lookAround_8 (by decide) ?_
  refine lv_istore_n (lv' := [(1, .int 0), (0, .ref a_wa)]) hx hb dX10_lookAround_9 rfl hl (by decide) rfl (fun ls hl => ?_)
  refine g5_loop (α := (Int32) × (Int32) × (Int32) × (Int32) × (Int32) × (Int32) × (Int32) × (Int32) × (Int32) × (Int32) × (Nat → Int32) × (Nat → Int32) × (Nat → Int64) × (Int32) × (Nat → Int64)) (fun (q : (Int32) × (Int32) × (Int32) × (Int32) × (Int32) × (Int32) × (Int32) × (Int32) × (Int32) × (Int32) × (Nat → Int32) × (Nat → Int32) × (Nat → Int64) × (Int32) × (Nat → Int64)) (ls : Array Slot) (H : Heap) (locs : List Loc) => match q with | (k_q, k_se, k_lh, k_br, k_we, k_me, k_ce, k_wy, k_ho, k_ov, k_pt, k_as, k_sk, k_ln, k_bo) => lv_has ls 5 [(1, .int k_q), (0, .ref a_wa)] ∧ va_P G.1 vwCl [(a_k, (oc5 a_h a_j a_pt k_ln k_se k_lh k_br k_we k_me k_ce k_wy k_ho k_ov)), (a_h, (oc1 e_wa e_le e_st e_fo e_lc a_l a_g a_b a_s a_p a_w e_gb a_bb)), (a_g, (oc6 6 5 a_gn e_g)), (a_gn, (arI G 30 f_g)), (a_b, (oc6 5 24 a_bn e_b)), (a_bn, (arI G 120 f_b)), (a_p, (oc6 8 5 a_pn e_p)), (a_pn, (arI G 40 f_p)), (a_bb, (arJ G 24 f_bb)), (a_j, (oc2 a_as a_sk)), (a_as, (arI G 8 k_as)), (a_sk, (arJ G 50 k_sk)), (a_l, (arW G 6 f_l)), (a_lo, (oc3 e_cl a_hd a_sr a_cd)), (a_sr, (arI G n_sr f_sr)), (a_cd, (arI G n_cd f_cd)), (a_hd, (arI G n_hd f_hd)), (a_pt, (arI G 200 k_pt)), (a_wa, (oc10 a_h a_k a_bo)), (a_bo, (arJ G 24 k_bo))] H ∧ va_D A [(a_k, (oc5 a_h a_j a_pt k_ln k_se k_lh k_br k_we k_me k_ce k_wy k_ho k_ov)), (a_h, (oc1 e_wa e_le e_st e_fo e_lc a_l a_g a_b a_s a_p a_w e_gb a_bb)), (a_g, (oc6 6 5 a_gn e_g)), (a_gn, (arI G 30 f_g)), (a_b, (oc6 5 24 a_bn e_b)), (a_bn, (arI G 120 f_b)), (a_p, (oc6 8 5 a_pn e_p)), (a_pn, (arI G 40 f_p)), (a_bb, (arJ G 24 f_bb)), (a_j, (oc2 a_as a_sk)), (a_as, (arI G 8 k_as)), (a_sk, (arJ G 50 k_sk)), (a_l, (arW G 6 f_l)), (a_lo, (oc3 e_cl a_hd a_sr a_cd)), (a_sr, (arI G n_sr f_sr)), (a_cd, (arI G n_cd f_cd)), (a_hd, (arI G n_hd f_hd)), (a_pt, (arI G 200 k_pt)), (a_wa, (oc10 a_h a_k a_bo)), (a_bo, (arJ G 24 k_bo))] ∧ va_S A s.heap H locs ∧ (0 ≤ k_q.toInt ∧ k_q.toInt ≤ 5) ∧ (0 ≤ k_ov.toInt ∧ k_ov.toInt ≤ 1) ∧ (k_q.toInt ≤ e_b.toInt)) (fun (q : (Int32) × (Int32) × (Int32) × (Int32) × (Int32) × (Int32) × (Int32) × (Int32) × (Int32) × (Int32) × (Nat → Int32) × (Nat → Int32) × (Nat → Int64) × (Int32) × (Nat → Int64)) => match q with | (k_q, k_se, k_lh, k_br, k_we, k_me, k_ce, k_wy, k_ho, k_ov, k_pt, k_as, k_sk, k_ln, k_bo) => Int.toNat (5 - k_q.toInt)) (0, e_se, e_lh, e_br, e_we, e_me, e_ce, e_wy, e_ho, e_ov, f_pt, f_as, f_sk, e_ln, (fun _ => 0)) ⟨lv_sub hl [0, 1] rfl, hP, hD, hS, ⟨by decide, by decide⟩, h_e_ov, by have z0 : (0 : Int32).toInt = 0 := (by decide); omega⟩ ?_
  rintro ⟨k_q, k_se, k_lh, k_br, k_we, k_me, k_ce, k_wy, k_ho, k_ov, k_pt, k_as, k_sk, k_ln, k_bo⟩ ls H locs ⟨hl, hP, hD, hS, i_1, i_2, i_3⟩ ih_10_4
  have hl : lv_has ls 5 [(1, .int k_q), (0, .ref a_wa)] := hl
  have i_1 : 0 ≤ k_q.toInt ∧ k_q.toInt ≤ 5 := i_1
  have i_2 : 0 ≤ k_ov.toInt ∧ k_ov.toInt ≤ 1 := i_2
  have i_3 : k_q.toInt ≤ e_b.toInt := i_3
  refine g5_rs [(a_k, (oc5 a_h a_j a_pt k_ln k_se k_lh k_br k_we k_me k_ce k_wy k_ho k_ov)), (a_h, (oc1 e_wa e_le e_st e_fo e_lc a_l a_g a_b a_s a_p a_w e_gb a_bb)), (a_g, (oc6 6 5 a_gn e_g)), (a_gn, (arI G 30 f_g)), (a_b, (oc6 5 24 a_bn e_b)), (a_bn, (arI G 120 f_b)), (a_p, (oc6 8 5 a_pn e_p)), (a_pn, (arI G 40 f_p)), (a_bb, (arJ G 24 f_bb)), (a_j, (oc2 a_as a_sk)), (a_as, (arI G 8 k_as)), (a_sk, (arJ G 50 k_sk)), (a_l, (arW G 6 f_l)), (a_lo, (oc3 e_cl a_hd a_sr a_cd)), (a_sr, (arI G n_sr f_sr)), (a_cd, (arI G n_cd f_cd)), (a_hd, (arI G n_hd f_hd)), (a_pt, (arI G 200 k_pt)), (a_wa, (oc10 a_h a_k a_bo)), (a_bo, (arJ G 24 k_bo))] hP hD (fun hP hD => ?_)
  refine lv_iload_n hx hb dX10_lookAround_10 rfl (lv_at hl 0 rfl) ?_
  refine lv_aload_n hx hb dX10_lookAround_11 rfl (lv_at hl 1 rfl) ?_
  refine va_get (D := G.1) (ci := 10) (v := .ref a_h) (C := RX10) (T := TX10) (N := 3) hx hb hts inG_X10 hown hK hP 18 rfl rfl 0 (by decide) (hts _ fl_X10_15) (fun _ h9 => h9) rfl dX10_lookAround_12 ?_
  refine va_get (D := G.1) (ci := 1) (v := .ref a_b) (C := RX1) (T := TX1) (N := 13) hx hb hts inG_X1 hown hK hP 1 rfl rfl 7 (by decide) (hts _ fl_X10_29) (fun _ h9 => h9) rfl dX10_lookAround_15 ?_
  refine va_get (D := G.1) (ci := 6) (v := .int e_b) (C := RX6) (T := TX6) (N := 4) hx hb hts inG_X6 hown hK hP 4 rfl rfl 3 (by decide) (hts _ fl_X10_35) (fun _ h9 => h9) rfl dX10_lookAround_18 ?_
  refine lv_icmp_ge (tgt := 93) hx hb dX10_lookAround_21 (by decide) (fun c_5 => ?_) (fun c_5 => ?_)
  ·
    have i_5 : k_q.toInt ≥ e_b.toInt := by have z := g5_ge (a := k_q.toInt) (b := e_b.toInt) (by rfl) (by rfl) c_5; omega
    exact W.vret hx hb hr (fun t ht hW => ⟨⟨[(a_k, (oc5 a_h a_j a_pt k_ln k_se k_lh k_br k_we k_me k_ce k_wy k_ho k_ov)), (a_h, (oc1 e_wa e_le e_st e_fo e_lc a_l a_g a_b a_s a_p a_w e_gb a_bb)), (a_g, (oc6 6 5 a_gn e_g)), (a_gn, (arI G 30 f_g)), (a_b, (oc6 5 24 a_bn e_b)), (a_bn, (arI G 120 f_b)), (a_p, (oc6 8 5 a_pn e_p)), (a_pn, (arI G 40 f_p)), (a_bb, (arJ G 24 f_bb)), (a_j, (oc2 a_as a_sk)), (a_as, (arI G 8 k_as)), (a_sk, (arJ G 50 k_sk)), (a_l, (arW G 6 f_l)), (a_lo, (oc3 e_cl a_hd a_sr a_cd)), (a_sr, (arI G n_sr f_sr)), (a_cd, (arI G n_cd f_cd)), (a_hd, (arI G n_hd f_hd)), (a_pt, (arI G 200 k_pt)), (a_wa, (oc10 a_h a_k a_bo)), (a_bo, (arJ G 24 k_bo))], rfl, ⟨k_ln, k_se, k_lh, k_br, k_we, k_me, k_ce, k_wy, k_ho, k_ov, k_pt, k_as, k_sk, k_bo, i_2, rfl⟩, by rw [ht]; exact hP.sub [0, 1, 2, 3, 4, 5, 6, 7, 8, 9, 10, 11, 12, 13, 14, 15, 16, 17, 18, 19] rfl, hD.sub [0, 1, 2, 3, 4, 5, 6, 7, 8, 9, 10, 11, 12, 13, 14, 15, 16, 17, 18, 19] (by decide) rfl⟩, hS.F ht⟩) hS.2.2 dX10_lookAround_93
  ·
    have i_5 : k_q.toInt < e_b.toInt := by have z := g5_geN (a := k_q.toInt) (b := e_b.toInt) (by rfl) (by rfl) c_5; omega
    refine lv_iconst (v := 0) hx hb dX10_lookAround_24 (by decide) ?_
    refine lv_istore_n (lv' := [(2, .int 0), (1, .int k_q), (0, .ref a_wa)]) hx hb dX10_lookAround_25 rfl hl (by decide) rfl (fun ls hl => ?_)
    refine g5_loop (α := (Int32) × (Int32) × (Int32) × (Int32) × (Int32) × (Int32) × (Int32) × (Int32) × (Int32) × (Int32) × (Nat → Int32) × (Nat → Int32) × (Nat → Int64) × (Int32) × (Nat → Int64)) (fun (q : (Int32) × (Int32) × (Int32) × (Int32) × (Int32) × (Int32) × (Int32) × (Int32) × (Int32) × (Int32) × (Nat → Int32) × (Nat → Int32) × (Nat → Int64) × (Int32) × (Nat → Int64)) (ls : Array Slot) (H : Heap) (locs : List Loc) => match q with | (m_q, m_se, m_lh, m_br, m_we, m_me, m_ce, m_wy, m_ho, m_ov, m_pt, m_as, m_sk, m_ln, m_bo) => lv_has ls 5 [(2, .int m_q), (1, .int k_q), (0, .ref a_wa)] ∧ va_P G.1 vwCl [(a_k, (oc5 a_h a_j a_pt m_ln m_se m_lh m_br m_we m_me m_ce m_wy m_ho m_ov)), (a_h, (oc1 e_wa e_le e_st e_fo e_lc a_l a_g a_b a_s a_p a_w e_gb a_bb)), (a_g, (oc6 6 5 a_gn e_g)), (a_gn, (arI G 30 f_g)), (a_b, (oc6 5 24 a_bn e_b)), (a_bn, (arI G 120 f_b)), (a_p, (oc6 8 5 a_pn e_p)), (a_pn, (arI G 40 f_p)), (a_bb, (arJ G 24 f_bb)), (a_j, (oc2 a_as a_sk)), (a_as, (arI G 8 m_as)), (a_sk, (arJ G 50 m_sk)), (a_l, (arW G 6 f_l)), (a_lo, (oc3 e_cl a_hd a_sr a_cd)), (a_sr, (arI G n_sr f_sr)), (a_cd, (arI G n_cd f_cd)), (a_hd, (arI G n_hd f_hd)), (a_pt, (arI G 200 m_pt)), (a_wa, (oc10 a_h a_k a_bo)), (a_bo, (arJ G 24 m_bo))] H ∧ va_D A [(a_k, (oc5 a_h a_j a_pt m_ln m_se m_lh m_br m_we m_me m_ce m_wy m_ho m_ov)), (a_h, (oc1 e_wa e_le e_st e_fo e_lc a_l a_g a_b a_s a_p a_w e_gb a_bb)), (a_g, (oc6 6 5 a_gn e_g)), (a_gn, (arI G 30 f_g)), (a_b, (oc6 5 24 a_bn e_b)), (a_bn, (arI G 120 f_b)), (a_p, (oc6 8 5 a_pn e_p)), (a_pn, (arI G 40 f_p)), (a_bb, (arJ G 24 f_bb)), (a_j, (oc2 a_as a_sk)), (a_as, (arI G 8 m_as)), (a_sk, (arJ G 50 m_sk)), (a_l, (arW G 6 f_l)), (a_lo, (oc3 e_cl a_hd a_sr a_cd)), (a_sr, (arI G n_sr f_sr)), (a_cd, (arI G n_cd f_cd)), (a_hd, (arI G n_hd f_hd)), (a_pt, (arI G 200 m_pt)), (a_wa, (oc10 a_h a_k a_bo)), (a_bo, (arJ G 24 m_bo))] ∧ va_S A s.heap H locs ∧ (0 ≤ m_q.toInt ∧ m_q.toInt ≤ 24) ∧ (0 ≤ m_ov.toInt ∧ m_ov.toInt ≤ 1)) (fun (q : (Int32) × (Int32) × (Int32) × (Int32) × (Int32) × (Int32) × (Int32) × (Int32) × (Int32) × (Int32) × (Nat → Int32) × (Nat → Int32) × (Nat → Int64) × (Int32) × (Nat → Int64)) => match q with | (m_q, m_se, m_lh, m_br, m_we, m_me, m_ce, m_wy, m_ho, m_ov, m_pt, m_as, m_sk, m_ln, m_bo) => Int.toNat (24 - m_q.toInt)) (0, k_se, k_lh, k_br, k_we, k_me, k_ce, k_wy, k_ho, k_ov, k_pt, k_as, k_sk, k_ln, k_bo) ⟨lv_sub hl [0, 1, 2] rfl, hP, hD, hS, ⟨by decide, by decide⟩, i_2⟩ ?_
    rintro ⟨m_q, m_se, m_lh, m_br, m_we, m_me, m_ce, m_wy, m_ho, m_ov, m_pt, m_as, m_sk, m_ln, m_bo⟩ ls H locs ⟨hl, hP, hD, hS, i_6, i_7⟩ ih_26_8
    have hl : lv_has ls 5 [(2, .int m_q), (1, .int k_q), (0, .ref a_wa)] := hl
    have i_6 : 0 ≤ m_q.toInt ∧ m_q.toInt ≤ 24 := i_6
    have i_7 : 0 ≤ m_ov.toInt ∧ m_ov.toInt ≤ 1 := i_7
    refine g5_rs [(a_k, (oc5 a_h a_j a_pt m_ln m_se m_lh m_br m_we m_me m_ce m_wy m_ho m_ov)), (a_h, (oc1 e_wa e_le e_st e_fo e_lc a_l a_g a_b a_s a_p a_w e_gb a_bb)), (a_g, (oc6 6 5 a_gn e_g)), (a_gn, (arI G 30 f_g)), (a_b, (oc6 5 24 a_bn e_b)), (a_bn, (arI G 120 f_b)), (a_p, (oc6 8 5 a_pn e_p)), (a_pn, (arI G 40 f_p)), (a_bb, (arJ G 24 f_bb)), (a_j, (oc2 a_as a_sk)), (a_as, (arI G 8 m_as)), (a_sk, (arJ G 50 m_sk)), (a_l, (arW G 6 f_l)), (a_lo, (oc3 e_cl a_hd a_sr a_cd)), (a_sr, (arI G n_sr f_sr)), (a_cd, (arI G n_cd f_cd)), (a_hd, (arI G n_hd f_hd)), (a_pt, (arI G 200 m_pt)), (a_wa, (oc10 a_h a_k a_bo)), (a_bo, (arJ G 24 m_bo))] hP hD (fun hP hD => ?_)
    refine lv_iload_n hx hb dX10_lookAround_26 rfl (lv_at hl 0 rfl) ?_
    refine lv_bipush (v := 24) hx hb dX10_lookAround_27 (by decide) ?_
    refine lv_icmp_ge (tgt := 87) hx hb dX10_lookAround_29 (by decide) (fun c_9 => ?_) (fun c_9 => ?_)
    ·
      have i_9 : m_q.toInt ≥ 24 := by have z := g5_ge (a := m_q.toInt) (b := 24) (by rfl) (by decide) c_9; omega
      refine lv_iinc (v := (k_q + 1)) (lv' := [(1, .int (k_q + 1)), (2, .int m_q), (0, .ref a_wa)]) hx hb dX10_lookAround_87 hl (k := 1) rfl rfl (by decide) rfl (fun ls hl => ?_)
      have t_10 : (k_q + 1).toInt = k_q.toInt + 1 := g5_iadd (a := k_q.toInt) (b := 1) rfl (by decide) (by omega) (by omega)
      refine lv_goto (tgt := 10) hx hb dX10_lookAround_90 (by decide) ?_
      exact ih_10_4 ((k_q + 1), m_se, m_lh, m_br, m_we, m_me, m_ce, m_wy, m_ho, m_ov, m_pt, m_as, m_sk, m_ln, m_bo) ls H locs (show Int.toNat (5 - (k_q + 1).toInt) < Int.toNat (5 - k_q.toInt) from g_up (show k_q.toInt < (k_q + 1).toInt by omega) (show k_q.toInt < 5 by omega)) ⟨lv_sub hl [0, 2] rfl, hP, hD, hS, ⟨by omega, by omega⟩, i_7, by omega⟩
    ·
      have i_9 : m_q.toInt < 24 := by have z := g5_geN (a := m_q.toInt) (b := 24) (by rfl) (by decide) c_9; omega
      refine lv_aload_n hx hb dX10_lookAround_32 rfl (lv_at hl 2 rfl) ?_
      refine va_get (D := G.1) (ci := 10) (v := .ref a_h) (C := RX10) (T := TX10) (N := 3) hx hb hts inG_X10 hown hK hP 18 rfl rfl 0 (by decide) (hts _ fl_X10_15) (fun _ h9 => h9) rfl dX10_lookAround_33 ?_
      refine va_get (D := G.1) (ci := 1) (v := .ref a_b) (C := RX1) (T := TX1) (N := 13) hx hb hts inG_X1 hown hK hP 1 rfl rfl 7 (by decide) (hts _ fl_X10_29) (fun _ h9 => h9) rfl dX10_lookAround_36 ?_
      refine lv_iload_n hx hb dX10_lookAround_39 rfl (lv_at hl 1 rfl) ?_
      refine lv_iload_n hx hb dX10_lookAround_40 rfl (lv_at hl 0 rfl) ?_
      obtain ⟨hPc, hDc, hFc⟩ := g5_sub3 (wc := [(a_b, (oc6 5 24 a_bn e_b)), (a_bn, (arI G 120 f_b))]) hP hD hS hA [4, 5] (by decide) rfl
      refine va_calli (va_runV (As := [.int k_q, .int m_q]) (rest := []) ⟨hx, hb, hml, hown, hts⟩ (t_get_B l G a_b a_bn H.size e_b k_q m_q f_b h_e_b) (cwV 2 hts gV_X10_41 rfl rfl rfl hv_X6_get ⟨Nat.le_of_ble_eq_true rfl, Nat.le_of_ble_eq_true rfl⟩) (g5_preV hPc hK hDc hN hT hS hFc (ci := 6) (q0 := 0) rfl rfl) rfl rfl hl.1 rfl (lv_room (Nat.le_of_ble_eq_true rfl)) dX10_lookAround_41 ⟨Nat.le_of_ble_eq_true rfl, Nat.le_of_ble_eq_true rfl⟩) hS (fun q _ h => hFc q h) hFc (fun r u t H1 locs ht hvm hw hB hz1 hk1 hS => ?_)
      obtain ⟨hP1, hD1⟩ := hB
      rw [ht] at hP1
      obtain ⟨z12, i_11, y13, rfl⟩ := hw
      have i_11 : z12 = tget f_b e_b.toInt 24 k_q.toInt m_q.toInt := i_11
      obtain ⟨hP, hD⟩ := va_join (wr := [(a_k, (oc5 a_h a_j a_pt m_ln m_se m_lh m_br m_we m_me m_ce m_wy m_ho m_ov)), (a_h, (oc1 e_wa e_le e_st e_fo e_lc a_l a_g a_b a_s a_p a_w e_gb a_bb)), (a_g, (oc6 6 5 a_gn e_g)), (a_gn, (arI G 30 f_g)), (a_p, (oc6 8 5 a_pn e_p)), (a_pn, (arI G 40 f_p)), (a_bb, (arJ G 24 f_bb)), (a_j, (oc2 a_as a_sk)), (a_as, (arI G 8 m_as)), (a_sk, (arJ G 50 m_sk)), (a_l, (arW G 6 f_l)), (a_lo, (oc3 e_cl a_hd a_sr a_cd)), (a_sr, (arI G n_sr f_sr)), (a_cd, (arI G n_cd f_cd)), (a_hd, (arI G n_hd f_hd)), (a_pt, (arI G 200 m_pt)), (a_wa, (oc10 a_h a_k a_bo)), (a_bo, (arJ G 24 m_bo))]) hP hD [4, 5] [0, 1, 2, 3, 6, 7, 8, 9, 10, 11, 12, 13, 14, 15, 16, 17, 18, 19] rfl rfl (by decide) (by decide) hk1 hFc hP1 hD1
      generalize H1 = H at hP hS ⊢
      refine g5_rs [(a_k, (oc5 a_h a_j a_pt m_ln m_se m_lh m_br m_we m_me m_ce m_wy m_ho m_ov)), (a_h, (oc1 e_wa e_le e_st e_fo e_lc a_l a_g a_b a_s a_p a_w e_gb a_bb)), (a_g, (oc6 6 5 a_gn e_g)), (a_gn, (arI G 30 f_g)), (a_p, (oc6 8 5 a_pn e_p)), (a_pn, (arI G 40 f_p)), (a_bb, (arJ G 24 f_bb)), (a_j, (oc2 a_as a_sk)), (a_as, (arI G 8 m_as)), (a_sk, (arJ G 50 m_sk)), (a_l, (arW G 6 f_l)), (a_lo, (oc3 e_cl a_hd a_sr a_cd)), (a_sr, (arI G n_sr f_sr)), (a_cd, (arI G n_cd f_cd)), (a_hd, (arI G n_hd f_hd)), (a_pt, (arI G 200 m_pt)), (a_wa, (oc10 a_h a_k a_bo)), (a_bo, (arJ G 24 m_bo)), (a_b, (oc6 5 24 a_bn e_b)), (a_bn, (arI G 120 f_b))] hP hD (fun hP hD => ?_)
      refine g5_ti (v := z12) y13 ?_
      refine lv_istore_n (lv' := [(3, .int z12), (2, .int m_q), (1, .int k_q), (0, .ref a_wa)]) hx hb dX10_lookAround_44 rfl hl (by decide) rfl (fun ls hl => ?_)
      refine lv_iconst (v := 0) hx hb dX10_lookAround_45 (by decide) ?_
      refine lv_istore (lv' := [(4, .int 0), (3, .int z12), (2, .int m_q), (1, .int k_q), (0, .ref a_wa)]) hx hb dX10_lookAround_46 hl (by decide) rfl (fun ls hl => ?_)
      refine g5_loop (α := (Int32) × (Int32) × (Int32) × (Int32) × (Int32) × (Int32) × (Int32) × (Int32) × (Int32) × (Int32) × (Nat → Int32) × (Nat → Int32) × (Nat → Int64) × (Int32) × (Nat → Int64)) (fun (q : (Int32) × (Int32) × (Int32) × (Int32) × (Int32) × (Int32) × (Int32) × (Int32) × (Int32) × (Int32) × (Nat → Int32) × (Nat → Int32) × (Nat → Int64) × (Int32) × (Nat → Int64)) (ls : Array Slot) (H : Heap) (locs : List Loc) => match q with | (n_q, n_se, n_lh, n_br, n_we, n_me, n_ce, n_wy, n_ho, n_ov, n_pt, n_as, n_sk, n_ln, n_bo) => lv_has ls 5 [(4, .int n_q), (3, .int z12), (2, .int m_q), (1, .int k_q), (0, .ref a_wa)] ∧ va_P G.1 vwCl [(a_k, (oc5 a_h a_j a_pt n_ln n_se n_lh n_br n_we n_me n_ce n_wy n_ho n_ov)), (a_h, (oc1 e_wa e_le e_st e_fo e_lc a_l a_g a_b a_s a_p a_w e_gb a_bb)), (a_g, (oc6 6 5 a_gn e_g)), (a_gn, (arI G 30 f_g)), (a_p, (oc6 8 5 a_pn e_p)), (a_pn, (arI G 40 f_p)), (a_bb, (arJ G 24 f_bb)), (a_j, (oc2 a_as a_sk)), (a_as, (arI G 8 n_as)), (a_sk, (arJ G 50 n_sk)), (a_l, (arW G 6 f_l)), (a_lo, (oc3 e_cl a_hd a_sr a_cd)), (a_sr, (arI G n_sr f_sr)), (a_cd, (arI G n_cd f_cd)), (a_hd, (arI G n_hd f_hd)), (a_pt, (arI G 200 n_pt)), (a_wa, (oc10 a_h a_k a_bo)), (a_bo, (arJ G 24 n_bo)), (a_b, (oc6 5 24 a_bn e_b)), (a_bn, (arI G 120 f_b))] H ∧ va_D A [(a_k, (oc5 a_h a_j a_pt n_ln n_se n_lh n_br n_we n_me n_ce n_wy n_ho n_ov)), (a_h, (oc1 e_wa e_le e_st e_fo e_lc a_l a_g a_b a_s a_p a_w e_gb a_bb)), (a_g, (oc6 6 5 a_gn e_g)), (a_gn, (arI G 30 f_g)), (a_p, (oc6 8 5 a_pn e_p)), (a_pn, (arI G 40 f_p)), (a_bb, (arJ G 24 f_bb)), (a_j, (oc2 a_as a_sk)), (a_as, (arI G 8 n_as)), (a_sk, (arJ G 50 n_sk)), (a_l, (arW G 6 f_l)), (a_lo, (oc3 e_cl a_hd a_sr a_cd)), (a_sr, (arI G n_sr f_sr)), (a_cd, (arI G n_cd f_cd)), (a_hd, (arI G n_hd f_hd)), (a_pt, (arI G 200 n_pt)), (a_wa, (oc10 a_h a_k a_bo)), (a_bo, (arJ G 24 n_bo)), (a_b, (oc6 5 24 a_bn e_b)), (a_bn, (arI G 120 f_b))] ∧ va_S A s.heap H locs ∧ (0 ≤ n_q.toInt ∧ n_q.toInt ≤ 4) ∧ (0 ≤ n_ov.toInt ∧ n_ov.toInt ≤ 1)) (fun (q : (Int32) × (Int32) × (Int32) × (Int32) × (Int32) × (Int32) × (Int32) × (Int32) × (Int32) × (Int32) × (Nat → Int32) × (Nat → Int32) × (Nat → Int64) × (Int32) × (Nat → Int64)) => match q with | (n_q, n_se, n_lh, n_br, n_we, n_me, n_ce, n_wy, n_ho, n_ov, n_pt, n_as, n_sk, n_ln, n_bo) => Int.toNat (4 - n_q.toInt)) (0, m_se, m_lh, m_br, m_we, m_me, m_ce, m_wy, m_ho, m_ov, m_pt, m_as, m_sk, m_ln, m_bo) ⟨lv_sub hl [0, 1, 2, 3, 4] rfl, hP, hD, hS, ⟨by decide, by decide⟩, i_7⟩ ?_
      rintro ⟨n_q, n_se, n_lh, n_br, n_we, n_me, n_ce, n_wy, n_ho, n_ov, n_pt, n_as, n_sk, n_ln, n_bo⟩ ls H locs ⟨hl, hP, hD, hS, i_14, i_15⟩ ih_48_16
      have hl : lv_has ls 5 [(4, .int n_q), (3, .int z12), (2, .int m_q), (1, .int k_q), (0, .ref a_wa)] := hl
      have i_14 : 0 ≤ n_q.toInt ∧ n_q.toInt ≤ 4 := i_14
      have i_15 : 0 ≤ n_ov.toInt ∧ n_ov.toInt ≤ 1 := i_15
      refine g5_rs [(a_k, (oc5 a_h a_j a_pt n_ln n_se n_lh n_br n_we n_me n_ce n_wy n_ho n_ov)), (a_h, (oc1 e_wa e_le e_st e_fo e_lc a_l a_g a_b a_s a_p a_w e_gb a_bb)), (a_g, (oc6 6 5 a_gn e_g)), (a_gn, (arI G 30 f_g)), (a_p, (oc6 8 5 a_pn e_p)), (a_pn, (arI G 40 f_p)), (a_bb, (arJ G 24 f_bb)), (a_j, (oc2 a_as a_sk)), (a_as, (arI G 8 n_as)), (a_sk, (arJ G 50 n_sk)), (a_l, (arW G 6 f_l)), (a_lo, (oc3 e_cl a_hd a_sr a_cd)), (a_sr, (arI G n_sr f_sr)), (a_cd, (arI G n_cd f_cd)), (a_hd, (arI G n_hd f_hd)), (a_pt, (arI G 200 n_pt)), (a_wa, (oc10 a_h a_k a_bo)), (a_bo, (arJ G 24 n_bo)), (a_b, (oc6 5 24 a_bn e_b)), (a_bn, (arI G 120 f_b))] hP hD (fun hP hD => ?_)
      refine lv_iload hx hb dX10_lookAround_48 (lv_at hl 0 rfl) ?_
      refine lv_iconst (v := 4) hx hb dX10_lookAround_50 (by decide) ?_
      refine lv_icmp_ge (tgt := 81) hx hb dX10_lookAround_51 (by decide) (fun c_17 => ?_) (fun c_17 => ?_)
      ·
        have i_17 : n_q.toInt ≥ 4 := by have z := g5_ge (a := n_q.toInt) (b := 4) (by rfl) (by decide) c_17; omega
        refine lv_iinc (v := (m_q + 1)) (lv' := [(2, .int (m_q + 1)), (4, .int n_q), (3, .int z12), (1, .int k_q), (0, .ref a_wa)]) hx hb dX10_lookAround_81 hl (k := 2) rfl rfl (by decide) rfl (fun ls hl => ?_)
        have t_18 : (m_q + 1).toInt = m_q.toInt + 1 := g5_iadd (a := m_q.toInt) (b := 1) rfl (by decide) (by omega) (by omega)
        refine lv_goto (tgt := 26) hx hb dX10_lookAround_84 (by decide) ?_
        exact ih_26_8 ((m_q + 1), n_se, n_lh, n_br, n_we, n_me, n_ce, n_wy, n_ho, n_ov, n_pt, n_as, n_sk, n_ln, n_bo) ls H locs (show Int.toNat (24 - (m_q + 1).toInt) < Int.toNat (24 - m_q.toInt) from g_up (show m_q.toInt < (m_q + 1).toInt by omega) (show m_q.toInt < 24 by omega)) ⟨lv_sub hl [0, 3, 4] rfl, hP.sub [0, 1, 2, 3, 18, 19, 4, 5, 6, 7, 8, 9, 10, 11, 12, 13, 14, 15, 16, 17] rfl, hD.sub [0, 1, 2, 3, 18, 19, 4, 5, 6, 7, 8, 9, 10, 11, 12, 13, 14, 15, 16, 17] (by decide) rfl, hS, ⟨by omega, by omega⟩, i_15⟩
      ·
        have i_17 : n_q.toInt < 4 := by have z := g5_geN (a := n_q.toInt) (b := 4) (by rfl) (by decide) c_17; omega
        refine lv_iload_n hx hb dX10_lookAround_54 rfl (lv_at hl 1 rfl) ?_
        refine lv_iconst (v := (-1)) hx hb dX10_lookAround_55 (by decide) ?_
        refine lv_icmp_eq (tgt := 81) hx hb dX10_lookAround_56 (by decide) (fun c_19 => ?_) (fun c_19 => ?_)
        ·
          have i_19 : z12.toInt = (-1) := by have z := g5_eq (a := z12.toInt) (b := (-1)) (by rfl) (by decide) c_19; omega
          refine lv_iinc (v := (m_q + 1)) (lv' := [(2, .int (m_q + 1)), (4, .int n_q), (3, .int z12), (1, .int k_q), (0, .ref a_wa)]) hx hb dX10_lookAround_81 hl (k := 2) rfl rfl (by decide) rfl (fun ls hl => ?_)
          have t_20 : (m_q + 1).toInt = m_q.toInt + 1 := g5_iadd (a := m_q.toInt) (b := 1) rfl (by decide) (by omega) (by omega)
          refine lv_goto (tgt := 26) hx hb dX10_lookAround_84 (by decide) ?_
          exact ih_26_8 ((m_q + 1), n_se, n_lh, n_br, n_we, n_me, n_ce, n_wy, n_ho, n_ov, n_pt, n_as, n_sk, n_ln, n_bo) ls H locs (show Int.toNat (24 - (m_q + 1).toInt) < Int.toNat (24 - m_q.toInt) from g_up (show m_q.toInt < (m_q + 1).toInt by omega) (show m_q.toInt < 24 by omega)) ⟨lv_sub hl [0, 3, 4] rfl, hP.sub [0, 1, 2, 3, 18, 19, 4, 5, 6, 7, 8, 9, 10, 11, 12, 13, 14, 15, 16, 17] rfl, hD.sub [0, 1, 2, 3, 18, 19, 4, 5, 6, 7, 8, 9, 10, 11, 12, 13, 14, 15, 16, 17] (by decide) rfl, hS, ⟨by omega, by omega⟩, i_15⟩
        ·
          have n_19 : gNe (z12.toInt) ((-1)) := by have z := g5_eqN (a := z12.toInt) (b := (-1)) (by rfl) (by decide) c_19; unfold gNe; omega
          refine lv_aload_n hx hb dX10_lookAround_59 rfl (lv_at hl 4 rfl) ?_
          refine va_get (D := G.1) (ci := 10) (v := .ref a_k) (C := RX10) (T := TX10) (N := 3) hx hb hts inG_X10 hown hK hP 16 rfl rfl 1 (by decide) (hts _ fl_X10_19) (fun _ h9 => h9) rfl dX10_lookAround_60 ?_
          refine lv_iload_n hx hb dX10_lookAround_63 rfl (lv_at hl 1 rfl) ?_
          refine lv_iload hx hb dX10_lookAround_64 (lv_at hl 0 rfl) ?_
          refine lv_iload_n hx hb dX10_lookAround_66 rfl (lv_at hl 2 rfl) ?_
          refine lv_iconst (v := 0) hx hb dX10_lookAround_67 (by decide) ?_
          obtain ⟨hPc, hDc, hFc⟩ := g5_sub3 (wc := [(a_k, (oc5 a_h a_j a_pt n_ln n_se n_lh n_br n_we n_me n_ce n_wy n_ho n_ov)), (a_h, (oc1 e_wa e_le e_st e_fo e_lc a_l a_g a_b a_s a_p a_w e_gb a_bb)), (a_g, (oc6 6 5 a_gn e_g)), (a_gn, (arI G 30 f_g)), (a_b, (oc6 5 24 a_bn e_b)), (a_bn, (arI G 120 f_b)), (a_p, (oc6 8 5 a_pn e_p)), (a_pn, (arI G 40 f_p)), (a_bb, (arJ G 24 f_bb)), (a_j, (oc2 a_as a_sk)), (a_as, (arI G 8 n_as)), (a_sk, (arJ G 50 n_sk)), (a_l, (arW G 6 f_l)), (a_lo, (oc3 e_cl a_hd a_sr a_cd)), (a_sr, (arI G n_sr f_sr)), (a_cd, (arI G n_cd f_cd)), (a_hd, (arI G n_hd f_hd)), (a_pt, (arI G 200 n_pt))]) hP hD hS hA [0, 1, 2, 3, 18, 19, 4, 5, 6, 7, 8, 9, 10, 11, 12, 13, 14, 15] (by decide) rfl
          refine va_callv (va_runV (As := [.int z12, .int n_q, .int m_q, .int 0]) (rest := []) ⟨hx, hb, hml, hown, hts⟩ (k_runL l G a_k a_h a_g a_gn a_b a_bn a_p a_pn a_bb a_j a_as a_sk a_l a_lo a_sr a_cd a_hd a_pt a_s a_w H.size e_le e_st e_fo e_lc e_g e_b e_p e_cl n_ln n_se n_lh n_br n_we n_me n_ce n_wy n_ho n_ov z12 n_q m_q 0 e_wa e_gb f_g f_b f_p f_bb n_as n_sk f_l f_sr f_cd f_hd n_pt n_sr n_cd n_hd h_e_g h_e_b h_e_p h_e_cl i_15 (e_gk) (e_pk) (e_gi) (e_f) (e_a) (e_hn) (e_hs) (e_hk) (e_c)) (cwV 4 hts gV_X10_45 rfl rfl rfl hv_X5_run ⟨Nat.le_of_ble_eq_true rfl, Nat.le_of_ble_eq_true rfl⟩) (g5_preV hPc hK hDc hN hT hS hFc (ci := 5) (q0 := 0) rfl rfl) rfl rfl hl.1 rfl (lv_room (Nat.le_of_ble_eq_true rfl)) dX10_lookAround_68 ⟨Nat.le_of_ble_eq_true rfl, Nat.le_of_ble_eq_true rfl⟩) hS (fun q _ h => hFc q h) hFc (fun u t H1 locs ht hvm hw hB hz1 hk1 hS => ?_)
          obtain ⟨hP1, hD1⟩ := hB
          rw [ht] at hP1
          obtain ⟨z24, z25, z26, z27, z28, z29, z30, z31, z32, z33, z34, z35, z36, i_21, i_22, i_23, rfl⟩ := hw
          have i_21 : 0 ≤ z24.toInt ∧ z24.toInt ≤ 200 := i_21
          have i_22 : 0 ≤ z33.toInt ∧ z33.toInt ≤ 1 := i_22
          have i_23 : ∀ j : Nat, (j : Int) < z24.toInt → 0 ≤ (z34 j).toInt ∧ (z34 j).toInt ≤ 1535 := i_23
          obtain ⟨hP, hD⟩ := va_join (wr := [(a_wa, (oc10 a_h a_k a_bo)), (a_bo, (arJ G 24 n_bo))]) hP hD [0, 1, 2, 3, 18, 19, 4, 5, 6, 7, 8, 9, 10, 11, 12, 13, 14, 15] [16, 17] rfl rfl (by decide) (by decide) hk1 hFc hP1 hD1
          generalize H1 = H at hP hS ⊢
          refine g5_rs [(a_wa, (oc10 a_h a_k a_bo)), (a_bo, (arJ G 24 n_bo)), (a_k, (oc5 a_h a_j a_pt z24 z25 z26 z27 z28 z29 z30 z31 z32 z33)), (a_h, (oc1 e_wa e_le e_st e_fo e_lc a_l a_g a_b a_s a_p a_w e_gb a_bb)), (a_g, (oc6 6 5 a_gn e_g)), (a_gn, (arI G 30 f_g)), (a_b, (oc6 5 24 a_bn e_b)), (a_bn, (arI G 120 f_b)), (a_p, (oc6 8 5 a_pn e_p)), (a_pn, (arI G 40 f_p)), (a_bb, (arJ G 24 f_bb)), (a_j, (oc2 a_as a_sk)), (a_as, (arI G 8 z35)), (a_sk, (arJ G 50 z36)), (a_l, (arW G 6 f_l)), (a_lo, (oc3 e_cl a_hd a_sr a_cd)), (a_sr, (arI G n_sr f_sr)), (a_cd, (arI G n_cd f_cd)), (a_hd, (arI G n_hd f_hd)), (a_pt, (arI G 200 z34))] hP hD (fun hP hD => ?_)
          refine lv_aload_n hx hb dX10_lookAround_71 rfl (lv_at hl 4 rfl) ?_
          obtain ⟨hPc, hDc, hFc⟩ := g5_sub3 (wc := [(a_wa, (oc10 a_h a_k a_bo)), (a_k, (oc5 a_h a_j a_pt z24 z25 z26 z27 z28 z29 z30 z31 z32 z33)), (a_pt, (arI G 200 z34)), (a_bo, (arJ G 24 n_bo))]) hP hD hS hA [0, 2, 19, 1] (by decide) rfl
          refine va_callv (va_runV (As := []) (rest := []) ⟨hx, hb, hml, hown, hts⟩ (w_addPoints l G a_wa a_k a_pt a_bo a_h a_j H.size z24 z25 z26 z27 z28 z29 z30 z31 z32 z33 z34 n_bo i_21 i_22 (i_23)) (cwV 0 hts gV_X10_51 rfl rfl rfl hv_X10_addPoints ⟨Nat.le_of_ble_eq_true rfl, Nat.le_of_ble_eq_true rfl⟩) (g5_preV hPc hK hDc hN hT hS hFc (ci := 10) (q0 := 0) rfl rfl) rfl rfl hl.1 rfl (lv_room (Nat.le_of_ble_eq_true rfl)) dX10_lookAround_72 ⟨Nat.le_of_ble_eq_true rfl, Nat.le_of_ble_eq_true rfl⟩) hS (fun q _ h => hFc q h) hFc (fun u t H1 locs ht hvm hw hB hz1 hk1 hS => ?_)
          obtain ⟨hP1, hD1⟩ := hB
          rw [ht] at hP1
          obtain ⟨z37, rfl⟩ := hw
          obtain ⟨hP, hD⟩ := va_join (wr := [(a_h, (oc1 e_wa e_le e_st e_fo e_lc a_l a_g a_b a_s a_p a_w e_gb a_bb)), (a_g, (oc6 6 5 a_gn e_g)), (a_gn, (arI G 30 f_g)), (a_b, (oc6 5 24 a_bn e_b)), (a_bn, (arI G 120 f_b)), (a_p, (oc6 8 5 a_pn e_p)), (a_pn, (arI G 40 f_p)), (a_bb, (arJ G 24 f_bb)), (a_j, (oc2 a_as a_sk)), (a_as, (arI G 8 z35)), (a_sk, (arJ G 50 z36)), (a_l, (arW G 6 f_l)), (a_lo, (oc3 e_cl a_hd a_sr a_cd)), (a_sr, (arI G n_sr f_sr)), (a_cd, (arI G n_cd f_cd)), (a_hd, (arI G n_hd f_hd))]) hP hD [0, 2, 19, 1] [3, 4, 5, 6, 7, 8, 9, 10, 11, 12, 13, 14, 15, 16, 17, 18] rfl rfl (by decide) (by decide) hk1 hFc hP1 hD1
          generalize H1 = H at hP hS ⊢
          refine g5_rs [(a_h, (oc1 e_wa e_le e_st e_fo e_lc a_l a_g a_b a_s a_p a_w e_gb a_bb)), (a_g, (oc6 6 5 a_gn e_g)), (a_gn, (arI G 30 f_g)), (a_b, (oc6 5 24 a_bn e_b)), (a_bn, (arI G 120 f_b)), (a_p, (oc6 8 5 a_pn e_p)), (a_pn, (arI G 40 f_p)), (a_bb, (arJ G 24 f_bb)), (a_j, (oc2 a_as a_sk)), (a_as, (arI G 8 z35)), (a_sk, (arJ G 50 z36)), (a_l, (arW G 6 f_l)), (a_lo, (oc3 e_cl a_hd a_sr a_cd)), (a_sr, (arI G n_sr f_sr)), (a_cd, (arI G n_cd f_cd)), (a_hd, (arI G n_hd f_hd)), (a_wa, (oc10 a_h a_k a_bo)), (a_k, (oc5 a_h a_j a_pt z24 z25 z26 z27 z28 z29 z30 z31 z32 z33)), (a_pt, (arI G 200 z34)), (a_bo, (arJ G 24 z37))] hP hD (fun hP hD => ?_)
          refine lv_iinc (v := (n_q + 1)) (lv' := [(4, .int (n_q + 1)), (3, .int z12), (2, .int m_q), (1, .int k_q), (0, .ref a_wa)]) hx hb dX10_lookAround_75 hl (k := 0) rfl rfl (by decide) rfl (fun ls hl => ?_)
          have t_38 : (n_q + 1).toInt = n_q.toInt + 1 := g5_iadd (a := n_q.toInt) (b := 1) rfl (by decide) (by omega) (by omega)
          refine lv_goto (tgt := 48) hx hb dX10_lookAround_78 (by decide) ?_
          exact ih_48_16 ((n_q + 1), z25, z26, z27, z28, z29, z30, z31, z32, z33, z34, z35, z36, z24, z37) ls H locs (show Int.toNat (4 - (n_q + 1).toInt) < Int.toNat (4 - n_q.toInt) from g_up (show n_q.toInt < (n_q + 1).toInt by omega) (show n_q.toInt < 4 by omega)) ⟨lv_sub hl [0, 1, 2, 3, 4] rfl, hP.sub [17, 0, 1, 2, 5, 6, 7, 8, 9, 10, 11, 12, 13, 14, 15, 18, 16, 19, 3, 4] rfl, hD.sub [17, 0, 1, 2, 5, 6, 7, 8, 9, 10, 11, 12, 13, 14, 15, 18, 16, 19, 3, 4] (by decide) rfl, hS, ⟨by omega, by omega⟩, i_22⟩
