theorem dgJ7_fill_d0a16_0 : ∀ r ∈ ([(0, (.iconst 0, 1)), (1, (.istore_n 3, 1)), (2, (.aload_n 0, 1)), (3, (.arraylength, 1)), (4, (.istore 4, 2)), (6, (.iload_n 3, 1)), (7, (.iload 4, 2)), (9, (.if_icmp .ge 13, 3)), (12, (.aload_n 0, 1)), (13, (.iload_n 3, 1)), (14, (.lload_n 1, 1)), (15, (.lastore, 1)), (16, (.iinc 3 1, 3)), (19, (.goto (-13), 3)), (22, (.return_, 1))] : List (Nat × (Instr × Nat))), decode cJ7_fill_d0a16 r.1 = .ok r.2 := by decide +kernel
theorem dJ7_fill_d0a16_0 : decode cJ7_fill_d0a16 0 = .ok (.iconst 0, 1) := dgJ7_fill_d0a16_0 (0, (.iconst 0, 1)) (List.mem_of_getElem? (i := 0) rfl)
theorem dJ7_fill_d0a16_1 : decode cJ7_fill_d0a16 1 = .ok (.istore_n 3, 1) := dgJ7_fill_d0a16_0 (1, (.istore_n 3, 1)) (List.mem_of_getElem? (i := 1) rfl)
theorem dJ7_fill_d0a16_2 : decode cJ7_fill_d0a16 2 = .ok (.aload_n 0, 1) := dgJ7_fill_d0a16_0 (2, (.aload_n 0, 1)) (List.mem_of_getElem? (i := 2) rfl)
theorem dJ7_fill_d0a16_3 : decode cJ7_fill_d0a16 3 = .ok (.arraylength, 1) := dgJ7_fill_d0a16_0 (3, (.arraylength, 1)) (List.mem_of_getElem? (i := 3) rfl)
theorem dJ7_fill_d0a16_4 : decode cJ7_fill_d0a16 4 = .ok (.istore 4, 2) := dgJ7_fill_d0a16_0 (4, (.istore 4, 2)) (List.mem_of_getElem? (i := 4) rfl)
theorem dJ7_fill_d0a16_6 : decode cJ7_fill_d0a16 6 = .ok (.iload_n 3, 1) := dgJ7_fill_d0a16_0 (6, (.iload_n 3, 1)) (List.mem_of_getElem? (i := 5) rfl)
theorem dJ7_fill_d0a16_7 : decode cJ7_fill_d0a16 7 = .ok (.iload 4, 2) := dgJ7_fill_d0a16_0 (7, (.iload 4, 2)) (List.mem_of_getElem? (i := 6) rfl)
theorem dJ7_fill_d0a16_9 : decode cJ7_fill_d0a16 9 = .ok (.if_icmp .ge 13, 3) := dgJ7_fill_d0a16_0 (9, (.if_icmp .ge 13, 3)) (List.mem_of_getElem? (i := 7) rfl)
theorem dJ7_fill_d0a16_12 : decode cJ7_fill_d0a16 12 = .ok (.aload_n 0, 1) := dgJ7_fill_d0a16_0 (12, (.aload_n 0, 1)) (List.mem_of_getElem? (i := 8) rfl)
theorem dJ7_fill_d0a16_13 : decode cJ7_fill_d0a16 13 = .ok (.iload_n 3, 1) := dgJ7_fill_d0a16_0 (13, (.iload_n 3, 1)) (List.mem_of_getElem? (i := 9) rfl)
theorem dJ7_fill_d0a16_14 : decode cJ7_fill_d0a16 14 = .ok (.lload_n 1, 1) := dgJ7_fill_d0a16_0 (14, (.lload_n 1, 1)) (List.mem_of_getElem? (i := 10) rfl)
theorem dJ7_fill_d0a16_15 : decode cJ7_fill_d0a16 15 = .ok (.lastore, 1) := dgJ7_fill_d0a16_0 (15, (.lastore, 1)) (List.mem_of_getElem? (i := 11) rfl)
theorem dJ7_fill_d0a16_16 : decode cJ7_fill_d0a16 16 = .ok (.iinc 3 1, 3) := dgJ7_fill_d0a16_0 (16, (.iinc 3 1, 3)) (List.mem_of_getElem? (i := 12) rfl)
theorem dJ7_fill_d0a16_19 : decode cJ7_fill_d0a16 19 = .ok (.goto (-13), 3) := dgJ7_fill_d0a16_0 (19, (.goto (-13), 3)) (List.mem_of_getElem? (i := 13) rfl)
theorem dJ7_fill_d0a16_22 : decode cJ7_fill_d0a16 22 = .ok (.return_, 1) := dgJ7_fill_d0a16_0 (22, (.return_, 1)) (List.mem_of_getElem? (i := 14) rfl)
set_option maxHeartbeats 4000000 in
set_option maxRecDepth 100000 in
theorem k_fillJ24 (l : Launch) (G : g5_G) (a_0 : Nat) (sz : Nat) (p_v : Int64) (f_a : Nat → Int64) : Met l yJ7_fill_d0a16 (wsG yJ7_fill_d0a16 cJ7_fill_d0a16 5 none) ({ frames := 0, cells := 0, slots := 0, locals := 0 }) (va_Pc [.ref a_0, .long p_v] (g5_P G [(a_0, (arJ G 24 f_a))] sz)) (va_Qv (fun (u : va_W) => ((u = [(a_0, (arJ G 24 (fun _ => p_v)))]))) (g5_B G (va_A [(a_0, (arJ G 24 f_a))] sz)) (va_A [(a_0, (arJ G 24 f_a))] sz)) 0 0 (va_A [(a_0, (arJ G 24 f_a))] sz) := by
  refine Met.ofW (cc := cJ7_fill_d0a16) (maxL := 5) (ret := none) (by decide +kernel) rfl ?_
  intro p e s m args below meth c s₁ B hml hv
  obtain ⟨rfl, hsz, hP, hK, hD0, hN, hT⟩ := hv
  have hx := B.exec
  have hb := B.bytes
  have hr := B.returns
  have hts : ∀ w ∈ tblG, w.before _ s = true := fun w h => atoms_spec (ws := (wsG yJ7_fill_d0a16 cJ7_fill_d0a16 5 none)) B.pre w (List.mem_cons_of_mem _ h)
  have hown : s.vm.findClass RJ7 = some m.cls := findClass_of_methodNamed B.named
  have hlocks := B.notSynchronized
  subst hsz
  have hD := hD0.self (sz := s.heap.size)
  generalize hAe : va_A [(a_0, (arJ G 24 f_a))] s.heap.size = A at hD hT ⊢
  have hA : ∀ q : Nat, s.heap.size ≤ q → A q := fun q h => by rw [← hAe]; exact Or.inr h
  have hS : va_S A s.heap s.heap [] := va_S.rf
  replace hP : va_P G.1 vwCl [(a_0, (arJ G 24 f_a))] s.heap := hP
  have hl := lv_entry ([.ref a_0, .long p_v]) (n := 5) (Nat.le_of_ble_eq_true rfl)
  rw [lg_entry_eq]
  generalize (lg_sl ([.ref a_0, .long p_v]) ++ List.replicate (5 - (lg_sl ([.ref a_0, .long p_v])).length) Slot.unset).toArray = ls at hl ⊢
  replace hl : lv_has ls 5 [(0, .ref a_0), (1, .long p_v)] := hl
  refine lv_iconst (v := 0) hx hb dJ7_fill_d0a16_0 (by decide +kernel) ?_
  refine lv_istore_n (lv' := [(3, .int 0), (0, .ref a_0), (1, .long p_v)]) hx hb dJ7_fill_d0a16_1 rfl hl (by decide +kernel) rfl ?_
  clear hl
  intro ls hl
  refine lv_aload_n hx hb dJ7_fill_d0a16_2 rfl (lv_at hl 1 rfl) ?_
  refine va_alen hx hb hK hP 0 1 rfl rfl (v := 24) (by show Int32.ofNat 24 = 24; decide) dJ7_fill_d0a16_3 ?_
  refine W.eq (g2 := F0 m 4 ls [.int 24]) rfl ?_
  refine lv_istore (lv' := [(4, .int 24), (3, .int 0), (0, .ref a_0), (1, .long p_v)]) hx hb dJ7_fill_d0a16_4 hl (by decide +kernel) rfl ?_
  clear hl
  intro ls hl
  refine g5_loop (α := (Int32) × (Nat → Int64)) (fun (q : (Int32) × (Nat → Int64)) (ls : Array Slot) (H : Heap) (locs : List Loc) => match q with | (k_i, k_f) => lv_has ls 5 [(3, .int k_i), (4, .int 24), (0, .ref a_0), (1, .long p_v)] ∧ va_P G.1 vwCl [(a_0, (arJ G 24 k_f))] H ∧ va_D A [(a_0, (arJ G 24 k_f))] ∧ va_S A s.heap H locs ∧ (0 ≤ k_i.toInt ∧ k_i.toInt ≤ 24) ∧ (∀ j : Nat, (j : Int) < k_i.toInt → k_f j = (fun _ => p_v) j)) (fun (q : (Int32) × (Nat → Int64)) => match q with | (k_i, k_f) => Int.toNat (24 - k_i.toInt)) (0, f_a) ⟨lv_sub hl [1, 0, 2, 3] rfl, hP, hD, hS, ⟨by decide, by decide⟩, fun j h => absurd h (by have z : (0 : Int32).toInt = 0 := (by decide +kernel); omega)⟩ ?_
  rintro ⟨k_i, k_f⟩ ls H locs ⟨hl, hP, hD, hS, (i_1 : 0 ≤ k_i.toInt ∧ k_i.toInt ≤ 24), (i_2 : ∀ j : Nat, (j : Int) < k_i.toInt → k_f j = (fun _ => p_v) j)⟩ ih_6_3
  replace hl : lv_has ls 5 [(3, .int k_i), (4, .int 24), (0, .ref a_0), (1, .long p_v)] := hl
  refine g5_rs [(a_0, (arJ G 24 k_f))] hP hD ?_
  clear hP hD
  intro hP hD
  refine lv_iload_n hx hb dJ7_fill_d0a16_6 rfl (lv_at hl 0 rfl) ?_
  refine lv_iload hx hb dJ7_fill_d0a16_7 (lv_at hl 1 rfl) ?_
  refine lv_icmp_ge (tgt := 22) hx hb dJ7_fill_d0a16_9 (by decide +kernel) (fun c_4 => ?_) (fun c_4 => ?_)
  ·
    have i_4 : k_i.toInt ≥ 24 := g5_ge (a := k_i.toInt) (b := 24) rfl (by decide +kernel) c_4
    obtain ⟨hP, hD⟩ := g5_cvJ hP hD 0 (f := k_f) (g := (fun _ => p_v)) rfl (fun j h => i_2 j (by omega))
    refine g5_rs [(a_0, (arJ G 24 (fun _ => p_v)))] hP hD ?_
    clear hP hD
    intro hP hD
    exact W.vret hx hb hr (fun t ht hW => ⟨⟨[(a_0, (arJ G 24 (fun _ => p_v)))], rfl, rfl, by rw [ht]; exact hP.sub [0] rfl, hD.sub [0] (by decide +kernel) rfl⟩, hS.F ht⟩) hS.2.2 dJ7_fill_d0a16_22
  ·
    have i_4 : k_i.toInt < 24 := g5_geN (a := k_i.toInt) (b := 24) rfl (by decide +kernel) c_4
    refine lv_aload_n hx hb dJ7_fill_d0a16_12 rfl (lv_at hl 2 rfl) ?_
    refine lv_iload_n hx hb dJ7_fill_d0a16_13 rfl (lv_at hl 0 rfl) ?_
    refine lv_lload_n hx hb dJ7_fill_d0a16_14 rfl (lv_at hl 3 rfl) ?_
    refine va_last hx hb hK hP hD hS 0 1 rfl rfl (i := k_i) (x := p_v) (vp_in_iff.mpr ⟨by omega, by omega⟩) dJ7_fill_d0a16_15 ?_
    clear hP hD hS
    intro H locs hP hD hS
    refine g5_rs [(a_0, (arJ G 24 (vp_updL k_f k_i.toNatClampNeg p_v)))] hP hD ?_
    clear hP hD
    intro hP hD
    refine W.eq (g2 := F0 m 16 ls []) rfl ?_
    refine lv_iinc (v := (k_i + 1)) (lv' := [(3, .int (k_i + 1)), (4, .int 24), (0, .ref a_0), (1, .long p_v)]) hx hb dJ7_fill_d0a16_16 hl (k := 0) rfl rfl (by decide +kernel) rfl ?_
    clear hl
    intro ls hl
    have t_5 : (k_i + 1).toInt = k_i.toInt + 1 := g5_iadd (a := k_i.toInt) (b := 1) rfl (by decide +kernel) (by omega) (by omega)
    refine lv_goto (tgt := 6) hx hb dJ7_fill_d0a16_19 (by decide +kernel) ?_
    exact ih_6_3 ((k_i + 1), (vp_updL k_f k_i.toNatClampNeg p_v)) ls H locs (show Int.toNat (24 - (k_i + 1).toInt) < Int.toNat (24 - k_i.toInt) from g_up (show k_i.toInt < (k_i + 1).toInt by omega) (show k_i.toInt < 24 by omega)) ⟨lv_sub hl [0, 1, 2, 3] rfl, hP, hD, hS, ⟨by omega, by omega⟩, g5_fillJ i_2 (by omega) (by omega) rfl⟩
theorem dgX10_addPoints_0 : ∀ r ∈ ([(0, (.iconst 0, 1)), (1, (.istore_n 1, 1)), (2, (.iload_n 1, 1)), (3, (.aload_n 0, 1)), (4, (.getfield 19, 3)), (7, (.getfield 54, 3)), (10, (.if_icmp .ge 43, 3)), (13, (.aload_n 0, 1)), (14, (.getfield 9, 3)), (17, (.aload_n 0, 1)), (18, (.getfield 19, 3)), (21, (.getfield 57, 3)), (24, (.iload_n 1, 1)), (25, (.iaload, 1)), (26, (.bipush 64, 2)), (28, (.idiv, 1)), (29, (.dup2, 1)), (30, (.laload, 1)), (31, (.lconst 1, 1)), (32, (.aload_n 0, 1)), (33, (.getfield 19, 3)), (36, (.getfield 57, 3)), (39, (.iload_n 1, 1)), (40, (.iaload, 1)), (41, (.bipush 64, 2)), (43, (.irem, 1)), (44, (.lshl, 1)), (45, (.lor, 1)), (46, (.lastore, 1)), (47, (.iinc 1 1, 3)), (50, (.goto (-48), 3)), (53, (.return_, 1))] : List (Nat × (Instr × Nat))), decode cX10_addPoints r.1 = .ok r.2 := by decide +kernel
theorem dX10_addPoints_0 : decode cX10_addPoints 0 = .ok (.iconst 0, 1) := dgX10_addPoints_0 (0, (.iconst 0, 1)) (List.mem_of_getElem? (i := 0) rfl)
theorem dX10_addPoints_1 : decode cX10_addPoints 1 = .ok (.istore_n 1, 1) := dgX10_addPoints_0 (1, (.istore_n 1, 1)) (List.mem_of_getElem? (i := 1) rfl)
theorem dX10_addPoints_2 : decode cX10_addPoints 2 = .ok (.iload_n 1, 1) := dgX10_addPoints_0 (2, (.iload_n 1, 1)) (List.mem_of_getElem? (i := 2) rfl)
theorem dX10_addPoints_3 : decode cX10_addPoints 3 = .ok (.aload_n 0, 1) := dgX10_addPoints_0 (3, (.aload_n 0, 1)) (List.mem_of_getElem? (i := 3) rfl)
theorem dX10_addPoints_4 : decode cX10_addPoints 4 = .ok (.getfield 19, 3) := dgX10_addPoints_0 (4, (.getfield 19, 3)) (List.mem_of_getElem? (i := 4) rfl)
theorem dX10_addPoints_7 : decode cX10_addPoints 7 = .ok (.getfield 54, 3) := dgX10_addPoints_0 (7, (.getfield 54, 3)) (List.mem_of_getElem? (i := 5) rfl)
theorem dX10_addPoints_10 : decode cX10_addPoints 10 = .ok (.if_icmp .ge 43, 3) := dgX10_addPoints_0 (10, (.if_icmp .ge 43, 3)) (List.mem_of_getElem? (i := 6) rfl)
theorem dX10_addPoints_13 : decode cX10_addPoints 13 = .ok (.aload_n 0, 1) := dgX10_addPoints_0 (13, (.aload_n 0, 1)) (List.mem_of_getElem? (i := 7) rfl)
theorem dX10_addPoints_14 : decode cX10_addPoints 14 = .ok (.getfield 9, 3) := dgX10_addPoints_0 (14, (.getfield 9, 3)) (List.mem_of_getElem? (i := 8) rfl)
theorem dX10_addPoints_17 : decode cX10_addPoints 17 = .ok (.aload_n 0, 1) := dgX10_addPoints_0 (17, (.aload_n 0, 1)) (List.mem_of_getElem? (i := 9) rfl)
theorem dX10_addPoints_18 : decode cX10_addPoints 18 = .ok (.getfield 19, 3) := dgX10_addPoints_0 (18, (.getfield 19, 3)) (List.mem_of_getElem? (i := 10) rfl)
theorem dX10_addPoints_21 : decode cX10_addPoints 21 = .ok (.getfield 57, 3) := dgX10_addPoints_0 (21, (.getfield 57, 3)) (List.mem_of_getElem? (i := 11) rfl)
theorem dX10_addPoints_24 : decode cX10_addPoints 24 = .ok (.iload_n 1, 1) := dgX10_addPoints_0 (24, (.iload_n 1, 1)) (List.mem_of_getElem? (i := 12) rfl)
theorem dX10_addPoints_25 : decode cX10_addPoints 25 = .ok (.iaload, 1) := dgX10_addPoints_0 (25, (.iaload, 1)) (List.mem_of_getElem? (i := 13) rfl)
theorem dX10_addPoints_26 : decode cX10_addPoints 26 = .ok (.bipush 64, 2) := dgX10_addPoints_0 (26, (.bipush 64, 2)) (List.mem_of_getElem? (i := 14) rfl)
theorem dX10_addPoints_28 : decode cX10_addPoints 28 = .ok (.idiv, 1) := dgX10_addPoints_0 (28, (.idiv, 1)) (List.mem_of_getElem? (i := 15) rfl)
theorem dX10_addPoints_29 : decode cX10_addPoints 29 = .ok (.dup2, 1) := dgX10_addPoints_0 (29, (.dup2, 1)) (List.mem_of_getElem? (i := 16) rfl)
theorem dX10_addPoints_30 : decode cX10_addPoints 30 = .ok (.laload, 1) := dgX10_addPoints_0 (30, (.laload, 1)) (List.mem_of_getElem? (i := 17) rfl)
theorem dX10_addPoints_31 : decode cX10_addPoints 31 = .ok (.lconst 1, 1) := dgX10_addPoints_0 (31, (.lconst 1, 1)) (List.mem_of_getElem? (i := 18) rfl)
theorem dX10_addPoints_32 : decode cX10_addPoints 32 = .ok (.aload_n 0, 1) := dgX10_addPoints_0 (32, (.aload_n 0, 1)) (List.mem_of_getElem? (i := 19) rfl)
theorem dX10_addPoints_33 : decode cX10_addPoints 33 = .ok (.getfield 19, 3) := dgX10_addPoints_0 (33, (.getfield 19, 3)) (List.mem_of_getElem? (i := 20) rfl)
theorem dX10_addPoints_36 : decode cX10_addPoints 36 = .ok (.getfield 57, 3) := dgX10_addPoints_0 (36, (.getfield 57, 3)) (List.mem_of_getElem? (i := 21) rfl)
theorem dX10_addPoints_39 : decode cX10_addPoints 39 = .ok (.iload_n 1, 1) := dgX10_addPoints_0 (39, (.iload_n 1, 1)) (List.mem_of_getElem? (i := 22) rfl)
theorem dX10_addPoints_40 : decode cX10_addPoints 40 = .ok (.iaload, 1) := dgX10_addPoints_0 (40, (.iaload, 1)) (List.mem_of_getElem? (i := 23) rfl)
theorem dX10_addPoints_41 : decode cX10_addPoints 41 = .ok (.bipush 64, 2) := dgX10_addPoints_0 (41, (.bipush 64, 2)) (List.mem_of_getElem? (i := 24) rfl)
theorem dX10_addPoints_43 : decode cX10_addPoints 43 = .ok (.irem, 1) := dgX10_addPoints_0 (43, (.irem, 1)) (List.mem_of_getElem? (i := 25) rfl)
theorem dX10_addPoints_44 : decode cX10_addPoints 44 = .ok (.lshl, 1) := dgX10_addPoints_0 (44, (.lshl, 1)) (List.mem_of_getElem? (i := 26) rfl)
theorem dX10_addPoints_45 : decode cX10_addPoints 45 = .ok (.lor, 1) := dgX10_addPoints_0 (45, (.lor, 1)) (List.mem_of_getElem? (i := 27) rfl)
theorem dX10_addPoints_46 : decode cX10_addPoints 46 = .ok (.lastore, 1) := dgX10_addPoints_0 (46, (.lastore, 1)) (List.mem_of_getElem? (i := 28) rfl)
theorem dX10_addPoints_47 : decode cX10_addPoints 47 = .ok (.iinc 1 1, 3) := dgX10_addPoints_0 (47, (.iinc 1 1, 3)) (List.mem_of_getElem? (i := 29) rfl)
theorem dX10_addPoints_50 : decode cX10_addPoints 50 = .ok (.goto (-48), 3) := dgX10_addPoints_0 (50, (.goto (-48), 3)) (List.mem_of_getElem? (i := 30) rfl)
theorem dX10_addPoints_53 : decode cX10_addPoints 53 = .ok (.return_, 1) := dgX10_addPoints_0 (53, (.return_, 1)) (List.mem_of_getElem? (i := 31) rfl)
theorem inG_X10 : ∀ w ∈ wsX100, w ∈ tblG := tgs [304, 306, 308] (by decide +kernel) (by decide +kernel)
theorem fl_X10_19 : Cond.fieldLink RX10 19 "LateGlass$Watch" "eye" "LLateGlass$Look;" ∈ tblG := tg 301 (by decide +kernel) (by decide +kernel)
theorem fl_X10_54 : Cond.fieldLink RX10 54 "LateGlass$Look" "length" "I" ∈ tblG := tg 250 (by decide +kernel) (by decide +kernel)
theorem fl_X10_9 : Cond.fieldLink RX10 9 "LateGlass$Watch" "boards" "[J" ∈ tblG := tg 302 (by decide +kernel) (by decide +kernel)
theorem fl_X10_57 : Cond.fieldLink RX10 57 "LateGlass$Look" "points" "[I" ∈ tblG := tg 246 (by decide +kernel) (by decide +kernel)
set_option maxHeartbeats 4000000 in
set_option maxRecDepth 100000 in
theorem w_addPoints (l : Launch) (G : g5_G) (a_wa a_k a_pt a_bo a_h a_j : Nat) (sz : Nat) (e_ln : Int32) (e_se : Int32) (e_lh : Int32) (e_br : Int32) (e_we : Int32) (e_me : Int32) (e_ce : Int32) (e_wy : Int32) (e_ho : Int32) (e_ov : Int32) (f_pt : Nat → Int32) (f_bo : Nat → Int64) (h_e_ln : 0 ≤ e_ln.toInt ∧ e_ln.toInt ≤ 200) (h_e_ov : 0 ≤ e_ov.toInt ∧ e_ov.toInt ≤ 1) (e_q : ∀ j : Nat, (j : Int) < e_ln.toInt → 0 ≤ (f_pt j).toInt ∧ (f_pt j).toInt ≤ 1535) : Met l yX10_addPoints (wsG yX10_addPoints cX10_addPoints 2 none) ({ frames := 0, cells := 0, slots := 0, locals := 0 }) (va_Pc [.ref a_wa] (g5_P G [(a_wa, (oc10 a_h a_k a_bo)), (a_k, (oc5 a_h a_j a_pt e_ln e_se e_lh e_br e_we e_me e_ce e_wy e_ho e_ov)), (a_pt, (arI G 200 f_pt)), (a_bo, (arJ G 24 f_bo))] sz)) (va_Qv (fun (u : va_W) => (∃ (o_f : Nat → Int64), (u = [(a_wa, (oc10 a_h a_k a_bo)), (a_k, (oc5 a_h a_j a_pt e_ln e_se e_lh e_br e_we e_me e_ce e_wy e_ho e_ov)), (a_pt, (arI G 200 f_pt)), (a_bo, (arJ G 24 o_f))]))) (g5_B G (va_A [(a_wa, (oc10 a_h a_k a_bo)), (a_k, (oc5 a_h a_j a_pt e_ln e_se e_lh e_br e_we e_me e_ce e_wy e_ho e_ov)), (a_pt, (arI G 200 f_pt)), (a_bo, (arJ G 24 f_bo))] sz)) (va_A [(a_wa, (oc10 a_h a_k a_bo)), (a_k, (oc5 a_h a_j a_pt e_ln e_se e_lh e_br e_we e_me e_ce e_wy e_ho e_ov)), (a_pt, (arI G 200 f_pt)), (a_bo, (arJ G 24 f_bo))] sz)) 0 0 (va_A [(a_wa, (oc10 a_h a_k a_bo)), (a_k, (oc5 a_h a_j a_pt e_ln e_se e_lh e_br e_we e_me e_ce e_wy e_ho e_ov)), (a_pt, (arI G 200 f_pt)), (a_bo, (arJ G 24 f_bo))] sz) := by
  refine Met.ofW (cc := cX10_addPoints) (maxL := 2) (ret := none) (by decide +kernel) rfl ?_
  intro p e s m args below meth c s₁ B hml hv
  obtain ⟨rfl, hsz, hP, hK, hD0, hN, hT⟩ := hv
  have hx := B.exec
  have hb := B.bytes
  have hr := B.returns
  have hts : ∀ w ∈ tblG, w.before _ s = true := fun w h => atoms_spec (ws := (wsG yX10_addPoints cX10_addPoints 2 none)) B.pre w (List.mem_cons_of_mem _ h)
  have hown : s.vm.findClass RX10 = some m.cls := findClass_of_methodNamed B.named
  have hlocks := B.notSynchronized
  subst hsz
  have hD := hD0.self (sz := s.heap.size)
  generalize hAe : va_A [(a_wa, (oc10 a_h a_k a_bo)), (a_k, (oc5 a_h a_j a_pt e_ln e_se e_lh e_br e_we e_me e_ce e_wy e_ho e_ov)), (a_pt, (arI G 200 f_pt)), (a_bo, (arJ G 24 f_bo))] s.heap.size = A at hD hT ⊢
  have hA : ∀ q : Nat, s.heap.size ≤ q → A q := fun q h => by rw [← hAe]; exact Or.inr h
  have hS : va_S A s.heap s.heap [] := va_S.rf
  replace hP : va_P G.1 vwCl [(a_wa, (oc10 a_h a_k a_bo)), (a_k, (oc5 a_h a_j a_pt e_ln e_se e_lh e_br e_we e_me e_ce e_wy e_ho e_ov)), (a_pt, (arI G 200 f_pt)), (a_bo, (arJ G 24 f_bo))] s.heap := hP
  have hl := lv_entry ([.ref a_wa]) (n := 2) (Nat.le_of_ble_eq_true rfl)
  rw [lg_entry_eq]
  generalize (lg_sl ([.ref a_wa]) ++ List.replicate (2 - (lg_sl ([.ref a_wa])).length) Slot.unset).toArray = ls at hl ⊢
  replace hl : lv_has ls 2 [(0, .ref a_wa)] := hl
  refine lv_iconst (v := 0) hx hb dX10_addPoints_0 (by decide +kernel) ?_
  refine lv_istore_n (lv' := [(1, .int 0), (0, .ref a_wa)]) hx hb dX10_addPoints_1 rfl hl (by decide +kernel) rfl ?_
  clear hl
  intro ls hl
  refine g5_loop (α := (Int32) × (Nat → Int64)) (fun (q : (Int32) × (Nat → Int64)) (ls : Array Slot) (H : Heap) (locs : List Loc) => match q with | (k_i, k_f) => lv_has ls 2 [(1, .int k_i), (0, .ref a_wa)] ∧ va_P G.1 vwCl [(a_wa, (oc10 a_h a_k a_bo)), (a_k, (oc5 a_h a_j a_pt e_ln e_se e_lh e_br e_we e_me e_ce e_wy e_ho e_ov)), (a_pt, (arI G 200 f_pt)), (a_bo, (arJ G 24 k_f))] H ∧ va_D A [(a_wa, (oc10 a_h a_k a_bo)), (a_k, (oc5 a_h a_j a_pt e_ln e_se e_lh e_br e_we e_me e_ce e_wy e_ho e_ov)), (a_pt, (arI G 200 f_pt)), (a_bo, (arJ G 24 k_f))] ∧ va_S A s.heap H locs ∧ (0 ≤ k_i.toInt ∧ k_i.toInt ≤ 200)) (fun (q : (Int32) × (Nat → Int64)) => match q with | (k_i, k_f) => Int.toNat (200 - k_i.toInt)) (0, f_bo) ⟨lv_sub hl [0, 1] rfl, hP, hD, hS, ⟨by decide, by decide⟩⟩ ?_
  rintro ⟨k_i, k_f⟩ ls H locs ⟨hl, hP, hD, hS, (i_1 : 0 ≤ k_i.toInt ∧ k_i.toInt ≤ 200)⟩ ih_2_2
  replace hl : lv_has ls 2 [(1, .int k_i), (0, .ref a_wa)] := hl
  refine g5_rs [(a_wa, (oc10 a_h a_k a_bo)), (a_k, (oc5 a_h a_j a_pt e_ln e_se e_lh e_br e_we e_me e_ce e_wy e_ho e_ov)), (a_pt, (arI G 200 f_pt)), (a_bo, (arJ G 24 k_f))] hP hD ?_
  clear hP hD
  intro hP hD
  refine lv_iload_n hx hb dX10_addPoints_2 rfl (lv_at hl 0 rfl) ?_
  refine lv_aload_n hx hb dX10_addPoints_3 rfl (lv_at hl 1 rfl) ?_
  refine va_get (D := G.1) (ci := 10) (v := .ref a_k) (C := RX10) (T := TX10) (N := 3) hx hb hts inG_X10 hown hK hP 0 rfl rfl 1 (by decide +kernel) (hts _ fl_X10_19) (fun _ h9 => h9) rfl dX10_addPoints_4 ?_
  refine va_get (D := G.1) (ci := 5) (v := .int e_ln) (C := RX5) (T := TX5) (N := 13) hx hb hts inG_X5 hown hK hP 1 rfl rfl 3 (by decide +kernel) (hts _ fl_X10_54) (fun _ h9 => h9) rfl dX10_addPoints_7 ?_
  refine W.eq (g2 := F0 m 10 ls [.int e_ln, .int k_i]) rfl ?_
  refine lv_icmp_ge (tgt := 53) hx hb dX10_addPoints_10 (by decide +kernel) (fun c_3 => ?_) (fun c_3 => ?_)
  ·
    have i_3 : k_i.toInt ≥ e_ln.toInt := g5_ge (a := k_i.toInt) (b := e_ln.toInt) rfl rfl c_3
    exact W.vret hx hb hr (fun t ht hW => ⟨⟨[(a_wa, (oc10 a_h a_k a_bo)), (a_k, (oc5 a_h a_j a_pt e_ln e_se e_lh e_br e_we e_me e_ce e_wy e_ho e_ov)), (a_pt, (arI G 200 f_pt)), (a_bo, (arJ G 24 k_f))], rfl, ⟨k_f, rfl⟩, by rw [ht]; exact hP.sub [0, 1, 2, 3] rfl, hD.sub [0, 1, 2, 3] (by decide +kernel) rfl⟩, hS.F ht⟩) hS.2.2 dX10_addPoints_53
  ·
    have i_3 : k_i.toInt < e_ln.toInt := g5_geN (a := k_i.toInt) (b := e_ln.toInt) rfl rfl c_3
    refine lv_aload_n hx hb dX10_addPoints_13 rfl (lv_at hl 1 rfl) ?_
    refine va_get (D := G.1) (ci := 10) (v := .ref a_bo) (C := RX10) (T := TX10) (N := 3) hx hb hts inG_X10 hown hK hP 0 rfl rfl 2 (by decide +kernel) (hts _ fl_X10_9) (fun _ h9 => h9) rfl dX10_addPoints_14 ?_
    refine lv_aload_n hx hb dX10_addPoints_17 rfl (lv_at hl 1 rfl) ?_
    refine va_get (D := G.1) (ci := 10) (v := .ref a_k) (C := RX10) (T := TX10) (N := 3) hx hb hts inG_X10 hown hK hP 0 rfl rfl 1 (by decide +kernel) (hts _ fl_X10_19) (fun _ h9 => h9) rfl dX10_addPoints_18 ?_
    refine W.eq (g2 := F0 m 21 ls [.ref a_k, .ref a_bo]) rfl ?_
    refine va_get (D := G.1) (ci := 5) (v := .ref a_pt) (C := RX5) (T := TX5) (N := 13) hx hb hts inG_X5 hown hK hP 1 rfl rfl 2 (by decide +kernel) (hts _ fl_X10_57) (fun _ h9 => h9) rfl dX10_addPoints_21 ?_
    refine lv_iload_n hx hb dX10_addPoints_24 rfl (lv_at hl 0 rfl) ?_
    refine va_iald hx hb hK hP 2 0 rfl rfl (i := k_i) (vp_in_iff.mpr ⟨by omega, by omega⟩) dX10_addPoints_25 ?_
    have hp_4 : 0 ≤ (f_pt k_i.toNatClampNeg).toInt ∧ (f_pt k_i.toNatClampNeg).toInt ≤ 1535 := e_q _ (by have zz := g5_clamp k_i; omega)
    refine lv_bipush (v := 64) hx hb dX10_addPoints_26 (by decide +kernel) ?_
    refine lv_idiv hx hb dX10_addPoints_28 (by decide +kernel) ?_
    have t_5 : ((f_pt k_i.toNatClampNeg) / 64).toInt = (f_pt k_i.toNatClampNeg).toInt / 64 := g5_idiv (a := (f_pt k_i.toNatClampNeg).toInt) (b := 64) rfl (by decide +kernel) (by omega) (by decide +kernel)
    refine W.eq (g2 := F0 m 29 ls [.int ((f_pt k_i.toNatClampNeg) / 64), .ref a_bo]) rfl ?_
    refine lv_dup2_11 hx hb dX10_addPoints_29 rfl rfl ?_
    refine va_lald hx hb hK hP 3 1 rfl rfl (i := ((f_pt k_i.toNatClampNeg) / 64)) (vp_in_iff.mpr ⟨by omega, by omega⟩) dX10_addPoints_30 ?_
    refine lv_lconst (v := 1) hx hb dX10_addPoints_31 (by decide +kernel) ?_
    refine lv_aload_n hx hb dX10_addPoints_32 rfl (lv_at hl 1 rfl) ?_
    refine va_get (D := G.1) (ci := 10) (v := .ref a_k) (C := RX10) (T := TX10) (N := 3) hx hb hts inG_X10 hown hK hP 0 rfl rfl 1 (by decide +kernel) (hts _ fl_X10_19) (fun _ h9 => h9) rfl dX10_addPoints_33 ?_
    refine W.eq (g2 := F0 m 36 ls [.ref a_k, .long 1, .long (k_f ((f_pt k_i.toNatClampNeg) / 64).toNatClampNeg), .int ((f_pt k_i.toNatClampNeg) / 64), .ref a_bo]) rfl ?_
    refine va_get (D := G.1) (ci := 5) (v := .ref a_pt) (C := RX5) (T := TX5) (N := 13) hx hb hts inG_X5 hown hK hP 1 rfl rfl 2 (by decide +kernel) (hts _ fl_X10_57) (fun _ h9 => h9) rfl dX10_addPoints_36 ?_
    refine lv_iload_n hx hb dX10_addPoints_39 rfl (lv_at hl 0 rfl) ?_
    refine va_iald hx hb hK hP 2 0 rfl rfl (i := k_i) (vp_in_iff.mpr ⟨by omega, by omega⟩) dX10_addPoints_40 ?_
    have hp_6 : 0 ≤ (f_pt k_i.toNatClampNeg).toInt ∧ (f_pt k_i.toNatClampNeg).toInt ≤ 1535 := e_q _ (by have zz := g5_clamp k_i; omega)
    refine lv_bipush (v := 64) hx hb dX10_addPoints_41 (by decide +kernel) ?_
    refine lv_irem hx hb dX10_addPoints_43 (by decide +kernel) ?_
    have t_7 : ((f_pt k_i.toNatClampNeg) - (f_pt k_i.toNatClampNeg) / 64 * 64).toInt = (f_pt k_i.toNatClampNeg).toInt % 64 := g5_irem (a := (f_pt k_i.toNatClampNeg).toInt) (b := 64) rfl (by decide +kernel) (by omega) (by decide +kernel)
    refine W.eq (g2 := F0 m 44 ls [.int ((f_pt k_i.toNatClampNeg) - (f_pt k_i.toNatClampNeg) / 64 * 64), .long 1, .long (k_f ((f_pt k_i.toNatClampNeg) / 64).toNatClampNeg), .int ((f_pt k_i.toNatClampNeg) / 64), .ref a_bo]) rfl ?_
    refine lv_lshl (v := ((1 : Int64) <<< (((f_pt k_i.toNatClampNeg) - (f_pt k_i.toNatClampNeg) / 64 * 64).toInt64 &&& 63))) hx hb dX10_addPoints_44 rfl ?_
    refine lv_lor hx hb dX10_addPoints_45 ?_
    refine va_last hx hb hK hP hD hS 3 1 rfl rfl (i := ((f_pt k_i.toNatClampNeg) / 64)) (x := ((k_f ((f_pt k_i.toNatClampNeg) / 64).toNatClampNeg) ||| ((1 : Int64) <<< (((f_pt k_i.toNatClampNeg) - (f_pt k_i.toNatClampNeg) / 64 * 64).toInt64 &&& 63)))) (vp_in_iff.mpr ⟨by omega, by omega⟩) dX10_addPoints_46 ?_
    clear hP hD hS
    intro H locs hP hD hS
    refine g5_rs [(a_wa, (oc10 a_h a_k a_bo)), (a_k, (oc5 a_h a_j a_pt e_ln e_se e_lh e_br e_we e_me e_ce e_wy e_ho e_ov)), (a_pt, (arI G 200 f_pt)), (a_bo, (arJ G 24 (vp_updL k_f ((f_pt k_i.toNatClampNeg) / 64).toNatClampNeg ((k_f ((f_pt k_i.toNatClampNeg) / 64).toNatClampNeg) ||| ((1 : Int64) <<< (((f_pt k_i.toNatClampNeg) - (f_pt k_i.toNatClampNeg) / 64 * 64).toInt64 &&& 63))))))] hP hD ?_
    clear hP hD
    intro hP hD
    refine lv_iinc (v := (k_i + 1)) (lv' := [(1, .int (k_i + 1)), (0, .ref a_wa)]) hx hb dX10_addPoints_47 hl (k := 0) rfl rfl (by decide +kernel) rfl ?_
    clear hl
    intro ls hl
    have t_8 : (k_i + 1).toInt = k_i.toInt + 1 := g5_iadd (a := k_i.toInt) (b := 1) rfl (by decide +kernel) (by omega) (by omega)
    refine lv_goto (tgt := 2) hx hb dX10_addPoints_50 (by decide +kernel) ?_
    exact ih_2_2 ((k_i + 1), (vp_updL k_f ((f_pt k_i.toNatClampNeg) / 64).toNatClampNeg ((k_f ((f_pt k_i.toNatClampNeg) / 64).toNatClampNeg) ||| ((1 : Int64) <<< (((f_pt k_i.toNatClampNeg) - (f_pt k_i.toNatClampNeg) / 64 * 64).toInt64 &&& 63))))) ls H locs (show Int.toNat (200 - (k_i + 1).toInt) < Int.toNat (200 - k_i.toInt) from g_up (show k_i.toInt < (k_i + 1).toInt by omega) (show k_i.toInt < 200 by omega)) ⟨lv_sub hl [0, 1] rfl, hP, hD, hS, ⟨by omega, by omega⟩⟩
theorem dgX10_lookAround_0 : ∀ r ∈ ([(0, (.aload_n 0, 1)), (1, (.getfield 9, 3)), (4, (.lconst 0, 1)), (5, (.invokestatic 23, 3)), (8, (.iconst 0, 1)), (9, (.istore_n 1, 1)), (10, (.iload_n 1, 1)), (11, (.aload_n 0, 1)), (12, (.getfield 15, 3)), (15, (.getfield 29, 3)), (18, (.getfield 35, 3)), (21, (.if_icmp .ge 72, 3)), (24, (.iconst 0, 1)), (25, (.istore_n 2, 1)), (26, (.iload_n 2, 1)), (27, (.bipush 24, 2)), (29, (.if_icmp .ge 58, 3)), (32, (.aload_n 0, 1)), (33, (.getfield 15, 3)), (36, (.getfield 29, 3)), (39, (.iload_n 1, 1)), (40, (.iload_n 2, 1)), (41, (.invokevirtual 41, 3)), (44, (.istore_n 3, 1)), (45, (.iconst 0, 1)), (46, (.istore 4, 2)), (48, (.iload 4, 2)), (50, (.iconst 4, 1)), (51, (.if_icmp .ge 30, 3)), (54, (.iload_n 3, 1)), (55, (.iconst (-1), 1)), (56, (.if_icmp .eq 25, 3)), (59, (.aload_n 0, 1)), (60, (.getfield 19, 3)), (63, (.iload_n 3, 1)), (64, (.iload 4, 2)), (66, (.iload_n 2, 1)), (67, (.iconst 0, 1)), (68, (.invokevirtual 45, 3)), (71, (.aload_n 0, 1))] : List (Nat × (Instr × Nat))), decode cX10_lookAround r.1 = .ok r.2 := by decide +kernel
theorem dX10_lookAround_0 : decode cX10_lookAround 0 = .ok (.aload_n 0, 1) := dgX10_lookAround_0 (0, (.aload_n 0, 1)) (List.mem_of_getElem? (i := 0) rfl)
theorem dX10_lookAround_1 : decode cX10_lookAround 1 = .ok (.getfield 9, 3) := dgX10_lookAround_0 (1, (.getfield 9, 3)) (List.mem_of_getElem? (i := 1) rfl)
theorem dX10_lookAround_4 : decode cX10_lookAround 4 = .ok (.lconst 0, 1) := dgX10_lookAround_0 (4, (.lconst 0, 1)) (List.mem_of_getElem? (i := 2) rfl)
theorem dX10_lookAround_5 : decode cX10_lookAround 5 = .ok (.invokestatic 23, 3) := dgX10_lookAround_0 (5, (.invokestatic 23, 3)) (List.mem_of_getElem? (i := 3) rfl)
theorem dX10_lookAround_8 : decode cX10_lookAround 8 = .ok (.iconst 0, 1) := dgX10_lookAround_0 (8, (.iconst 0, 1)) (List.mem_of_getElem? (i := 4) rfl)
theorem dX10_lookAround_9 : decode cX10_lookAround 9 = .ok (.istore_n 1, 1) := dgX10_lookAround_0 (9, (.istore_n 1, 1)) (List.mem_of_getElem? (i := 5) rfl)
theorem dX10_lookAround_10 : decode cX10_lookAround 10 = .ok (.iload_n 1, 1) := dgX10_lookAround_0 (10, (.iload_n 1, 1)) (List.mem_of_getElem? (i := 6) rfl)
theorem dX10_lookAround_11 : decode cX10_lookAround 11 = .ok (.aload_n 0, 1) := dgX10_lookAround_0 (11, (.aload_n 0, 1)) (List.mem_of_getElem? (i := 7) rfl)
theorem dX10_lookAround_12 : decode cX10_lookAround 12 = .ok (.getfield 15, 3) := dgX10_lookAround_0 (12, (.getfield 15, 3)) (List.mem_of_getElem? (i := 8) rfl)
theorem dX10_lookAround_15 : decode cX10_lookAround 15 = .ok (.getfield 29, 3) := dgX10_lookAround_0 (15, (.getfield 29, 3)) (List.mem_of_getElem? (i := 9) rfl)
theorem dX10_lookAround_18 : decode cX10_lookAround 18 = .ok (.getfield 35, 3) := dgX10_lookAround_0 (18, (.getfield 35, 3)) (List.mem_of_getElem? (i := 10) rfl)
theorem dX10_lookAround_21 : decode cX10_lookAround 21 = .ok (.if_icmp .ge 72, 3) := dgX10_lookAround_0 (21, (.if_icmp .ge 72, 3)) (List.mem_of_getElem? (i := 11) rfl)
theorem dX10_lookAround_24 : decode cX10_lookAround 24 = .ok (.iconst 0, 1) := dgX10_lookAround_0 (24, (.iconst 0, 1)) (List.mem_of_getElem? (i := 12) rfl)
theorem dX10_lookAround_25 : decode cX10_lookAround 25 = .ok (.istore_n 2, 1) := dgX10_lookAround_0 (25, (.istore_n 2, 1)) (List.mem_of_getElem? (i := 13) rfl)
theorem dX10_lookAround_26 : decode cX10_lookAround 26 = .ok (.iload_n 2, 1) := dgX10_lookAround_0 (26, (.iload_n 2, 1)) (List.mem_of_getElem? (i := 14) rfl)
theorem dX10_lookAround_27 : decode cX10_lookAround 27 = .ok (.bipush 24, 2) := dgX10_lookAround_0 (27, (.bipush 24, 2)) (List.mem_of_getElem? (i := 15) rfl)
theorem dX10_lookAround_29 : decode cX10_lookAround 29 = .ok (.if_icmp .ge 58, 3) := dgX10_lookAround_0 (29, (.if_icmp .ge 58, 3)) (List.mem_of_getElem? (i := 16) rfl)
theorem dX10_lookAround_32 : decode cX10_lookAround 32 = .ok (.aload_n 0, 1) := dgX10_lookAround_0 (32, (.aload_n 0, 1)) (List.mem_of_getElem? (i := 17) rfl)
theorem dX10_lookAround_33 : decode cX10_lookAround 33 = .ok (.getfield 15, 3) := dgX10_lookAround_0 (33, (.getfield 15, 3)) (List.mem_of_getElem? (i := 18) rfl)
theorem dX10_lookAround_36 : decode cX10_lookAround 36 = .ok (.getfield 29, 3) := dgX10_lookAround_0 (36, (.getfield 29, 3)) (List.mem_of_getElem? (i := 19) rfl)
theorem dX10_lookAround_39 : decode cX10_lookAround 39 = .ok (.iload_n 1, 1) := dgX10_lookAround_0 (39, (.iload_n 1, 1)) (List.mem_of_getElem? (i := 20) rfl)
theorem dX10_lookAround_40 : decode cX10_lookAround 40 = .ok (.iload_n 2, 1) := dgX10_lookAround_0 (40, (.iload_n 2, 1)) (List.mem_of_getElem? (i := 21) rfl)
theorem dX10_lookAround_41 : decode cX10_lookAround 41 = .ok (.invokevirtual 41, 3) := dgX10_lookAround_0 (41, (.invokevirtual 41, 3)) (List.mem_of_getElem? (i := 22) rfl)
theorem dX10_lookAround_44 : decode cX10_lookAround 44 = .ok (.istore_n 3, 1) := dgX10_lookAround_0 (44, (.istore_n 3, 1)) (List.mem_of_getElem? (i := 23) rfl)
theorem dX10_lookAround_45 : decode cX10_lookAround 45 = .ok (.iconst 0, 1) := dgX10_lookAround_0 (45, (.iconst 0, 1)) (List.mem_of_getElem? (i := 24) rfl)
theorem dX10_lookAround_46 : decode cX10_lookAround 46 = .ok (.istore 4, 2) := dgX10_lookAround_0 (46, (.istore 4, 2)) (List.mem_of_getElem? (i := 25) rfl)
theorem dX10_lookAround_48 : decode cX10_lookAround 48 = .ok (.iload 4, 2) := dgX10_lookAround_0 (48, (.iload 4, 2)) (List.mem_of_getElem? (i := 26) rfl)
theorem dX10_lookAround_50 : decode cX10_lookAround 50 = .ok (.iconst 4, 1) := dgX10_lookAround_0 (50, (.iconst 4, 1)) (List.mem_of_getElem? (i := 27) rfl)
theorem dX10_lookAround_51 : decode cX10_lookAround 51 = .ok (.if_icmp .ge 30, 3) := dgX10_lookAround_0 (51, (.if_icmp .ge 30, 3)) (List.mem_of_getElem? (i := 28) rfl)
theorem dX10_lookAround_54 : decode cX10_lookAround 54 = .ok (.iload_n 3, 1) := dgX10_lookAround_0 (54, (.iload_n 3, 1)) (List.mem_of_getElem? (i := 29) rfl)
theorem dX10_lookAround_55 : decode cX10_lookAround 55 = .ok (.iconst (-1), 1) := dgX10_lookAround_0 (55, (.iconst (-1), 1)) (List.mem_of_getElem? (i := 30) rfl)
theorem dX10_lookAround_56 : decode cX10_lookAround 56 = .ok (.if_icmp .eq 25, 3) := dgX10_lookAround_0 (56, (.if_icmp .eq 25, 3)) (List.mem_of_getElem? (i := 31) rfl)
theorem dX10_lookAround_59 : decode cX10_lookAround 59 = .ok (.aload_n 0, 1) := dgX10_lookAround_0 (59, (.aload_n 0, 1)) (List.mem_of_getElem? (i := 32) rfl)
theorem dX10_lookAround_60 : decode cX10_lookAround 60 = .ok (.getfield 19, 3) := dgX10_lookAround_0 (60, (.getfield 19, 3)) (List.mem_of_getElem? (i := 33) rfl)
theorem dX10_lookAround_63 : decode cX10_lookAround 63 = .ok (.iload_n 3, 1) := dgX10_lookAround_0 (63, (.iload_n 3, 1)) (List.mem_of_getElem? (i := 34) rfl)
theorem dX10_lookAround_64 : decode cX10_lookAround 64 = .ok (.iload 4, 2) := dgX10_lookAround_0 (64, (.iload 4, 2)) (List.mem_of_getElem? (i := 35) rfl)
theorem dX10_lookAround_66 : decode cX10_lookAround 66 = .ok (.iload_n 2, 1) := dgX10_lookAround_0 (66, (.iload_n 2, 1)) (List.mem_of_getElem? (i := 36) rfl)
theorem dX10_lookAround_67 : decode cX10_lookAround 67 = .ok (.iconst 0, 1) := dgX10_lookAround_0 (67, (.iconst 0, 1)) (List.mem_of_getElem? (i := 37) rfl)
theorem dX10_lookAround_68 : decode cX10_lookAround 68 = .ok (.invokevirtual 45, 3) := dgX10_lookAround_0 (68, (.invokevirtual 45, 3)) (List.mem_of_getElem? (i := 38) rfl)
theorem dX10_lookAround_71 : decode cX10_lookAround 71 = .ok (.aload_n 0, 1) := dgX10_lookAround_0 (71, (.aload_n 0, 1)) (List.mem_of_getElem? (i := 39) rfl)
theorem dgX10_lookAround_1 : ∀ r ∈ ([(72, (.invokevirtual 51, 3)), (75, (.iinc 4 1, 3)), (78, (.goto (-30), 3)), (81, (.iinc 2 1, 3)), (84, (.goto (-58), 3)), (87, (.iinc 1 1, 3)), (90, (.goto (-80), 3)), (93, (.return_, 1))] : List (Nat × (Instr × Nat))), decode cX10_lookAround r.1 = .ok r.2 := by decide +kernel
theorem dX10_lookAround_72 : decode cX10_lookAround 72 = .ok (.invokevirtual 51, 3) := dgX10_lookAround_1 (72, (.invokevirtual 51, 3)) (List.mem_of_getElem? (i := 0) rfl)
theorem dX10_lookAround_75 : decode cX10_lookAround 75 = .ok (.iinc 4 1, 3) := dgX10_lookAround_1 (75, (.iinc 4 1, 3)) (List.mem_of_getElem? (i := 1) rfl)
theorem dX10_lookAround_78 : decode cX10_lookAround 78 = .ok (.goto (-30), 3) := dgX10_lookAround_1 (78, (.goto (-30), 3)) (List.mem_of_getElem? (i := 2) rfl)
theorem dX10_lookAround_81 : decode cX10_lookAround 81 = .ok (.iinc 2 1, 3) := dgX10_lookAround_1 (81, (.iinc 2 1, 3)) (List.mem_of_getElem? (i := 3) rfl)
theorem dX10_lookAround_84 : decode cX10_lookAround 84 = .ok (.goto (-58), 3) := dgX10_lookAround_1 (84, (.goto (-58), 3)) (List.mem_of_getElem? (i := 4) rfl)
theorem dX10_lookAround_87 : decode cX10_lookAround 87 = .ok (.iinc 1 1, 3) := dgX10_lookAround_1 (87, (.iinc 1 1, 3)) (List.mem_of_getElem? (i := 5) rfl)
theorem dX10_lookAround_90 : decode cX10_lookAround 90 = .ok (.goto (-80), 3) := dgX10_lookAround_1 (90, (.goto (-80), 3)) (List.mem_of_getElem? (i := 6) rfl)
theorem dX10_lookAround_93 : decode cX10_lookAround 93 = .ok (.return_, 1) := dgX10_lookAround_1 (93, (.return_, 1)) (List.mem_of_getElem? (i := 7) rfl)
theorem ml_X10_23 : Cond.methodLink RX10 23 yJ7_fill_d0a16 ∈ tblG := tg 917 (by decide +kernel) (by decide +kernel)
theorem st_J7_fill_d0a16 : Cond.static yJ7_fill_d0a16 ∈ tblG := tg 918 (by decide +kernel) (by decide +kernel)
theorem ini_J7 : Cond.initialized RJ7 ∈ tblG := tg 105 (by decide +kernel) (by decide +kernel)
theorem cd_J7_fill_d0a16 : Cond.code yJ7_fill_d0a16 cJ7_fill_d0a16 5 none ∈ tblG := tg 919 (by decide +kernel) (by decide +kernel)
theorem gW_J7_fill_d0a16 : GoodIn tblG (wsG yJ7_fill_d0a16 cJ7_fill_d0a16 5 none) := tgi cd_J7_fill_d0a16
theorem gS_X10_23 : GoodIn tblG (va_wsS RX10 23 yJ7_fill_d0a16 (wsG yJ7_fill_d0a16 cJ7_fill_d0a16 5 none)) := tgS ml_X10_23 st_J7_fill_d0a16 ini_J7 gW_J7_fill_d0a16
theorem hs_J7_fill_d0a16 : yJ7_fill_d0a16.cls ≠ "java/lang/invoke/MethodHandle" ∧ yJ7_fill_d0a16.cls ≠ "java/lang/invoke/VarHandle" ∧ (parseMethodDescriptor yJ7_fill_d0a16.desc).map (fun d => d.parameters.length) = some 2 := by decide +kernel
theorem fl_X10_15 : Cond.fieldLink RX10 15 "LateGlass$Watch" "house" "LLateGlass$House;" ∈ tblG := tg 300 (by decide +kernel) (by decide +kernel)
theorem fl_X10_29 : Cond.fieldLink RX10 29 "LateGlass$House" "bodies" "LLateGlass$Table;" ∈ tblG := tg 174 (by decide +kernel) (by decide +kernel)
theorem fl_X10_35 : Cond.fieldLink RX10 35 "LateGlass$Table" "rows" "I" ∈ tblG := tg 139 (by decide +kernel) (by decide +kernel)
theorem ml_X10_41 : Cond.methodLink RX10 41 yX6_get ∈ tblG := tg 920 (by decide +kernel) (by decide +kernel)
theorem gV_X10_41 : GoodIn tblG (wsV RX10 41 RX6 yX6_get (wsG yX6_get cX6_get 3 (some .int))) := tgV ml_X10_41 im_X6_get se_X6_get ini_X6 gW_X6_get
theorem ml_X10_45 : Cond.methodLink RX10 45 yX5_run ∈ tblG := tg 921 (by decide +kernel) (by decide +kernel)
theorem gV_X10_45 : GoodIn tblG (wsV RX10 45 RX5 yX5_run (wsG yX5_run cX5_run 9 none)) := tgV ml_X10_45 im_X5_run se_X5_run ini_X5 gW_X5_run
theorem ml_X10_51 : Cond.methodLink RX10 51 yX10_addPoints ∈ tblG := tg 922 (by decide +kernel) (by decide +kernel)
theorem im_X10_addPoints : Cond.instanceMethod yX10_addPoints ∈ tblG := tg 924 (by decide +kernel) (by decide +kernel)
theorem se_X10_addPoints : Cond.selects RX10 yX10_addPoints yX10_addPoints ∈ tblG := tg 19 (by decide +kernel) (by decide +kernel)
theorem ini_X10 : Cond.initialized RX10 ∈ tblG := tg 93 (by decide +kernel) (by decide +kernel)
theorem cd_X10_addPoints : Cond.code yX10_addPoints cX10_addPoints 2 none ∈ tblG := tg 925 (by decide +kernel) (by decide +kernel)
theorem gW_X10_addPoints : GoodIn tblG (wsG yX10_addPoints cX10_addPoints 2 none) := tgi cd_X10_addPoints
theorem gV_X10_51 : GoodIn tblG (wsV RX10 51 RX10 yX10_addPoints (wsG yX10_addPoints cX10_addPoints 2 none)) := tgV ml_X10_51 im_X10_addPoints se_X10_addPoints ini_X10 gW_X10_addPoints
theorem hv_X10_addPoints : yX10_addPoints.cls = RX10 ∧ yX10_addPoints.cls ≠ "java/lang/invoke/MethodHandle" ∧ yX10_addPoints.cls ≠ "java/lang/invoke/VarHandle" ∧ (parseMethodDescriptor yX10_addPoints.desc).map (fun d => d.parameters.length) = some 0 := by decide +kernel
set_option maxHeartbeats 4000000 in
set_option maxRecDepth 100000 in
theorem w_lookAroundN (l : Launch) (G : g5_G) (a_k a_h a_g a_gn a_b a_bn a_p a_pn a_bb a_j a_as a_sk a_l a_pt a_wa a_bo a_s a_w : Nat) (sz : Nat) (e_le : Int32) (e_st : Int32) (e_fo : Int32) (e_lc : Int32) (e_g : Int32) (e_b : Int32) (e_p : Int32) (e_ln : Int32) (e_se : Int32) (e_lh : Int32) (e_br : Int32) (e_we : Int32) (e_me : Int32) (e_ce : Int32) (e_wy : Int32) (e_ho : Int32) (e_ov : Int32) (e_wa : Int64) (e_gb : Int64) (f_g : Nat → Int32) (f_b : Nat → Int32) (f_p : Nat → Int32) (f_bb : Nat → Int64) (f_as : Nat → Int32) (f_sk : Nat → Int64) (f_l : Nat → Option Nat) (f_pt : Nat → Int32) (f_bo : Nat → Int64) (h_e_g : 0 ≤ e_g.toInt ∧ e_g.toInt ≤ 6) (h_e_b : 0 ≤ e_b.toInt ∧ e_b.toInt ≤ 5) (h_e_p : 0 ≤ e_p.toInt ∧ e_p.toInt ≤ 8) (h_e_ov : 0 ≤ e_ov.toInt ∧ e_ov.toInt ≤ 1) (e_gk : gOK f_g e_g.toInt) (e_pk : gOK f_p e_p.toInt) (e_gi : inT e_gb f_g e_g.toInt) (e_f : e_fo.toInt < 0 ∨ e_lc.toInt ≤ e_fo.toInt) : Met l yX10_lookAround (wsG yX10_lookAround cX10_lookAround 5 none) ({ frames := 14, cells := 0, slots := 0, locals := 556 }) (va_Pc [.ref a_wa] (g5_P G [(a_k, (oc5 a_h a_j a_pt e_ln e_se e_lh e_br e_we e_me e_ce e_wy e_ho e_ov)), (a_h, (oc1 e_wa e_le e_st e_fo e_lc a_l a_g a_b a_s a_p a_w e_gb a_bb)), (a_g, (oc6 6 5 a_gn e_g)), (a_gn, (arI G 30 f_g)), (a_b, (oc6 5 24 a_bn e_b)), (a_bn, (arI G 120 f_b)), (a_p, (oc6 8 5 a_pn e_p)), (a_pn, (arI G 40 f_p)), (a_bb, (arJ G 24 f_bb)), (a_j, (oc2 a_as a_sk)), (a_as, (arI G 8 f_as)), (a_sk, (arJ G 50 f_sk)), (a_l, (arW G 6 f_l)), (a_pt, (arI G 200 f_pt)), (a_wa, (oc10 a_h a_k a_bo)), (a_bo, (arJ G 24 f_bo))] sz)) (va_Qv (fun (u : va_W) => (∃ (o_ln : Int32) (o_se : Int32) (o_lh : Int32) (o_br : Int32) (o_we : Int32) (o_me : Int32) (o_ce : Int32) (o_wy : Int32) (o_ho : Int32) (o_ov : Int32) (o_pt : Nat → Int32) (o_as : Nat → Int32) (o_sk : Nat → Int64) (o_bo : Nat → Int64), (0 ≤ o_ov.toInt ∧ o_ov.toInt ≤ 1) ∧ (u = [(a_k, (oc5 a_h a_j a_pt o_ln o_se o_lh o_br o_we o_me o_ce o_wy o_ho o_ov)), (a_h, (oc1 e_wa e_le e_st e_fo e_lc a_l a_g a_b a_s a_p a_w e_gb a_bb)), (a_g, (oc6 6 5 a_gn e_g)), (a_gn, (arI G 30 f_g)), (a_b, (oc6 5 24 a_bn e_b)), (a_bn, (arI G 120 f_b)), (a_p, (oc6 8 5 a_pn e_p)), (a_pn, (arI G 40 f_p)), (a_bb, (arJ G 24 f_bb)), (a_j, (oc2 a_as a_sk)), (a_as, (arI G 8 o_as)), (a_sk, (arJ G 50 o_sk)), (a_l, (arW G 6 f_l)), (a_pt, (arI G 200 o_pt)), (a_wa, (oc10 a_h a_k a_bo)), (a_bo, (arJ G 24 o_bo))]))) (g5_B G (va_A [(a_k, (oc5 a_h a_j a_pt e_ln e_se e_lh e_br e_we e_me e_ce e_wy e_ho e_ov)), (a_h, (oc1 e_wa e_le e_st e_fo e_lc a_l a_g a_b a_s a_p a_w e_gb a_bb)), (a_g, (oc6 6 5 a_gn e_g)), (a_gn, (arI G 30 f_g)), (a_b, (oc6 5 24 a_bn e_b)), (a_bn, (arI G 120 f_b)), (a_p, (oc6 8 5 a_pn e_p)), (a_pn, (arI G 40 f_p)), (a_bb, (arJ G 24 f_bb)), (a_j, (oc2 a_as a_sk)), (a_as, (arI G 8 f_as)), (a_sk, (arJ G 50 f_sk)), (a_l, (arW G 6 f_l)), (a_pt, (arI G 200 f_pt)), (a_wa, (oc10 a_h a_k a_bo)), (a_bo, (arJ G 24 f_bo))] sz)) (va_A [(a_k, (oc5 a_h a_j a_pt e_ln e_se e_lh e_br e_we e_me e_ce e_wy e_ho e_ov)), (a_h, (oc1 e_wa e_le e_st e_fo e_lc a_l a_g a_b a_s a_p a_w e_gb a_bb)), (a_g, (oc6 6 5 a_gn e_g)), (a_gn, (arI G 30 f_g)), (a_b, (oc6 5 24 a_bn e_b)), (a_bn, (arI G 120 f_b)), (a_p, (oc6 8 5 a_pn e_p)), (a_pn, (arI G 40 f_p)), (a_bb, (arJ G 24 f_bb)), (a_j, (oc2 a_as a_sk)), (a_as, (arI G 8 f_as)), (a_sk, (arJ G 50 f_sk)), (a_l, (arW G 6 f_l)), (a_pt, (arI G 200 f_pt)), (a_wa, (oc10 a_h a_k a_bo)), (a_bo, (arJ G 24 f_bo))] sz)) 0 0 (va_A [(a_k, (oc5 a_h a_j a_pt e_ln e_se e_lh e_br e_we e_me e_ce e_wy e_ho e_ov)), (a_h, (oc1 e_wa e_le e_st e_fo e_lc a_l a_g a_b a_s a_p a_w e_gb a_bb)), (a_g, (oc6 6 5 a_gn e_g)), (a_gn, (arI G 30 f_g)), (a_b, (oc6 5 24 a_bn e_b)), (a_bn, (arI G 120 f_b)), (a_p, (oc6 8 5 a_pn e_p)), (a_pn, (arI G 40 f_p)), (a_bb, (arJ G 24 f_bb)), (a_j, (oc2 a_as a_sk)), (a_as, (arI G 8 f_as)), (a_sk, (arJ G 50 f_sk)), (a_l, (arW G 6 f_l)), (a_pt, (arI G 200 f_pt)), (a_wa, (oc10 a_h a_k a_bo)), (a_bo, (arJ G 24 f_bo))] sz) := by
  refine Met.ofW (cc := cX10_lookAround) (maxL := 5) (ret := none) (by decide +kernel) rfl ?_
  intro p e s m args below meth c s₁ B hml hv
  obtain ⟨rfl, hsz, hP, hK, hD0, hN, hT⟩ := hv
  have hx := B.exec
  have hb := B.bytes
  have hr := B.returns
  have hts : ∀ w ∈ tblG, w.before _ s = true := fun w h => atoms_spec (ws := (wsG yX10_lookAround cX10_lookAround 5 none)) B.pre w (List.mem_cons_of_mem _ h)
  have hown : s.vm.findClass RX10 = some m.cls := findClass_of_methodNamed B.named
  have hlocks := B.notSynchronized
  subst hsz
  have hD := hD0.self (sz := s.heap.size)
  generalize hAe : va_A [(a_k, (oc5 a_h a_j a_pt e_ln e_se e_lh e_br e_we e_me e_ce e_wy e_ho e_ov)), (a_h, (oc1 e_wa e_le e_st e_fo e_lc a_l a_g a_b a_s a_p a_w e_gb a_bb)), (a_g, (oc6 6 5 a_gn e_g)), (a_gn, (arI G 30 f_g)), (a_b, (oc6 5 24 a_bn e_b)), (a_bn, (arI G 120 f_b)), (a_p, (oc6 8 5 a_pn e_p)), (a_pn, (arI G 40 f_p)), (a_bb, (arJ G 24 f_bb)), (a_j, (oc2 a_as a_sk)), (a_as, (arI G 8 f_as)), (a_sk, (arJ G 50 f_sk)), (a_l, (arW G 6 f_l)), (a_pt, (arI G 200 f_pt)), (a_wa, (oc10 a_h a_k a_bo)), (a_bo, (arJ G 24 f_bo))] s.heap.size = A at hD hT ⊢
  have hA : ∀ q : Nat, s.heap.size ≤ q → A q := fun q h => by rw [← hAe]; exact Or.inr h
  have hS : va_S A s.heap s.heap [] := va_S.rf
  replace hP : va_P G.1 vwCl [(a_k, (oc5 a_h a_j a_pt e_ln e_se e_lh e_br e_we e_me e_ce e_wy e_ho e_ov)), (a_h, (oc1 e_wa e_le e_st e_fo e_lc a_l a_g a_b a_s a_p a_w e_gb a_bb)), (a_g, (oc6 6 5 a_gn e_g)), (a_gn, (arI G 30 f_g)), (a_b, (oc6 5 24 a_bn e_b)), (a_bn, (arI G 120 f_b)), (a_p, (oc6 8 5 a_pn e_p)), (a_pn, (arI G 40 f_p)), (a_bb, (arJ G 24 f_bb)), (a_j, (oc2 a_as a_sk)), (a_as, (arI G 8 f_as)), (a_sk, (arJ G 50 f_sk)), (a_l, (arW G 6 f_l)), (a_pt, (arI G 200 f_pt)), (a_wa, (oc10 a_h a_k a_bo)), (a_bo, (arJ G 24 f_bo))] s.heap := hP
  have hl := lv_entry ([.ref a_wa]) (n := 5) (Nat.le_of_ble_eq_true rfl)
  rw [lg_entry_eq]
  generalize (lg_sl ([.ref a_wa]) ++ List.replicate (5 - (lg_sl ([.ref a_wa])).length) Slot.unset).toArray = ls at hl ⊢
  replace hl : lv_has ls 5 [(0, .ref a_wa)] := hl
  refine lv_aload_n hx hb dX10_lookAround_0 rfl (lv_at hl 0 rfl) ?_
  refine va_get (D := G.1) (ci := 10) (v := .ref a_bo) (C := RX10) (T := TX10) (N := 3) hx hb hts inG_X10 hown hK hP 14 rfl rfl 2 (by decide +kernel) (hts _ fl_X10_9) (fun _ h9 => h9) rfl dX10_lookAround_1 ?_
  refine lv_lconst (v := 0) hx hb dX10_lookAround_4 (by decide +kernel) ?_
  obtain ⟨hPc, hDc, hFc⟩ := g5_sub3 (wc := [(a_bo, (arJ G 24 f_bo))]) hP hD hS hA [15] (by decide +kernel) rfl
  refine va_callv (va_runS (As := [.ref a_bo, .long 0]) (rest := []) ⟨hx, hb, hml, hown, hts⟩ (k_fillJ24 l G a_bo s.heap.size 0 f_bo) (va_cwS 2 hts gS_X10_23 rfl rfl rfl hs_J7_fill_d0a16 ⟨Nat.le_of_ble_eq_true rfl, Nat.le_of_ble_eq_true rfl⟩) (g5_preS hPc hK hDc hN hT hS hFc) rfl rfl hl.1 rfl (lv_room (Nat.le_of_ble_eq_true rfl)) dX10_lookAround_5 ⟨Nat.le_of_ble_eq_true rfl, Nat.le_of_ble_eq_true rfl⟩) hS (fun q _ h => hFc q h) hFc (fun u t H locs ht hvm hw hB hz1 hk1 hS => ?_)
  obtain ⟨hP1, hD1⟩ := hB
  have hP1 := g5_ht ht hP1
  obtain rfl := hw
  have hJ9 := va_join (wr := [(a_k, (oc5 a_h a_j a_pt e_ln e_se e_lh e_br e_we e_me e_ce e_wy e_ho e_ov)), (a_h, (oc1 e_wa e_le e_st e_fo e_lc a_l a_g a_b a_s a_p a_w e_gb a_bb)), (a_g, (oc6 6 5 a_gn e_g)), (a_gn, (arI G 30 f_g)), (a_b, (oc6 5 24 a_bn e_b)), (a_bn, (arI G 120 f_b)), (a_p, (oc6 8 5 a_pn e_p)), (a_pn, (arI G 40 f_p)), (a_bb, (arJ G 24 f_bb)), (a_j, (oc2 a_as a_sk)), (a_as, (arI G 8 f_as)), (a_sk, (arJ G 50 f_sk)), (a_l, (arW G 6 f_l)), (a_pt, (arI G 200 f_pt)), (a_wa, (oc10 a_h a_k a_bo))]) hP hD [15] [0, 1, 2, 3, 4, 5, 6, 7, 8, 9, 10, 11, 12, 13, 14] rfl rfl (by decide +kernel) (by decide +kernel) hk1 hFc hP1 hD1
  clear hP hD hPc hDc hFc ht hvm hz1 hk1 hP1 hD1
  obtain ⟨hP, hD⟩ := hJ9
  refine g5_rs [(a_k, (oc5 a_h a_j a_pt e_ln e_se e_lh e_br e_we e_me e_ce e_wy e_ho e_ov)), (a_h, (oc1 e_wa e_le e_st e_fo e_lc a_l a_g a_b a_s a_p a_w e_gb a_bb)), (a_g, (oc6 6 5 a_gn e_g)), (a_gn, (arI G 30 f_g)), (a_b, (oc6 5 24 a_bn e_b)), (a_bn, (arI G 120 f_b)), (a_p, (oc6 8 5 a_pn e_p)), (a_pn, (arI G 40 f_p)), (a_bb, (arJ G 24 f_bb)), (a_j, (oc2 a_as a_sk)), (a_as, (arI G 8 f_as)), (a_sk, (arJ G 50 f_sk)), (a_l, (arW G 6 f_l)), (a_pt, (arI G 200 f_pt)), (a_wa, (oc10 a_h a_k a_bo)), (a_bo, (arJ G 24 (fun _ => 0)))] hP hD ?_
  clear hP hD
  intro hP hD
  refine W.eq (g2 := F0 m 8 ls []) rfl ?_
  refine lv_iconst (v := 0) hx hb dX10_lookAround_8 (by decide +kernel) ?_
  refine lv_istore_n (lv' := [(1, .int 0), (0, .ref a_wa)]) hx hb dX10_lookAround_9 rfl hl (by decide +kernel) rfl ?_
  clear hl
  intro ls hl
  refine g5_loop (α := (Int32) × (Int32) × (Int32) × (Int32) × (Int32) × (Int32) × (Int32) × (Int32) × (Int32) × (Int32) × (Nat → Int32) × (Nat → Int32) × (Nat → Int64) × (Int32) × (Nat → Int64)) (fun (q : (Int32) × (Int32) × (Int32) × (Int32) × (Int32) × (Int32) × (Int32) × (Int32) × (Int32) × (Int32) × (Nat → Int32) × (Nat → Int32) × (Nat → Int64) × (Int32) × (Nat → Int64)) (ls : Array Slot) (H : Heap) (locs : List Loc) => match q with | (k_q, k_se, k_lh, k_br, k_we, k_me, k_ce, k_wy, k_ho, k_ov, k_pt, k_as, k_sk, k_ln, k_bo) => lv_has ls 5 [(1, .int k_q), (0, .ref a_wa)] ∧ va_P G.1 vwCl [(a_k, (oc5 a_h a_j a_pt k_ln k_se k_lh k_br k_we k_me k_ce k_wy k_ho k_ov)), (a_h, (oc1 e_wa e_le e_st e_fo e_lc a_l a_g a_b a_s a_p a_w e_gb a_bb)), (a_g, (oc6 6 5 a_gn e_g)), (a_gn, (arI G 30 f_g)), (a_b, (oc6 5 24 a_bn e_b)), (a_bn, (arI G 120 f_b)), (a_p, (oc6 8 5 a_pn e_p)), (a_pn, (arI G 40 f_p)), (a_bb, (arJ G 24 f_bb)), (a_j, (oc2 a_as a_sk)), (a_as, (arI G 8 k_as)), (a_sk, (arJ G 50 k_sk)), (a_l, (arW G 6 f_l)), (a_pt, (arI G 200 k_pt)), (a_wa, (oc10 a_h a_k a_bo)), (a_bo, (arJ G 24 k_bo))] H ∧ va_D A [(a_k, (oc5 a_h a_j a_pt k_ln k_se k_lh k_br k_we k_me k_ce k_wy k_ho k_ov)), (a_h, (oc1 e_wa e_le e_st e_fo e_lc a_l a_g a_b a_s a_p a_w e_gb a_bb)), (a_g, (oc6 6 5 a_gn e_g)), (a_gn, (arI G 30 f_g)), (a_b, (oc6 5 24 a_bn e_b)), (a_bn, (arI G 120 f_b)), (a_p, (oc6 8 5 a_pn e_p)), (a_pn, (arI G 40 f_p)), (a_bb, (arJ G 24 f_bb)), (a_j, (oc2 a_as a_sk)), (a_as, (arI G 8 k_as)), (a_sk, (arJ G 50 k_sk)), (a_l, (arW G 6 f_l)), (a_pt, (arI G 200 k_pt)), (a_wa, (oc10 a_h a_k a_bo)), (a_bo, (arJ G 24 k_bo))] ∧ va_S A s.heap H locs ∧ (0 ≤ k_q.toInt ∧ k_q.toInt ≤ 5) ∧ (0 ≤ k_ov.toInt ∧ k_ov.toInt ≤ 1) ∧ (k_q.toInt ≤ e_b.toInt)) (fun (q : (Int32) × (Int32) × (Int32) × (Int32) × (Int32) × (Int32) × (Int32) × (Int32) × (Int32) × (Int32) × (Nat → Int32) × (Nat → Int32) × (Nat → Int64) × (Int32) × (Nat → Int64)) => match q with | (k_q, k_se, k_lh, k_br, k_we, k_me, k_ce, k_wy, k_ho, k_ov, k_pt, k_as, k_sk, k_ln, k_bo) => Int.toNat (5 - k_q.toInt)) (0, e_se, e_lh, e_br, e_we, e_me, e_ce, e_wy, e_ho, e_ov, f_pt, f_as, f_sk, e_ln, (fun _ => 0)) ⟨lv_sub hl [0, 1] rfl, hP, hD, hS, ⟨by decide, by decide⟩, h_e_ov, by have z0 : (0 : Int32).toInt = 0 := (by decide +kernel); omega⟩ ?_
  rintro ⟨k_q, k_se, k_lh, k_br, k_we, k_me, k_ce, k_wy, k_ho, k_ov, k_pt, k_as, k_sk, k_ln, k_bo⟩ ls H locs ⟨hl, hP, hD, hS, (i_1 : 0 ≤ k_q.toInt ∧ k_q.toInt ≤ 5), (i_2 : 0 ≤ k_ov.toInt ∧ k_ov.toInt ≤ 1), (i_3 : k_q.toInt ≤ e_b.toInt)⟩ ih_10_4
  replace hl : lv_has ls 5 [(1, .int k_q), (0, .ref a_wa)] := hl
  refine g5_rs [(a_k, (oc5 a_h a_j a_pt k_ln k_se k_lh k_br k_we k_me k_ce k_wy k_ho k_ov)), (a_h, (oc1 e_wa e_le e_st e_fo e_lc a_l a_g a_b a_s a_p a_w e_gb a_bb)), (a_g, (oc6 6 5 a_gn e_g)), (a_gn, (arI G 30 f_g)), (a_b, (oc6 5 24 a_bn e_b)), (a_bn, (arI G 120 f_b)), (a_p, (oc6 8 5 a_pn e_p)), (a_pn, (arI G 40 f_p)), (a_bb, (arJ G 24 f_bb)), (a_j, (oc2 a_as a_sk)), (a_as, (arI G 8 k_as)), (a_sk, (arJ G 50 k_sk)), (a_l, (arW G 6 f_l)), (a_pt, (arI G 200 k_pt)), (a_wa, (oc10 a_h a_k a_bo)), (a_bo, (arJ G 24 k_bo))] hP hD ?_
  clear hP hD
  intro hP hD
  refine lv_iload_n hx hb dX10_lookAround_10 rfl (lv_at hl 0 rfl) ?_
  refine lv_aload_n hx hb dX10_lookAround_11 rfl (lv_at hl 1 rfl) ?_
  refine va_get (D := G.1) (ci := 10) (v := .ref a_h) (C := RX10) (T := TX10) (N := 3) hx hb hts inG_X10 hown hK hP 14 rfl rfl 0 (by decide +kernel) (hts _ fl_X10_15) (fun _ h9 => h9) rfl dX10_lookAround_12 ?_
  refine va_get (D := G.1) (ci := 1) (v := .ref a_b) (C := RX1) (T := TX1) (N := 13) hx hb hts inG_X1 hown hK hP 1 rfl rfl 7 (by decide +kernel) (hts _ fl_X10_29) (fun _ h9 => h9) rfl dX10_lookAround_15 ?_
  refine W.eq (g2 := F0 m 18 ls [.ref a_b, .int k_q]) rfl ?_
  refine va_get (D := G.1) (ci := 6) (v := .int e_b) (C := RX6) (T := TX6) (N := 4) hx hb hts inG_X6 hown hK hP 4 rfl rfl 3 (by decide +kernel) (hts _ fl_X10_35) (fun _ h9 => h9) rfl dX10_lookAround_18 ?_
  refine lv_icmp_ge (tgt := 93) hx hb dX10_lookAround_21 (by decide +kernel) (fun c_5 => ?_) (fun c_5 => ?_)
  ·
    have i_5 : k_q.toInt ≥ e_b.toInt := g5_ge (a := k_q.toInt) (b := e_b.toInt) rfl rfl c_5
    exact W.vret hx hb hr (fun t ht hW => ⟨⟨[(a_k, (oc5 a_h a_j a_pt k_ln k_se k_lh k_br k_we k_me k_ce k_wy k_ho k_ov)), (a_h, (oc1 e_wa e_le e_st e_fo e_lc a_l a_g a_b a_s a_p a_w e_gb a_bb)), (a_g, (oc6 6 5 a_gn e_g)), (a_gn, (arI G 30 f_g)), (a_b, (oc6 5 24 a_bn e_b)), (a_bn, (arI G 120 f_b)), (a_p, (oc6 8 5 a_pn e_p)), (a_pn, (arI G 40 f_p)), (a_bb, (arJ G 24 f_bb)), (a_j, (oc2 a_as a_sk)), (a_as, (arI G 8 k_as)), (a_sk, (arJ G 50 k_sk)), (a_l, (arW G 6 f_l)), (a_pt, (arI G 200 k_pt)), (a_wa, (oc10 a_h a_k a_bo)), (a_bo, (arJ G 24 k_bo))], rfl, ⟨k_ln, k_se, k_lh, k_br, k_we, k_me, k_ce, k_wy, k_ho, k_ov, k_pt, k_as, k_sk, k_bo, i_2, rfl⟩, by rw [ht]; exact hP.sub [0, 1, 2, 3, 4, 5, 6, 7, 8, 9, 10, 11, 12, 13, 14, 15] rfl, hD.sub [0, 1, 2, 3, 4, 5, 6, 7, 8, 9, 10, 11, 12, 13, 14, 15] (by decide +kernel) rfl⟩, hS.F ht⟩) hS.2.2 dX10_lookAround_93
  ·
    have i_5 : k_q.toInt < e_b.toInt := g5_geN (a := k_q.toInt) (b := e_b.toInt) rfl rfl c_5
    refine lv_iconst (v := 0) hx hb dX10_lookAround_24 (by decide +kernel) ?_
    refine lv_istore_n (lv' := [(2, .int 0), (1, .int k_q), (0, .ref a_wa)]) hx hb dX10_lookAround_25 rfl hl (by decide +kernel) rfl ?_
    clear hl
    intro ls hl
    refine g5_loop (α := (Int32) × (Int32) × (Int32) × (Int32) × (Int32) × (Int32) × (Int32) × (Int32) × (Int32) × (Int32) × (Nat → Int32) × (Nat → Int32) × (Nat → Int64) × (Int32) × (Nat → Int64)) (fun (q : (Int32) × (Int32) × (Int32) × (Int32) × (Int32) × (Int32) × (Int32) × (Int32) × (Int32) × (Int32) × (Nat → Int32) × (Nat → Int32) × (Nat → Int64) × (Int32) × (Nat → Int64)) (ls : Array Slot) (H : Heap) (locs : List Loc) => match q with | (m_q, m_se, m_lh, m_br, m_we, m_me, m_ce, m_wy, m_ho, m_ov, m_pt, m_as, m_sk, m_ln, m_bo) => lv_has ls 5 [(2, .int m_q), (1, .int k_q), (0, .ref a_wa)] ∧ va_P G.1 vwCl [(a_k, (oc5 a_h a_j a_pt m_ln m_se m_lh m_br m_we m_me m_ce m_wy m_ho m_ov)), (a_h, (oc1 e_wa e_le e_st e_fo e_lc a_l a_g a_b a_s a_p a_w e_gb a_bb)), (a_g, (oc6 6 5 a_gn e_g)), (a_gn, (arI G 30 f_g)), (a_b, (oc6 5 24 a_bn e_b)), (a_bn, (arI G 120 f_b)), (a_p, (oc6 8 5 a_pn e_p)), (a_pn, (arI G 40 f_p)), (a_bb, (arJ G 24 f_bb)), (a_j, (oc2 a_as a_sk)), (a_as, (arI G 8 m_as)), (a_sk, (arJ G 50 m_sk)), (a_l, (arW G 6 f_l)), (a_pt, (arI G 200 m_pt)), (a_wa, (oc10 a_h a_k a_bo)), (a_bo, (arJ G 24 m_bo))] H ∧ va_D A [(a_k, (oc5 a_h a_j a_pt m_ln m_se m_lh m_br m_we m_me m_ce m_wy m_ho m_ov)), (a_h, (oc1 e_wa e_le e_st e_fo e_lc a_l a_g a_b a_s a_p a_w e_gb a_bb)), (a_g, (oc6 6 5 a_gn e_g)), (a_gn, (arI G 30 f_g)), (a_b, (oc6 5 24 a_bn e_b)), (a_bn, (arI G 120 f_b)), (a_p, (oc6 8 5 a_pn e_p)), (a_pn, (arI G 40 f_p)), (a_bb, (arJ G 24 f_bb)), (a_j, (oc2 a_as a_sk)), (a_as, (arI G 8 m_as)), (a_sk, (arJ G 50 m_sk)), (a_l, (arW G 6 f_l)), (a_pt, (arI G 200 m_pt)), (a_wa, (oc10 a_h a_k a_bo)), (a_bo, (arJ G 24 m_bo))] ∧ va_S A s.heap H locs ∧ (0 ≤ m_q.toInt ∧ m_q.toInt ≤ 24) ∧ (0 ≤ m_ov.toInt ∧ m_ov.toInt ≤ 1)) (fun (q : (Int32) × (Int32) × (Int32) × (Int32) × (Int32) × (Int32) × (Int32) × (Int32) × (Int32) × (Int32) × (Nat → Int32) × (Nat → Int32) × (Nat → Int64) × (Int32) × (Nat → Int64)) => match q with | (m_q, m_se, m_lh, m_br, m_we, m_me, m_ce, m_wy, m_ho, m_ov, m_pt, m_as, m_sk, m_ln, m_bo) => Int.toNat (24 - m_q.toInt)) (0, k_se, k_lh, k_br, k_we, k_me, k_ce, k_wy, k_ho, k_ov, k_pt, k_as, k_sk, k_ln, k_bo) ⟨lv_sub hl [0, 1, 2] rfl, hP, hD, hS, ⟨by decide, by decide⟩, i_2⟩ ?_
    rintro ⟨m_q, m_se, m_lh, m_br, m_we, m_me, m_ce, m_wy, m_ho, m_ov, m_pt, m_as, m_sk, m_ln, m_bo⟩ ls H locs ⟨hl, hP, hD, hS, (i_6 : 0 ≤ m_q.toInt ∧ m_q.toInt ≤ 24), (i_7 : 0 ≤ m_ov.toInt ∧ m_ov.toInt ≤ 1)⟩ ih_26_8
    replace hl : lv_has ls 5 [(2, .int m_q), (1, .int k_q), (0, .ref a_wa)] := hl
    refine g5_rs [(a_k, (oc5 a_h a_j a_pt m_ln m_se m_lh m_br m_we m_me m_ce m_wy m_ho m_ov)), (a_h, (oc1 e_wa e_le e_st e_fo e_lc a_l a_g a_b a_s a_p a_w e_gb a_bb)), (a_g, (oc6 6 5 a_gn e_g)), (a_gn, (arI G 30 f_g)), (a_b, (oc6 5 24 a_bn e_b)), (a_bn, (arI G 120 f_b)), (a_p, (oc6 8 5 a_pn e_p)), (a_pn, (arI G 40 f_p)), (a_bb, (arJ G 24 f_bb)), (a_j, (oc2 a_as a_sk)), (a_as, (arI G 8 m_as)), (a_sk, (arJ G 50 m_sk)), (a_l, (arW G 6 f_l)), (a_pt, (arI G 200 m_pt)), (a_wa, (oc10 a_h a_k a_bo)), (a_bo, (arJ G 24 m_bo))] hP hD ?_
    clear hP hD
    intro hP hD
    refine lv_iload_n hx hb dX10_lookAround_26 rfl (lv_at hl 0 rfl) ?_
    refine lv_bipush (v := 24) hx hb dX10_lookAround_27 (by decide +kernel) ?_
    refine lv_icmp_ge (tgt := 87) hx hb dX10_lookAround_29 (by decide +kernel) (fun c_9 => ?_) (fun c_9 => ?_)
    ·
      have i_9 : m_q.toInt ≥ 24 := g5_ge (a := m_q.toInt) (b := 24) rfl (by decide +kernel) c_9
      refine lv_iinc (v := (k_q + 1)) (lv' := [(1, .int (k_q + 1)), (2, .int m_q), (0, .ref a_wa)]) hx hb dX10_lookAround_87 hl (k := 1) rfl rfl (by decide +kernel) rfl ?_
      clear hl
      intro ls hl
      have t_10 : (k_q + 1).toInt = k_q.toInt + 1 := g5_iadd (a := k_q.toInt) (b := 1) rfl (by decide +kernel) (by omega) (by omega)
      refine lv_goto (tgt := 10) hx hb dX10_lookAround_90 (by decide +kernel) ?_
      exact ih_10_4 ((k_q + 1), m_se, m_lh, m_br, m_we, m_me, m_ce, m_wy, m_ho, m_ov, m_pt, m_as, m_sk, m_ln, m_bo) ls H locs (show Int.toNat (5 - (k_q + 1).toInt) < Int.toNat (5 - k_q.toInt) from g_up (show k_q.toInt < (k_q + 1).toInt by omega) (show k_q.toInt < 5 by omega)) ⟨lv_sub hl [0, 2] rfl, hP, hD, hS, ⟨by omega, by omega⟩, i_7, by omega⟩
    ·
      have i_9 : m_q.toInt < 24 := g5_geN (a := m_q.toInt) (b := 24) rfl (by decide +kernel) c_9
      refine lv_aload_n hx hb dX10_lookAround_32 rfl (lv_at hl 2 rfl) ?_
      refine va_get (D := G.1) (ci := 10) (v := .ref a_h) (C := RX10) (T := TX10) (N := 3) hx hb hts inG_X10 hown hK hP 14 rfl rfl 0 (by decide +kernel) (hts _ fl_X10_15) (fun _ h9 => h9) rfl dX10_lookAround_33 ?_
      refine va_get (D := G.1) (ci := 1) (v := .ref a_b) (C := RX1) (T := TX1) (N := 13) hx hb hts inG_X1 hown hK hP 1 rfl rfl 7 (by decide +kernel) (hts _ fl_X10_29) (fun _ h9 => h9) rfl dX10_lookAround_36 ?_
      refine lv_iload_n hx hb dX10_lookAround_39 rfl (lv_at hl 1 rfl) ?_
      refine W.eq (g2 := F0 m 40 ls [.int k_q, .ref a_b]) rfl ?_
      refine lv_iload_n hx hb dX10_lookAround_40 rfl (lv_at hl 0 rfl) ?_
      obtain ⟨hPc, hDc, hFc⟩ := g5_sub3 (wc := [(a_b, (oc6 5 24 a_bn e_b)), (a_bn, (arI G 120 f_b))]) hP hD hS hA [4, 5] (by decide +kernel) rfl
      refine va_calli (va_runV (As := [.int k_q, .int m_q]) (rest := []) ⟨hx, hb, hml, hown, hts⟩ (t_get_B l G a_b a_bn H.size e_b k_q m_q f_b h_e_b) (cwV 2 hts gV_X10_41 rfl rfl rfl hv_X6_get ⟨Nat.le_of_ble_eq_true rfl, Nat.le_of_ble_eq_true rfl⟩) (g5_preV hPc hK hDc hN hT hS hFc (ci := 6) (q0 := 0) rfl rfl) rfl rfl hl.1 rfl (lv_room (Nat.le_of_ble_eq_true rfl)) dX10_lookAround_41 ⟨Nat.le_of_ble_eq_true rfl, Nat.le_of_ble_eq_true rfl⟩) hS (fun q _ h => hFc q h) hFc (fun r u t H locs ht hvm hw hB hz1 hk1 hS => ?_)
      obtain ⟨hP1, hD1⟩ := hB
      have hP1 := g5_ht ht hP1
      obtain ⟨z12, (i_11 : z12 = tget f_b e_b.toInt 24 k_q.toInt m_q.toInt), y13, rfl⟩ := hw
      have hJ9 := va_join (wr := [(a_k, (oc5 a_h a_j a_pt m_ln m_se m_lh m_br m_we m_me m_ce m_wy m_ho m_ov)), (a_h, (oc1 e_wa e_le e_st e_fo e_lc a_l a_g a_b a_s a_p a_w e_gb a_bb)), (a_g, (oc6 6 5 a_gn e_g)), (a_gn, (arI G 30 f_g)), (a_p, (oc6 8 5 a_pn e_p)), (a_pn, (arI G 40 f_p)), (a_bb, (arJ G 24 f_bb)), (a_j, (oc2 a_as a_sk)), (a_as, (arI G 8 m_as)), (a_sk, (arJ G 50 m_sk)), (a_l, (arW G 6 f_l)), (a_pt, (arI G 200 m_pt)), (a_wa, (oc10 a_h a_k a_bo)), (a_bo, (arJ G 24 m_bo))]) hP hD [4, 5] [0, 1, 2, 3, 6, 7, 8, 9, 10, 11, 12, 13, 14, 15] rfl rfl (by decide +kernel) (by decide +kernel) hk1 hFc hP1 hD1
      clear hP hD hPc hDc hFc ht hvm hz1 hk1 hP1 hD1
      obtain ⟨hP, hD⟩ := hJ9
      refine g5_rs [(a_k, (oc5 a_h a_j a_pt m_ln m_se m_lh m_br m_we m_me m_ce m_wy m_ho m_ov)), (a_h, (oc1 e_wa e_le e_st e_fo e_lc a_l a_g a_b a_s a_p a_w e_gb a_bb)), (a_g, (oc6 6 5 a_gn e_g)), (a_gn, (arI G 30 f_g)), (a_p, (oc6 8 5 a_pn e_p)), (a_pn, (arI G 40 f_p)), (a_bb, (arJ G 24 f_bb)), (a_j, (oc2 a_as a_sk)), (a_as, (arI G 8 m_as)), (a_sk, (arJ G 50 m_sk)), (a_l, (arW G 6 f_l)), (a_pt, (arI G 200 m_pt)), (a_wa, (oc10 a_h a_k a_bo)), (a_bo, (arJ G 24 m_bo)), (a_b, (oc6 5 24 a_bn e_b)), (a_bn, (arI G 120 f_b))] hP hD ?_
      clear hP hD
      intro hP hD
      refine g5_ti (v := z12) y13 ?_
      refine lv_istore_n (lv' := [(3, .int z12), (2, .int m_q), (1, .int k_q), (0, .ref a_wa)]) hx hb dX10_lookAround_44 rfl hl (by decide +kernel) rfl ?_
      clear hl
      intro ls hl
      refine lv_iconst (v := 0) hx hb dX10_lookAround_45 (by decide +kernel) ?_
      refine lv_istore (lv' := [(4, .int 0), (3, .int z12), (2, .int m_q), (1, .int k_q), (0, .ref a_wa)]) hx hb dX10_lookAround_46 hl (by decide +kernel) rfl ?_
      clear hl
      intro ls hl
      refine g5_loop (α := (Int32) × (Int32) × (Int32) × (Int32) × (Int32) × (Int32) × (Int32) × (Int32) × (Int32) × (Int32) × (Nat → Int32) × (Nat → Int32) × (Nat → Int64) × (Int32) × (Nat → Int64)) (fun (q : (Int32) × (Int32) × (Int32) × (Int32) × (Int32) × (Int32) × (Int32) × (Int32) × (Int32) × (Int32) × (Nat → Int32) × (Nat → Int32) × (Nat → Int64) × (Int32) × (Nat → Int64)) (ls : Array Slot) (H : Heap) (locs : List Loc) => match q with | (n_q, n_se, n_lh, n_br, n_we, n_me, n_ce, n_wy, n_ho, n_ov, n_pt, n_as, n_sk, n_ln, n_bo) => lv_has ls 5 [(4, .int n_q), (3, .int z12), (2, .int m_q), (1, .int k_q), (0, .ref a_wa)] ∧ va_P G.1 vwCl [(a_k, (oc5 a_h a_j a_pt n_ln n_se n_lh n_br n_we n_me n_ce n_wy n_ho n_ov)), (a_h, (oc1 e_wa e_le e_st e_fo e_lc a_l a_g a_b a_s a_p a_w e_gb a_bb)), (a_g, (oc6 6 5 a_gn e_g)), (a_gn, (arI G 30 f_g)), (a_p, (oc6 8 5 a_pn e_p)), (a_pn, (arI G 40 f_p)), (a_bb, (arJ G 24 f_bb)), (a_j, (oc2 a_as a_sk)), (a_as, (arI G 8 n_as)), (a_sk, (arJ G 50 n_sk)), (a_l, (arW G 6 f_l)), (a_pt, (arI G 200 n_pt)), (a_wa, (oc10 a_h a_k a_bo)), (a_bo, (arJ G 24 n_bo)), (a_b, (oc6 5 24 a_bn e_b)), (a_bn, (arI G 120 f_b))] H ∧ va_D A [(a_k, (oc5 a_h a_j a_pt n_ln n_se n_lh n_br n_we n_me n_ce n_wy n_ho n_ov)), (a_h, (oc1 e_wa e_le e_st e_fo e_lc a_l a_g a_b a_s a_p a_w e_gb a_bb)), (a_g, (oc6 6 5 a_gn e_g)), (a_gn, (arI G 30 f_g)), (a_p, (oc6 8 5 a_pn e_p)), (a_pn, (arI G 40 f_p)), (a_bb, (arJ G 24 f_bb)), (a_j, (oc2 a_as a_sk)), (a_as, (arI G 8 n_as)), (a_sk, (arJ G 50 n_sk)), (a_l, (arW G 6 f_l)), (a_pt, (arI G 200 n_pt)), (a_wa, (oc10 a_h a_k a_bo)), (a_bo, (arJ G 24 n_bo)), (a_b, (oc6 5 24 a_bn e_b)), (a_bn, (arI G 120 f_b))] ∧ va_S A s.heap H locs ∧ (0 ≤ n_q.toInt ∧ n_q.toInt ≤ 4) ∧ (0 ≤ n_ov.toInt ∧ n_ov.toInt ≤ 1)) (fun (q : (Int32) × (Int32) × (Int32) × (Int32) × (Int32) × (Int32) × (Int32) × (Int32) × (Int32) × (Int32) × (Nat → Int32) × (Nat → Int32) × (Nat → Int64) × (Int32) × (Nat → Int64)) => match q with | (n_q, n_se, n_lh, n_br, n_we, n_me, n_ce, n_wy, n_ho, n_ov, n_pt, n_as, n_sk, n_ln, n_bo) => Int.toNat (4 - n_q.toInt)) (0, m_se, m_lh, m_br, m_we, m_me, m_ce, m_wy, m_ho, m_ov, m_pt, m_as, m_sk, m_ln, m_bo) ⟨lv_sub hl [0, 1, 2, 3, 4] rfl, hP, hD, hS, ⟨by decide, by decide⟩, i_7⟩ ?_
      rintro ⟨n_q, n_se, n_lh, n_br, n_we, n_me, n_ce, n_wy, n_ho, n_ov, n_pt, n_as, n_sk, n_ln, n_bo⟩ ls H locs ⟨hl, hP, hD, hS, (i_14 : 0 ≤ n_q.toInt ∧ n_q.toInt ≤ 4), (i_15 : 0 ≤ n_ov.toInt ∧ n_ov.toInt ≤ 1)⟩ ih_48_16
      replace hl : lv_has ls 5 [(4, .int n_q), (3, .int z12), (2, .int m_q), (1, .int k_q), (0, .ref a_wa)] := hl
      refine g5_rs [(a_k, (oc5 a_h a_j a_pt n_ln n_se n_lh n_br n_we n_me n_ce n_wy n_ho n_ov)), (a_h, (oc1 e_wa e_le e_st e_fo e_lc a_l a_g a_b a_s a_p a_w e_gb a_bb)), (a_g, (oc6 6 5 a_gn e_g)), (a_gn, (arI G 30 f_g)), (a_p, (oc6 8 5 a_pn e_p)), (a_pn, (arI G 40 f_p)), (a_bb, (arJ G 24 f_bb)), (a_j, (oc2 a_as a_sk)), (a_as, (arI G 8 n_as)), (a_sk, (arJ G 50 n_sk)), (a_l, (arW G 6 f_l)), (a_pt, (arI G 200 n_pt)), (a_wa, (oc10 a_h a_k a_bo)), (a_bo, (arJ G 24 n_bo)), (a_b, (oc6 5 24 a_bn e_b)), (a_bn, (arI G 120 f_b))] hP hD ?_
      clear hP hD
      intro hP hD
      refine lv_iload hx hb dX10_lookAround_48 (lv_at hl 0 rfl) ?_
      refine lv_iconst (v := 4) hx hb dX10_lookAround_50 (by decide +kernel) ?_
      refine lv_icmp_ge (tgt := 81) hx hb dX10_lookAround_51 (by decide +kernel) (fun c_17 => ?_) (fun c_17 => ?_)
      ·
        have i_17 : n_q.toInt ≥ 4 := g5_ge (a := n_q.toInt) (b := 4) rfl (by decide +kernel) c_17
        refine lv_iinc (v := (m_q + 1)) (lv' := [(2, .int (m_q + 1)), (4, .int n_q), (3, .int z12), (1, .int k_q), (0, .ref a_wa)]) hx hb dX10_lookAround_81 hl (k := 2) rfl rfl (by decide +kernel) rfl ?_
        clear hl
        intro ls hl
        have t_18 : (m_q + 1).toInt = m_q.toInt + 1 := g5_iadd (a := m_q.toInt) (b := 1) rfl (by decide +kernel) (by omega) (by omega)
        refine lv_goto (tgt := 26) hx hb dX10_lookAround_84 (by decide +kernel) ?_
        exact ih_26_8 ((m_q + 1), n_se, n_lh, n_br, n_we, n_me, n_ce, n_wy, n_ho, n_ov, n_pt, n_as, n_sk, n_ln, n_bo) ls H locs (show Int.toNat (24 - (m_q + 1).toInt) < Int.toNat (24 - m_q.toInt) from g_up (show m_q.toInt < (m_q + 1).toInt by omega) (show m_q.toInt < 24 by omega)) ⟨lv_sub hl [0, 3, 4] rfl, hP.sub [0, 1, 2, 3, 14, 15, 4, 5, 6, 7, 8, 9, 10, 11, 12, 13] rfl, hD.sub [0, 1, 2, 3, 14, 15, 4, 5, 6, 7, 8, 9, 10, 11, 12, 13] (by decide +kernel) rfl, hS, ⟨by omega, by omega⟩, i_15⟩
      ·
        have i_17 : n_q.toInt < 4 := g5_geN (a := n_q.toInt) (b := 4) rfl (by decide +kernel) c_17
        refine lv_iload_n hx hb dX10_lookAround_54 rfl (lv_at hl 1 rfl) ?_
        refine lv_iconst (v := (-1)) hx hb dX10_lookAround_55 (by decide +kernel) ?_
        refine lv_icmp_eq (tgt := 81) hx hb dX10_lookAround_56 (by decide +kernel) (fun c_19 => ?_) (fun c_19 => ?_)
        ·
          have i_19 : z12.toInt = (-1) := g5_eq (a := z12.toInt) (b := (-1)) rfl (by decide +kernel) c_19
          refine lv_iinc (v := (m_q + 1)) (lv' := [(2, .int (m_q + 1)), (4, .int n_q), (3, .int z12), (1, .int k_q), (0, .ref a_wa)]) hx hb dX10_lookAround_81 hl (k := 2) rfl rfl (by decide +kernel) rfl ?_
          clear hl
          intro ls hl
          have t_20 : (m_q + 1).toInt = m_q.toInt + 1 := g5_iadd (a := m_q.toInt) (b := 1) rfl (by decide +kernel) (by omega) (by omega)
          refine lv_goto (tgt := 26) hx hb dX10_lookAround_84 (by decide +kernel) ?_
          exact ih_26_8 ((m_q + 1), n_se, n_lh, n_br, n_we, n_me, n_ce, n_wy, n_ho, n_ov, n_pt, n_as, n_sk, n_ln, n_bo) ls H locs (show Int.toNat (24 - (m_q + 1).toInt) < Int.toNat (24 - m_q.toInt) from g_up (show m_q.toInt < (m_q + 1).toInt by omega) (show m_q.toInt < 24 by omega)) ⟨lv_sub hl [0, 3, 4] rfl, hP.sub [0, 1, 2, 3, 14, 15, 4, 5, 6, 7, 8, 9, 10, 11, 12, 13] rfl, hD.sub [0, 1, 2, 3, 14, 15, 4, 5, 6, 7, 8, 9, 10, 11, 12, 13] (by decide +kernel) rfl, hS, ⟨by omega, by omega⟩, i_15⟩
        ·
          have n_19 : gNe (z12.toInt) ((-1)) := g5_eqN (a := z12.toInt) (b := (-1)) rfl (by decide +kernel) c_19
          refine lv_aload_n hx hb dX10_lookAround_59 rfl (lv_at hl 4 rfl) ?_
          refine va_get (D := G.1) (ci := 10) (v := .ref a_k) (C := RX10) (T := TX10) (N := 3) hx hb hts inG_X10 hown hK hP 12 rfl rfl 1 (by decide +kernel) (hts _ fl_X10_19) (fun _ h9 => h9) rfl dX10_lookAround_60 ?_
          refine lv_iload_n hx hb dX10_lookAround_63 rfl (lv_at hl 1 rfl) ?_
          refine lv_iload hx hb dX10_lookAround_64 (lv_at hl 0 rfl) ?_
          refine W.eq (g2 := F0 m 66 ls [.int n_q, .int z12, .ref a_k]) rfl ?_
          refine lv_iload_n hx hb dX10_lookAround_66 rfl (lv_at hl 2 rfl) ?_
          refine lv_iconst (v := 0) hx hb dX10_lookAround_67 (by decide +kernel) ?_
          obtain ⟨hPc, hDc, hFc⟩ := g5_sub3 (wc := [(a_k, (oc5 a_h a_j a_pt n_ln n_se n_lh n_br n_we n_me n_ce n_wy n_ho n_ov)), (a_h, (oc1 e_wa e_le e_st e_fo e_lc a_l a_g a_b a_s a_p a_w e_gb a_bb)), (a_g, (oc6 6 5 a_gn e_g)), (a_gn, (arI G 30 f_g)), (a_b, (oc6 5 24 a_bn e_b)), (a_bn, (arI G 120 f_b)), (a_p, (oc6 8 5 a_pn e_p)), (a_pn, (arI G 40 f_p)), (a_bb, (arJ G 24 f_bb)), (a_j, (oc2 a_as a_sk)), (a_as, (arI G 8 n_as)), (a_sk, (arJ G 50 n_sk)), (a_l, (arW G 6 f_l)), (a_pt, (arI G 200 n_pt))]) hP hD hS hA [0, 1, 2, 3, 14, 15, 4, 5, 6, 7, 8, 9, 10, 11] (by decide +kernel) rfl
          refine va_callv (va_runV (As := [.int z12, .int n_q, .int m_q, .int 0]) (rest := []) ⟨hx, hb, hml, hown, hts⟩ (k_runN l G a_k a_h a_g a_gn a_b a_bn a_p a_pn a_bb a_j a_as a_sk a_l a_pt a_s a_w H.size e_le e_st e_fo e_lc e_g e_b e_p n_ln n_se n_lh n_br n_we n_me n_ce n_wy n_ho n_ov z12 n_q m_q 0 e_wa e_gb f_g f_b f_p f_bb n_as n_sk f_l n_pt h_e_g h_e_b h_e_p i_15 (e_gk) (e_pk) (e_gi) (e_f)) (cwV 4 hts gV_X10_45 rfl rfl rfl hv_X5_run ⟨Nat.le_of_ble_eq_true rfl, Nat.le_of_ble_eq_true rfl⟩) (g5_preV hPc hK hDc hN hT hS hFc (ci := 5) (q0 := 0) rfl rfl) rfl rfl hl.1 rfl (lv_room (Nat.le_of_ble_eq_true rfl)) dX10_lookAround_68 ⟨Nat.le_of_ble_eq_true rfl, Nat.le_of_ble_eq_true rfl⟩) hS (fun q _ h => hFc q h) hFc (fun u t H locs ht hvm hw hB hz1 hk1 hS => ?_)
          obtain ⟨hP1, hD1⟩ := hB
          have hP1 := g5_ht ht hP1
          obtain ⟨z24, z25, z26, z27, z28, z29, z30, z31, z32, z33, z34, z35, z36, (i_21 : 0 ≤ z24.toInt ∧ z24.toInt ≤ 200), (i_22 : 0 ≤ z33.toInt ∧ z33.toInt ≤ 1), (i_23 : ∀ j : Nat, (j : Int) < z24.toInt → 0 ≤ (z34 j).toInt ∧ (z34 j).toInt ≤ 1535), rfl⟩ := hw
          have hJ9 := va_join (wr := [(a_wa, (oc10 a_h a_k a_bo)), (a_bo, (arJ G 24 n_bo))]) hP hD [0, 1, 2, 3, 14, 15, 4, 5, 6, 7, 8, 9, 10, 11] [12, 13] rfl rfl (by decide +kernel) (by decide +kernel) hk1 hFc hP1 hD1
          clear hP hD hPc hDc hFc ht hvm hz1 hk1 hP1 hD1
          obtain ⟨hP, hD⟩ := hJ9
          refine g5_rs [(a_wa, (oc10 a_h a_k a_bo)), (a_bo, (arJ G 24 n_bo)), (a_k, (oc5 a_h a_j a_pt z24 z25 z26 z27 z28 z29 z30 z31 z32 z33)), (a_h, (oc1 e_wa e_le e_st e_fo e_lc a_l a_g a_b a_s a_p a_w e_gb a_bb)), (a_g, (oc6 6 5 a_gn e_g)), (a_gn, (arI G 30 f_g)), (a_b, (oc6 5 24 a_bn e_b)), (a_bn, (arI G 120 f_b)), (a_p, (oc6 8 5 a_pn e_p)), (a_pn, (arI G 40 f_p)), (a_bb, (arJ G 24 f_bb)), (a_j, (oc2 a_as a_sk)), (a_as, (arI G 8 z35)), (a_sk, (arJ G 50 z36)), (a_l, (arW G 6 f_l)), (a_pt, (arI G 200 z34))] hP hD ?_
          clear hP hD
          intro hP hD
          refine lv_aload_n hx hb dX10_lookAround_71 rfl (lv_at hl 4 rfl) ?_
          obtain ⟨hPc, hDc, hFc⟩ := g5_sub3 (wc := [(a_wa, (oc10 a_h a_k a_bo)), (a_k, (oc5 a_h a_j a_pt z24 z25 z26 z27 z28 z29 z30 z31 z32 z33)), (a_pt, (arI G 200 z34)), (a_bo, (arJ G 24 n_bo))]) hP hD hS hA [0, 2, 15, 1] (by decide +kernel) rfl
          refine va_callv (va_runV (As := []) (rest := []) ⟨hx, hb, hml, hown, hts⟩ (w_addPoints l G a_wa a_k a_pt a_bo a_h a_j H.size z24 z25 z26 z27 z28 z29 z30 z31 z32 z33 z34 n_bo i_21 i_22 (i_23)) (cwV 0 hts gV_X10_51 rfl rfl rfl hv_X10_addPoints ⟨Nat.le_of_ble_eq_true rfl, Nat.le_of_ble_eq_true rfl⟩) (g5_preV hPc hK hDc hN hT hS hFc (ci := 10) (q0 := 0) rfl rfl) rfl rfl hl.1 rfl (lv_room (Nat.le_of_ble_eq_true rfl)) dX10_lookAround_72 ⟨Nat.le_of_ble_eq_true rfl, Nat.le_of_ble_eq_true rfl⟩) hS (fun q _ h => hFc q h) hFc (fun u t H locs ht hvm hw hB hz1 hk1 hS => ?_)
          obtain ⟨hP1, hD1⟩ := hB
          have hP1 := g5_ht ht hP1
          obtain ⟨z37, rfl⟩ := hw
          have hJ9 := va_join (wr := [(a_h, (oc1 e_wa e_le e_st e_fo e_lc a_l a_g a_b a_s a_p a_w e_gb a_bb)), (a_g, (oc6 6 5 a_gn e_g)), (a_gn, (arI G 30 f_g)), (a_b, (oc6 5 24 a_bn e_b)), (a_bn, (arI G 120 f_b)), (a_p, (oc6 8 5 a_pn e_p)), (a_pn, (arI G 40 f_p)), (a_bb, (arJ G 24 f_bb)), (a_j, (oc2 a_as a_sk)), (a_as, (arI G 8 z35)), (a_sk, (arJ G 50 z36)), (a_l, (arW G 6 f_l))]) hP hD [0, 2, 15, 1] [3, 4, 5, 6, 7, 8, 9, 10, 11, 12, 13, 14] rfl rfl (by decide +kernel) (by decide +kernel) hk1 hFc hP1 hD1
          clear hP hD hPc hDc hFc ht hvm hz1 hk1 hP1 hD1
          obtain ⟨hP, hD⟩ := hJ9
          refine g5_rs [(a_h, (oc1 e_wa e_le e_st e_fo e_lc a_l a_g a_b a_s a_p a_w e_gb a_bb)), (a_g, (oc6 6 5 a_gn e_g)), (a_gn, (arI G 30 f_g)), (a_b, (oc6 5 24 a_bn e_b)), (a_bn, (arI G 120 f_b)), (a_p, (oc6 8 5 a_pn e_p)), (a_pn, (arI G 40 f_p)), (a_bb, (arJ G 24 f_bb)), (a_j, (oc2 a_as a_sk)), (a_as, (arI G 8 z35)), (a_sk, (arJ G 50 z36)), (a_l, (arW G 6 f_l)), (a_wa, (oc10 a_h a_k a_bo)), (a_k, (oc5 a_h a_j a_pt z24 z25 z26 z27 z28 z29 z30 z31 z32 z33)), (a_pt, (arI G 200 z34)), (a_bo, (arJ G 24 z37))] hP hD ?_
          clear hP hD
          intro hP hD
          refine W.eq (g2 := F0 m 75 ls []) rfl ?_
          refine lv_iinc (v := (n_q + 1)) (lv' := [(4, .int (n_q + 1)), (3, .int z12), (2, .int m_q), (1, .int k_q), (0, .ref a_wa)]) hx hb dX10_lookAround_75 hl (k := 0) rfl rfl (by decide +kernel) rfl ?_
          clear hl
          intro ls hl
          have t_38 : (n_q + 1).toInt = n_q.toInt + 1 := g5_iadd (a := n_q.toInt) (b := 1) rfl (by decide +kernel) (by omega) (by omega)
          refine lv_goto (tgt := 48) hx hb dX10_lookAround_78 (by decide +kernel) ?_
          exact ih_48_16 ((n_q + 1), z25, z26, z27, z28, z29, z30, z31, z32, z33, z34, z35, z36, z24, z37) ls H locs (show Int.toNat (4 - (n_q + 1).toInt) < Int.toNat (4 - n_q.toInt) from g_up (show n_q.toInt < (n_q + 1).toInt by omega) (show n_q.toInt < 4 by omega)) ⟨lv_sub hl [0, 1, 2, 3, 4] rfl, hP.sub [13, 0, 1, 2, 5, 6, 7, 8, 9, 10, 11, 14, 12, 15, 3, 4] rfl, hD.sub [13, 0, 1, 2, 5, 6, 7, 8, 9, 10, 11, 14, 12, 15, 3, 4] (by decide +kernel) rfl, hS, ⟨by omega, by omega⟩, i_22⟩
set_option maxHeartbeats 4000000 in
set_option maxRecDepth 100000 in
theorem w_lookAroundL (l : Launch) (G : g5_G) (a_k a_h a_g a_gn a_b a_bn a_p a_pn a_bb a_j a_as a_sk a_l a_lo a_sr a_cd a_hd a_pt a_wa a_bo a_s a_w : Nat) (sz : Nat) (e_le : Int32) (e_st : Int32) (e_fo : Int32) (e_lc : Int32) (e_g : Int32) (e_b : Int32) (e_p : Int32) (e_cl : Int32) (e_ln : Int32) (e_se : Int32) (e_lh : Int32) (e_br : Int32) (e_we : Int32) (e_me : Int32) (e_ce : Int32) (e_wy : Int32) (e_ho : Int32) (e_ov : Int32) (e_wa : Int64) (e_gb : Int64) (f_g : Nat → Int32) (f_b : Nat → Int32) (f_p : Nat → Int32) (f_bb : Nat → Int64) (f_as : Nat → Int32) (f_sk : Nat → Int64) (f_l : Nat → Option Nat) (f_sr : Nat → Int32) (f_cd : Nat → Int32) (f_hd : Nat → Int32) (f_pt : Nat → Int32) (f_bo : Nat → Int64) (n_sr : Nat) (n_cd : Nat) (n_hd : Nat) (h_e_g : 0 ≤ e_g.toInt ∧ e_g.toInt ≤ 6) (h_e_b : 0 ≤ e_b.toInt ∧ e_b.toInt ≤ 5) (h_e_p : 0 ≤ e_p.toInt ∧ e_p.toInt ≤ 8) (h_e_cl : 0 ≤ e_cl.toInt ∧ e_cl.toInt ≤ 12) (h_e_ov : 0 ≤ e_ov.toInt ∧ e_ov.toInt ≤ 1) (e_gk : gOK f_g e_g.toInt) (e_pk : gOK f_p e_p.toInt) (e_gi : inT e_gb f_g e_g.toInt) (e_f : 0 ≤ e_fo.toInt ∧ e_fo.toInt < e_lc.toInt ∧ e_lc.toInt ≤ 6) (e_a : f_l e_fo.toNatClampNeg = some a_lo) (e_hn : n_cd ≤ 400) (e_hs : ∀ j : Nat, j < n_sr → 0 ≤ (f_sr j).toInt ∧ (f_sr j).toInt ≤ (n_cd : Int)) (e_hk : ∀ j : Nat, j < n_cd → (f_cd j >>> (12 &&& 31)).toInt = 1 → (f_cd j &&& 4095).toInt < 8) (e_c : (e_cl.toInt : Int) ≤ (n_hd : Int) ∧ (e_cl.toInt + 1 : Int) ≤ (n_sr : Int)) : Met l yX10_lookAround (wsG yX10_lookAround cX10_lookAround 5 none) ({ frames := 14, cells := 0, slots := 0, locals := 556 }) (va_Pc [.ref a_wa] (g5_P G [(a_k, (oc5 a_h a_j a_pt e_ln e_se e_lh e_br e_we e_me e_ce e_wy e_ho e_ov)), (a_h, (oc1 e_wa e_le e_st e_fo e_lc a_l a_g a_b a_s a_p a_w e_gb a_bb)), (a_g, (oc6 6 5 a_gn e_g)), (a_gn, (arI G 30 f_g)), (a_b, (oc6 5 24 a_bn e_b)), (a_bn, (arI G 120 f_b)), (a_p, (oc6 8 5 a_pn e_p)), (a_pn, (arI G 40 f_p)), (a_bb, (arJ G 24 f_bb)), (a_j, (oc2 a_as a_sk)), (a_as, (arI G 8 f_as)), (a_sk, (arJ G 50 f_sk)), (a_l, (arW G 6 f_l)), (a_lo, (oc3 e_cl a_hd a_sr a_cd)), (a_sr, (arI G n_sr f_sr)), (a_cd, (arI G n_cd f_cd)), (a_hd, (arI G n_hd f_hd)), (a_pt, (arI G 200 f_pt)), (a_wa, (oc10 a_h a_k a_bo)), (a_bo, (arJ G 24 f_bo))] sz)) (va_Qv (fun (u : va_W) => (∃ (o_ln : Int32) (o_se : Int32) (o_lh : Int32) (o_br : Int32) (o_we : Int32) (o_me : Int32) (o_ce : Int32) (o_wy : Int32) (o_ho : Int32) (o_ov : Int32) (o_pt : Nat → Int32) (o_as : Nat → Int32) (o_sk : Nat → Int64) (o_bo : Nat → Int64), (0 ≤ o_ov.toInt ∧ o_ov.toInt ≤ 1) ∧ (u = [(a_k, (oc5 a_h a_j a_pt o_ln o_se o_lh o_br o_we o_me o_ce o_wy o_ho o_ov)), (a_h, (oc1 e_wa e_le e_st e_fo e_lc a_l a_g a_b a_s a_p a_w e_gb a_bb)), (a_g, (oc6 6 5 a_gn e_g)), (a_gn, (arI G 30 f_g)), (a_b, (oc6 5 24 a_bn e_b)), (a_bn, (arI G 120 f_b)), (a_p, (oc6 8 5 a_pn e_p)), (a_pn, (arI G 40 f_p)), (a_bb, (arJ G 24 f_bb)), (a_j, (oc2 a_as a_sk)), (a_as, (arI G 8 o_as)), (a_sk, (arJ G 50 o_sk)), (a_l, (arW G 6 f_l)), (a_lo, (oc3 e_cl a_hd a_sr a_cd)), (a_sr, (arI G n_sr f_sr)), (a_cd, (arI G n_cd f_cd)), (a_hd, (arI G n_hd f_hd)), (a_pt, (arI G 200 o_pt)), (a_wa, (oc10 a_h a_k a_bo)), (a_bo, (arJ G 24 o_bo))]))) (g5_B G (va_A [(a_k, (oc5 a_h a_j a_pt e_ln e_se e_lh e_br e_we e_me e_ce e_wy e_ho e_ov)), (a_h, (oc1 e_wa e_le e_st e_fo e_lc a_l a_g a_b a_s a_p a_w e_gb a_bb)), (a_g, (oc6 6 5 a_gn e_g)), (a_gn, (arI G 30 f_g)), (a_b, (oc6 5 24 a_bn e_b)), (a_bn, (arI G 120 f_b)), (a_p, (oc6 8 5 a_pn e_p)), (a_pn, (arI G 40 f_p)), (a_bb, (arJ G 24 f_bb)), (a_j, (oc2 a_as a_sk)), (a_as, (arI G 8 f_as)), (a_sk, (arJ G 50 f_sk)), (a_l, (arW G 6 f_l)), (a_lo, (oc3 e_cl a_hd a_sr a_cd)), (a_sr, (arI G n_sr f_sr)), (a_cd, (arI G n_cd f_cd)), (a_hd, (arI G n_hd f_hd)), (a_pt, (arI G 200 f_pt)), (a_wa, (oc10 a_h a_k a_bo)), (a_bo, (arJ G 24 f_bo))] sz)) (va_A [(a_k, (oc5 a_h a_j a_pt e_ln e_se e_lh e_br e_we e_me e_ce e_wy e_ho e_ov)), (a_h, (oc1 e_wa e_le e_st e_fo e_lc a_l a_g a_b a_s a_p a_w e_gb a_bb)), (a_g, (oc6 6 5 a_gn e_g)), (a_gn, (arI G 30 f_g)), (a_b, (oc6 5 24 a_bn e_b)), (a_bn, (arI G 120 f_b)), (a_p, (oc6 8 5 a_pn e_p)), (a_pn, (arI G 40 f_p)), (a_bb, (arJ G 24 f_bb)), (a_j, (oc2 a_as a_sk)), (a_as, (arI G 8 f_as)), (a_sk, (arJ G 50 f_sk)), (a_l, (arW G 6 f_l)), (a_lo, (oc3 e_cl a_hd a_sr a_cd)), (a_sr, (arI G n_sr f_sr)), (a_cd, (arI G n_cd f_cd)), (a_hd, (arI G n_hd f_hd)), (a_pt, (arI G 200 f_pt)), (a_wa, (oc10 a_h a_k a_bo)), (a_bo, (arJ G 24 f_bo))] sz)) 0 0 (va_A [(a_k, (oc5 a_h a_j a_pt e_ln e_se e_lh e_br e_we e_me e_ce e_wy e_ho e_ov)), (a_h, (oc1 e_wa e_le e_st e_fo e_lc a_l a_g a_b a_s a_p a_w e_gb a_bb)), (a_g, (oc6 6 5 a_gn e_g)), (a_gn, (arI G 30 f_g)), (a_b, (oc6 5 24 a_bn e_b)), (a_bn, (arI G 120 f_b)), (a_p, (oc6 8 5 a_pn e_p)), (a_pn, (arI G 40 f_p)), (a_bb, (arJ G 24 f_bb)), (a_j, (oc2 a_as a_sk)), (a_as, (arI G 8 f_as)), (a_sk, (arJ G 50 f_sk)), (a_l, (arW G 6 f_l)), (a_lo, (oc3 e_cl a_hd a_sr a_cd)), (a_sr, (arI G n_sr f_sr)), (a_cd, (arI G n_cd f_cd)), (a_hd, (arI G n_hd f_hd)), (a_pt, (arI G 200 f_pt)), (a_wa, (oc10 a_h a_k a_bo)), (a_bo, (arJ G 24 f_bo))] sz) := by
  refine Met.ofW (cc := cX10_lookAround) (maxL := 5) (ret := none) (by decide +kernel) rfl ?_
  intro p e s m args below meth c s₁ B hml hv
  obtain ⟨rfl, hsz, hP, hK, hD0, hN, hT⟩ := hv
  have hx := B.exec
  have hb := B.bytes
  have hr := B.returns
  have hts : ∀ w ∈ tblG, w.before _ s = true := fun w h => atoms_spec (ws := (wsG yX10_lookAround cX10_lookAround 5 none)) B.pre w (List.mem_cons_of_mem _ h)
  have hown : s.vm.findClass RX10 = some m.cls := findClass_of_methodNamed B.named
  have hlocks := B.notSynchronized
  subst hsz
  have hD := hD0.self (sz := s.heap.size)
  generalize hAe : va_A [(a_k, (oc5 a_h a_j a_pt e_ln e_se e_lh e_br e_we e_me e_ce e_wy e_ho e_ov)), (a_h, (oc1 e_wa e_le e_st e_fo e_lc a_l a_g a_b a_s a_p a_w e_gb a_bb)), (a_g, (oc6 6 5 a_gn e_g)), (a_gn, (arI G 30 f_g)), (a_b, (oc6 5 24 a_bn e_b)), (a_bn, (arI G 120 f_b)), (a_p, (oc6 8 5 a_pn e_p)), (a_pn, (arI G 40 f_p)), (a_bb, (arJ G 24 f_bb)), (a_j, (oc2 a_as a_sk)), (a_as, (arI G 8 f_as)), (a_sk, (arJ G 50 f_sk)), (a_l, (arW G 6 f_l)), (a_lo, (oc3 e_cl a_hd a_sr a_cd)), (a_sr, (arI G n_sr f_sr)), (a_cd, (arI G n_cd f_cd)), (a_hd, (arI G n_hd f_hd)), (a_pt, (arI G 200 f_pt)), (a_wa, (oc10 a_h a_k a_bo)), (a_bo, (arJ G 24 f_bo))] s.heap.size = A at hD hT ⊢
  have hA : ∀ q : Nat, s.heap.size ≤ q → A q := fun q h => by rw [← hAe]; exact Or.inr h
  have hS : va_S A s.heap s.heap [] := va_S.rf
  replace hP : va_P G.1 vwCl [(a_k, (oc5 a_h a_j a_pt e_ln e_se e_lh e_br e_we e_me e_ce e_wy e_ho e_ov)), (a_h, (oc1 e_wa e_le e_st e_fo e_lc a_l a_g a_b a_s a_p a_w e_gb a_bb)), (a_g, (oc6 6 5 a_gn e_g)), (a_gn, (arI G 30 f_g)), (a_b, (oc6 5 24 a_bn e_b)), (a_bn, (arI G 120 f_b)), (a_p, (oc6 8 5 a_pn e_p)), (a_pn, (arI G 40 f_p)), (a_bb, (arJ G 24 f_bb)), (a_j, (oc2 a_as a_sk)), (a_as, (arI G 8 f_as)), (a_sk, (arJ G 50 f_sk)), (a_l, (arW G 6 f_l)), (a_lo, (oc3 e_cl a_hd a_sr a_cd)), (a_sr, (arI G n_sr f_sr)), (a_cd, (arI G n_cd f_cd)), (a_hd, (arI G n_hd f_hd)), (a_pt, (arI G 200 f_pt)), (a_wa, (oc10 a_h a_k a_bo)), (a_bo, (arJ G 24 f_bo))] s.heap := hP
  have hl := lv_entry ([.ref a_wa]) (n := 5) (Nat.le_of_ble_eq_true rfl)
  rw [lg_entry_eq]
  generalize (lg_sl ([.ref a_wa]) ++ List.replicate (5 - (lg_sl ([.ref a_wa])).length) Slot.unset).toArray = ls at hl ⊢
  replace hl : lv_has ls 5 [(0, .ref a_wa)] := hl
  refine lv_aload_n hx hb dX10_lookAround_0 rfl (lv_at hl 0 rfl) ?_
  refine va_get (D := G.1) (ci := 10) (v := .ref a_bo) (C := RX10) (T := TX10) (N := 3) hx hb hts inG_X10 hown hK hP 18 rfl rfl 2 (by decide +kernel) (hts _ fl_X10_9) (fun _ h9 => h9) rfl dX10_lookAround_1 ?_
  refine lv_lconst (v := 0) hx hb dX10_lookAround_4 (by decide +kernel) ?_
  obtain ⟨hPc, hDc, hFc⟩ := g5_sub3 (wc := [(a_bo, (arJ G 24 f_bo))]) hP hD hS hA [19] (by decide +kernel) rfl
  refine va_callv (va_runS (As := [.ref a_bo, .long 0]) (rest := []) ⟨hx, hb, hml, hown, hts⟩ (k_fillJ24 l G a_bo s.heap.size 0 f_bo) (va_cwS 2 hts gS_X10_23 rfl rfl rfl hs_J7_fill_d0a16 ⟨Nat.le_of_ble_eq_true rfl, Nat.le_of_ble_eq_true rfl⟩) (g5_preS hPc hK hDc hN hT hS hFc) rfl rfl hl.1 rfl (lv_room (Nat.le_of_ble_eq_true rfl)) dX10_lookAround_5 ⟨Nat.le_of_ble_eq_true rfl, Nat.le_of_ble_eq_true rfl⟩) hS (fun q _ h => hFc q h) hFc (fun u t H locs ht hvm hw hB hz1 hk1 hS => ?_)
  obtain ⟨hP1, hD1⟩ := hB
  have hP1 := g5_ht ht hP1
  obtain rfl := hw
  have hJ9 := va_join (wr := [(a_k, (oc5 a_h a_j a_pt e_ln e_se e_lh e_br e_we e_me e_ce e_wy e_ho e_ov)), (a_h, (oc1 e_wa e_le e_st e_fo e_lc a_l a_g a_b a_s a_p a_w e_gb a_bb)), (a_g, (oc6 6 5 a_gn e_g)), (a_gn, (arI G 30 f_g)), (a_b, (oc6 5 24 a_bn e_b)), (a_bn, (arI G 120 f_b)), (a_p, (oc6 8 5 a_pn e_p)), (a_pn, (arI G 40 f_p)), (a_bb, (arJ G 24 f_bb)), (a_j, (oc2 a_as a_sk)), (a_as, (arI G 8 f_as)), (a_sk, (arJ G 50 f_sk)), (a_l, (arW G 6 f_l)), (a_lo, (oc3 e_cl a_hd a_sr a_cd)), (a_sr, (arI G n_sr f_sr)), (a_cd, (arI G n_cd f_cd)), (a_hd, (arI G n_hd f_hd)), (a_pt, (arI G 200 f_pt)), (a_wa, (oc10 a_h a_k a_bo))]) hP hD [19] [0, 1, 2, 3, 4, 5, 6, 7, 8, 9, 10, 11, 12, 13, 14, 15, 16, 17, 18] rfl rfl (by decide +kernel) (by decide +kernel) hk1 hFc hP1 hD1
  clear hP hD hPc hDc hFc ht hvm hz1 hk1 hP1 hD1
  obtain ⟨hP, hD⟩ := hJ9
  refine g5_rs [(a_k, (oc5 a_h a_j a_pt e_ln e_se e_lh e_br e_we e_me e_ce e_wy e_ho e_ov)), (a_h, (oc1 e_wa e_le e_st e_fo e_lc a_l a_g a_b a_s a_p a_w e_gb a_bb)), (a_g, (oc6 6 5 a_gn e_g)), (a_gn, (arI G 30 f_g)), (a_b, (oc6 5 24 a_bn e_b)), (a_bn, (arI G 120 f_b)), (a_p, (oc6 8 5 a_pn e_p)), (a_pn, (arI G 40 f_p)), (a_bb, (arJ G 24 f_bb)), (a_j, (oc2 a_as a_sk)), (a_as, (arI G 8 f_as)), (a_sk, (arJ G 50 f_sk)), (a_l, (arW G 6 f_l)), (a_lo, (oc3 e_cl a_hd a_sr a_cd)), (a_sr, (arI G n_sr f_sr)), (a_cd, (arI G n_cd f_cd)), (a_hd, (arI G n_hd f_hd)), (a_pt, (arI G 200 f_pt)), (a_wa, (oc10 a_h a_k a_bo)), (a_bo, (arJ G 24 (fun _ => 0)))] hP hD ?_
  clear hP hD
  intro hP hD
  refine W.eq (g2 := F0 m 8 ls []) rfl ?_
  refine lv_iconst (v := 0) hx hb dX10_lookAround_8 (by decide +kernel) ?_
  refine lv_istore_n (lv' := [(1, .int 0), (0, .ref a_wa)]) hx hb dX10_lookAround_9 rfl hl (by decide +kernel) rfl ?_
  clear hl
  intro ls hl
  refine g5_loop (α := (Int32) × (Int32) × (Int32) × (Int32) × (Int32) × (Int32) × (Int32) × (Int32) × (Int32) × (Int32) × (Nat → Int32) × (Nat → Int32) × (Nat → Int64) × (Int32) × (Nat → Int64)) (fun (q : (Int32) × (Int32) × (Int32) × (Int32) × (Int32) × (Int32) × (Int32) × (Int32) × (Int32) × (Int32) × (Nat → Int32) × (Nat → Int32) × (Nat → Int64) × (Int32) × (Nat → Int64)) (ls : Array Slot) (H : Heap) (locs : List Loc) => match q with | (k_q, k_se, k_lh, k_br, k_we, k_me, k_ce, k_wy, k_ho, k_ov, k_pt, k_as, k_sk, k_ln, k_bo) => lv_has ls 5 [(1, .int k_q), (0, .ref a_wa)] ∧ va_P G.1 vwCl [(a_k, (oc5 a_h a_j a_pt k_ln k_se k_lh k_br k_we k_me k_ce k_wy k_ho k_ov)), (a_h, (oc1 e_wa e_le e_st e_fo e_lc a_l a_g a_b a_s a_p a_w e_gb a_bb)), (a_g, (oc6 6 5 a_gn e_g)), (a_gn, (arI G 30 f_g)), (a_b, (oc6 5 24 a_bn e_b)), (a_bn, (arI G 120 f_b)), (a_p, (oc6 8 5 a_pn e_p)), (a_pn, (arI G 40 f_p)), (a_bb, (arJ G 24 f_bb)), (a_j, (oc2 a_as a_sk)), (a_as, (arI G 8 k_as)), (a_sk, (arJ G 50 k_sk)), (a_l, (arW G 6 f_l)), (a_lo, (oc3 e_cl a_hd a_sr a_cd)), (a_sr, (arI G n_sr f_sr)), (a_cd, (arI G n_cd f_cd)), (a_hd, (arI G n_hd f_hd)), (a_pt, (arI G 200 k_pt)), (a_wa, (oc10 a_h a_k a_bo)), (a_bo, (arJ G 24 k_bo))] H ∧ va_D A [(a_k, (oc5 a_h a_j a_pt k_ln k_se k_lh k_br k_we k_me k_ce k_wy k_ho k_ov)), (a_h, (oc1 e_wa e_le e_st e_fo e_lc a_l a_g a_b a_s a_p a_w e_gb a_bb)), (a_g, (oc6 6 5 a_gn e_g)), (a_gn, (arI G 30 f_g)), (a_b, (oc6 5 24 a_bn e_b)), (a_bn, (arI G 120 f_b)), (a_p, (oc6 8 5 a_pn e_p)), (a_pn, (arI G 40 f_p)), (a_bb, (arJ G 24 f_bb)), (a_j, (oc2 a_as a_sk)), (a_as, (arI G 8 k_as)), (a_sk, (arJ G 50 k_sk)), (a_l, (arW G 6 f_l)), (a_lo, (oc3 e_cl a_hd a_sr a_cd)), (a_sr, (arI G n_sr f_sr)), (a_cd, (arI G n_cd f_cd)), (a_hd, (arI G n_hd f_hd)), (a_pt, (arI G 200 k_pt)), (a_wa, (oc10 a_h a_k a_bo)), (a_bo, (arJ G 24 k_bo))] ∧ va_S A s.heap H locs ∧ (0 ≤ k_q.toInt ∧ k_q.toInt ≤ 5) ∧ (0 ≤ k_ov.toInt ∧ k_ov.toInt ≤ 1) ∧ (k_q.toInt ≤ e_b.toInt)) (fun (q : (Int32) × (Int32) × (Int32) × (Int32) × (Int32) × (Int32) × (Int32) × (Int32) × (Int32) × (Int32) × (Nat → Int32) × (Nat → Int32) × (Nat → Int64) × (Int32) × (Nat → Int64)) => match q with | (k_q, k_se, k_lh, k_br, k_we, k_me, k_ce, k_wy, k_ho, k_ov, k_pt, k_as, k_sk, k_ln, k_bo) => Int.toNat (5 - k_q.toInt)) (0, e_se, e_lh, e_br, e_we, e_me, e_ce, e_wy, e_ho, e_ov, f_pt, f_as, f_sk, e_ln, (fun _ => 0)) ⟨lv_sub hl [0, 1] rfl, hP, hD, hS, ⟨by decide, by decide⟩, h_e_ov, by have z0 : (0 : Int32).toInt = 0 := (by decide +kernel); omega⟩ ?_
  rintro ⟨k_q, k_se, k_lh, k_br, k_we, k_me, k_ce, k_wy, k_ho, k_ov, k_pt, k_as, k_sk, k_ln, k_bo⟩ ls H locs ⟨hl, hP, hD, hS, (i_1 : 0 ≤ k_q.toInt ∧ k_q.toInt ≤ 5), (i_2 : 0 ≤ k_ov.toInt ∧ k_ov.toInt ≤ 1), (i_3 : k_q.toInt ≤ e_b.toInt)⟩ ih_10_4
  replace hl : lv_has ls 5 [(1, .int k_q), (0, .ref a_wa)] := hl
  refine g5_rs [(a_k, (oc5 a_h a_j a_pt k_ln k_se k_lh k_br k_we k_me k_ce k_wy k_ho k_ov)), (a_h, (oc1 e_wa e_le e_st e_fo e_lc a_l a_g a_b a_s a_p a_w e_gb a_bb)), (a_g, (oc6 6 5 a_gn e_g)), (a_gn, (arI G 30 f_g)), (a_b, (oc6 5 24 a_bn e_b)), (a_bn, (arI G 120 f_b)), (a_p, (oc6 8 5 a_pn e_p)), (a_pn, (arI G 40 f_p)), (a_bb, (arJ G 24 f_bb)), (a_j, (oc2 a_as a_sk)), (a_as, (arI G 8 k_as)), (a_sk, (arJ G 50 k_sk)), (a_l, (arW G 6 f_l)), (a_lo, (oc3 e_cl a_hd a_sr a_cd)), (a_sr, (arI G n_sr f_sr)), (a_cd, (arI G n_cd f_cd)), (a_hd, (arI G n_hd f_hd)), (a_pt, (arI G 200 k_pt)), (a_wa, (oc10 a_h a_k a_bo)), (a_bo, (arJ G 24 k_bo))] hP hD ?_
  clear hP hD
  intro hP hD
  refine lv_iload_n hx hb dX10_lookAround_10 rfl (lv_at hl 0 rfl) ?_
  refine lv_aload_n hx hb dX10_lookAround_11 rfl (lv_at hl 1 rfl) ?_
  refine va_get (D := G.1) (ci := 10) (v := .ref a_h) (C := RX10) (T := TX10) (N := 3) hx hb hts inG_X10 hown hK hP 18 rfl rfl 0 (by decide +kernel) (hts _ fl_X10_15) (fun _ h9 => h9) rfl dX10_lookAround_12 ?_
  refine va_get (D := G.1) (ci := 1) (v := .ref a_b) (C := RX1) (T := TX1) (N := 13) hx hb hts inG_X1 hown hK hP 1 rfl rfl 7 (by decide +kernel) (hts _ fl_X10_29) (fun _ h9 => h9) rfl dX10_lookAround_15 ?_
  refine W.eq (g2 := F0 m 18 ls [.ref a_b, .int k_q]) rfl ?_
  refine va_get (D := G.1) (ci := 6) (v := .int e_b) (C := RX6) (T := TX6) (N := 4) hx hb hts inG_X6 hown hK hP 4 rfl rfl 3 (by decide +kernel) (hts _ fl_X10_35) (fun _ h9 => h9) rfl dX10_lookAround_18 ?_
  refine lv_icmp_ge (tgt := 93) hx hb dX10_lookAround_21 (by decide +kernel) (fun c_5 => ?_) (fun c_5 => ?_)
  ·
    have i_5 : k_q.toInt ≥ e_b.toInt := g5_ge (a := k_q.toInt) (b := e_b.toInt) rfl rfl c_5
    exact W.vret hx hb hr (fun t ht hW => ⟨⟨[(a_k, (oc5 a_h a_j a_pt k_ln k_se k_lh k_br k_we k_me k_ce k_wy k_ho k_ov)), (a_h, (oc1 e_wa e_le e_st e_fo e_lc a_l a_g a_b a_s a_p a_w e_gb a_bb)), (a_g, (oc6 6 5 a_gn e_g)), (a_gn, (arI G 30 f_g)), (a_b, (oc6 5 24 a_bn e_b)), (a_bn, (arI G 120 f_b)), (a_p, (oc6 8 5 a_pn e_p)), (a_pn, (arI G 40 f_p)), (a_bb, (arJ G 24 f_bb)), (a_j, (oc2 a_as a_sk)), (a_as, (arI G 8 k_as)), (a_sk, (arJ G 50 k_sk)), (a_l, (arW G 6 f_l)), (a_lo, (oc3 e_cl a_hd a_sr a_cd)), (a_sr, (arI G n_sr f_sr)), (a_cd, (arI G n_cd f_cd)), (a_hd, (arI G n_hd f_hd)), (a_pt, (arI G 200 k_pt)), (a_wa, (oc10 a_h a_k a_bo)), (a_bo, (arJ G 24 k_bo))], rfl, ⟨k_ln, k_se, k_lh, k_br, k_we, k_me, k_ce, k_wy, k_ho, k_ov, k_pt, k_as, k_sk, k_bo, i_2, rfl⟩, by rw [ht]; exact hP.sub [0, 1, 2, 3, 4, 5, 6, 7, 8, 9, 10, 11, 12, 13, 14, 15, 16, 17, 18, 19] rfl, hD.sub [0, 1, 2, 3, 4, 5, 6, 7, 8, 9, 10, 11, 12, 13, 14, 15, 16, 17, 18, 19] (by decide +kernel) rfl⟩, hS.F ht⟩) hS.2.2 dX10_lookAround_93
  ·
    have i_5 : k_q.toInt < e_b.toInt := g5_geN (a := k_q.toInt) (b := e_b.toInt) rfl rfl c_5
    refine lv_iconst (v := 0) hx hb dX10_lookAround_24 (by decide +kernel) ?_
    refine lv_istore_n (lv' := [(2, .int 0), (1, .int k_q), (0, .ref a_wa)]) hx hb dX10_lookAround_25 rfl hl (by decide +kernel) rfl ?_
    clear hl
    intro ls hl
    refine g5_loop (α := (Int32) × (Int32) × (Int32) × (Int32) × (Int32) × (Int32) × (Int32) × (Int32) × (Int32) × (Int32) × (Nat → Int32) × (Nat → Int32) × (Nat → Int64) × (Int32) × (Nat → Int64)) (fun (q : (Int32) × (Int32) × (Int32) × (Int32) × (Int32) × (Int32) × (Int32) × (Int32) × (Int32) × (Int32) × (Nat → Int32) × (Nat → Int32) × (Nat → Int64) × (Int32) × (Nat → Int64)) (ls : Array Slot) (H : Heap) (locs : List Loc) => match q with | (m_q, m_se, m_lh, m_br, m_we, m_me, m_ce, m_wy, m_ho, m_ov, m_pt, m_as, m_sk, m_ln, m_bo) => lv_has ls 5 [(2, .int m_q), (1, .int k_q), (0, .ref a_wa)] ∧ va_P G.1 vwCl [(a_k, (oc5 a_h a_j a_pt m_ln m_se m_lh m_br m_we m_me m_ce m_wy m_ho m_ov)), (a_h, (oc1 e_wa e_le e_st e_fo e_lc a_l a_g a_b a_s a_p a_w e_gb a_bb)), (a_g, (oc6 6 5 a_gn e_g)), (a_gn, (arI G 30 f_g)), (a_b, (oc6 5 24 a_bn e_b)), (a_bn, (arI G 120 f_b)), (a_p, (oc6 8 5 a_pn e_p)), (a_pn, (arI G 40 f_p)), (a_bb, (arJ G 24 f_bb)), (a_j, (oc2 a_as a_sk)), (a_as, (arI G 8 m_as)), (a_sk, (arJ G 50 m_sk)), (a_l, (arW G 6 f_l)), (a_lo, (oc3 e_cl a_hd a_sr a_cd)), (a_sr, (arI G n_sr f_sr)), (a_cd, (arI G n_cd f_cd)), (a_hd, (arI G n_hd f_hd)), (a_pt, (arI G 200 m_pt)), (a_wa, (oc10 a_h a_k a_bo)), (a_bo, (arJ G 24 m_bo))] H ∧ va_D A [(a_k, (oc5 a_h a_j a_pt m_ln m_se m_lh m_br m_we m_me m_ce m_wy m_ho m_ov)), (a_h, (oc1 e_wa e_le e_st e_fo e_lc a_l a_g a_b a_s a_p a_w e_gb a_bb)), (a_g, (oc6 6 5 a_gn e_g)), (a_gn, (arI G 30 f_g)), (a_b, (oc6 5 24 a_bn e_b)), (a_bn, (arI G 120 f_b)), (a_p, (oc6 8 5 a_pn e_p)), (a_pn, (arI G 40 f_p)), (a_bb, (arJ G 24 f_bb)), (a_j, (oc2 a_as a_sk)), (a_as, (arI G 8 m_as)), (a_sk, (arJ G 50 m_sk)), (a_l, (arW G 6 f_l)), (a_lo, (oc3 e_cl a_hd a_sr a_cd)), (a_sr, (arI G n_sr f_sr)), (a_cd, (arI G n_cd f_cd)), (a_hd, (arI G n_hd f_hd)), (a_pt, (arI G 200 m_pt)), (a_wa, (oc10 a_h a_k a_bo)), (a_bo, (arJ G 24 m_bo))] ∧ va_S A s.heap H locs ∧ (0 ≤ m_q.toInt ∧ m_q.toInt ≤ 24) ∧ (0 ≤ m_ov.toInt ∧ m_ov.toInt ≤ 1)) (fun (q : (Int32) × (Int32) × (Int32) × (Int32) × (Int32) × (Int32) × (Int32) × (Int32) × (Int32) × (Int32) × (Nat → Int32) × (Nat → Int32) × (Nat → Int64) × (Int32) × (Nat → Int64)) => match q with | (m_q, m_se, m_lh, m_br, m_we, m_me, m_ce, m_wy, m_ho, m_ov, m_pt, m_as, m_sk, m_ln, m_bo) => Int.toNat (24 - m_q.toInt)) (0, k_se, k_lh, k_br, k_we, k_me, k_ce, k_wy, k_ho, k_ov, k_pt, k_as, k_sk, k_ln, k_bo) ⟨lv_sub hl [0, 1, 2] rfl, hP, hD, hS, ⟨by decide, by decide⟩, i_2⟩ ?_
    rintro ⟨m_q, m_se, m_lh, m_br, m_we, m_me, m_ce, m_wy, m_ho, m_ov, m_pt, m_as, m_sk, m_ln, m_bo⟩ ls H locs ⟨hl, hP, hD, hS, (i_6 : 0 ≤ m_q.toInt ∧ m_q.toInt ≤ 24), (i_7 : 0 ≤ m_ov.toInt ∧ m_ov.toInt ≤ 1)⟩ ih_26_8
    replace hl : lv_has ls 5 [(2, .int m_q), (1, .int k_q), (0, .ref a_wa)] := hl
    refine g5_rs [(a_k, (oc5 a_h a_j a_pt m_ln m_se m_lh m_br m_we m_me m_ce m_wy m_ho m_ov)), (a_h, (oc1 e_wa e_le e_st e_fo e_lc a_l a_g a_b a_s a_p a_w e_gb a_bb)), (a_g, (oc6 6 5 a_gn e_g)), (a_gn, (arI G 30 f_g)), (a_b, (oc6 5 24 a_bn e_b)), (a_bn, (arI G 120 f_b)), (a_p, (oc6 8 5 a_pn e_p)), (a_pn, (arI G 40 f_p)), (a_bb, (arJ G 24 f_bb)), (a_j, (oc2 a_as a_sk)), (a_as, (arI G 8 m_as)), (a_sk, (arJ G 50 m_sk)), (a_l, (arW G 6 f_l)), (a_lo, (oc3 e_cl a_hd a_sr a_cd)), (a_sr, (arI G n_sr f_sr)), (a_cd, (arI G n_cd f_cd)), (a_hd, (arI G n_hd f_hd)), (a_pt, (arI G 200 m_pt)), (a_wa, (oc10 a_h a_k a_bo)), (a_bo, (arJ G 24 m_bo))] hP hD ?_
    clear hP hD
    intro hP hD
    refine lv_iload_n hx hb dX10_lookAround_26 rfl (lv_at hl 0 rfl) ?_
    refine lv_bipush (v := 24) hx hb dX10_lookAround_27 (by decide +kernel) ?_
    refine lv_icmp_ge (tgt := 87) hx hb dX10_lookAround_29 (by decide +kernel) (fun c_9 => ?_) (fun c_9 => ?_)
    ·
      have i_9 : m_q.toInt ≥ 24 := g5_ge (a := m_q.toInt) (b := 24) rfl (by decide +kernel) c_9
      refine lv_iinc (v := (k_q + 1)) (lv' := [(1, .int (k_q + 1)), (2, .int m_q), (0, .ref a_wa)]) hx hb dX10_lookAround_87 hl (k := 1) rfl rfl (by decide +kernel) rfl ?_
      clear hl
      intro ls hl
      have t_10 : (k_q + 1).toInt = k_q.toInt + 1 := g5_iadd (a := k_q.toInt) (b := 1) rfl (by decide +kernel) (by omega) (by omega)
      refine lv_goto (tgt := 10) hx hb dX10_lookAround_90 (by decide +kernel) ?_
      exact ih_10_4 ((k_q + 1), m_se, m_lh, m_br, m_we, m_me, m_ce, m_wy, m_ho, m_ov, m_pt, m_as, m_sk, m_ln, m_bo) ls H locs (show Int.toNat (5 - (k_q + 1).toInt) < Int.toNat (5 - k_q.toInt) from g_up (show k_q.toInt < (k_q + 1).toInt by omega) (show k_q.toInt < 5 by omega)) ⟨lv_sub hl [0, 2] rfl, hP, hD, hS, ⟨by omega, by omega⟩, i_7, by omega⟩
    ·
      have i_9 : m_q.toInt < 24 := g5_geN (a := m_q.toInt) (b := 24) rfl (by decide +kernel) c_9
      refine lv_aload_n hx hb dX10_lookAround_32 rfl (lv_at hl 2 rfl) ?_
      refine va_get (D := G.1) (ci := 10) (v := .ref a_h) (C := RX10) (T := TX10) (N := 3) hx hb hts inG_X10 hown hK hP 18 rfl rfl 0 (by decide +kernel) (hts _ fl_X10_15) (fun _ h9 => h9) rfl dX10_lookAround_33 ?_
      refine va_get (D := G.1) (ci := 1) (v := .ref a_b) (C := RX1) (T := TX1) (N := 13) hx hb hts inG_X1 hown hK hP 1 rfl rfl 7 (by decide +kernel) (hts _ fl_X10_29) (fun _ h9 => h9) rfl dX10_lookAround_36 ?_
      refine lv_iload_n hx hb dX10_lookAround_39 rfl (lv_at hl 1 rfl) ?_
      refine W.eq (g2 := F0 m 40 ls [.int k_q, .ref a_b]) rfl ?_
      refine lv_iload_n hx hb dX10_lookAround_40 rfl (lv_at hl 0 rfl) ?_
      obtain ⟨hPc, hDc, hFc⟩ := g5_sub3 (wc := [(a_b, (oc6 5 24 a_bn e_b)), (a_bn, (arI G 120 f_b))]) hP hD hS hA [4, 5] (by decide +kernel) rfl
      refine va_calli (va_runV (As := [.int k_q, .int m_q]) (rest := []) ⟨hx, hb, hml, hown, hts⟩ (t_get_B l G a_b a_bn H.size e_b k_q m_q f_b h_e_b) (cwV 2 hts gV_X10_41 rfl rfl rfl hv_X6_get ⟨Nat.le_of_ble_eq_true rfl, Nat.le_of_ble_eq_true rfl⟩) (g5_preV hPc hK hDc hN hT hS hFc (ci := 6) (q0 := 0) rfl rfl) rfl rfl hl.1 rfl (lv_room (Nat.le_of_ble_eq_true rfl)) dX10_lookAround_41 ⟨Nat.le_of_ble_eq_true rfl, Nat.le_of_ble_eq_true rfl⟩) hS (fun q _ h => hFc q h) hFc (fun r u t H locs ht hvm hw hB hz1 hk1 hS => ?_)
      obtain ⟨hP1, hD1⟩ := hB
      have hP1 := g5_ht ht hP1
      obtain ⟨z12, (i_11 : z12 = tget f_b e_b.toInt 24 k_q.toInt m_q.toInt), y13, rfl⟩ := hw
      have hJ9 := va_join (wr := [(a_k, (oc5 a_h a_j a_pt m_ln m_se m_lh m_br m_we m_me m_ce m_wy m_ho m_ov)), (a_h, (oc1 e_wa e_le e_st e_fo e_lc a_l a_g a_b a_s a_p a_w e_gb a_bb)), (a_g, (oc6 6 5 a_gn e_g)), (a_gn, (arI G 30 f_g)), (a_p, (oc6 8 5 a_pn e_p)), (a_pn, (arI G 40 f_p)), (a_bb, (arJ G 24 f_bb)), (a_j, (oc2 a_as a_sk)), (a_as, (arI G 8 m_as)), (a_sk, (arJ G 50 m_sk)), (a_l, (arW G 6 f_l)), (a_lo, (oc3 e_cl a_hd a_sr a_cd)), (a_sr, (arI G n_sr f_sr)), (a_cd, (arI G n_cd f_cd)), (a_hd, (arI G n_hd f_hd)), (a_pt, (arI G 200 m_pt)), (a_wa, (oc10 a_h a_k a_bo)), (a_bo, (arJ G 24 m_bo))]) hP hD [4, 5] [0, 1, 2, 3, 6, 7, 8, 9, 10, 11, 12, 13, 14, 15, 16, 17, 18, 19] rfl rfl (by decide +kernel) (by decide +kernel) hk1 hFc hP1 hD1
      clear hP hD hPc hDc hFc ht hvm hz1 hk1 hP1 hD1
      obtain ⟨hP, hD⟩ := hJ9
      refine g5_rs [(a_k, (oc5 a_h a_j a_pt m_ln m_se m_lh m_br m_we m_me m_ce m_wy m_ho m_ov)), (a_h, (oc1 e_wa e_le e_st e_fo e_lc a_l a_g a_b a_s a_p a_w e_gb a_bb)), (a_g, (oc6 6 5 a_gn e_g)), (a_gn, (arI G 30 f_g)), (a_p, (oc6 8 5 a_pn e_p)), (a_pn, (arI G 40 f_p)), (a_bb, (arJ G 24 f_bb)), (a_j, (oc2 a_as a_sk)), (a_as, (arI G 8 m_as)), (a_sk, (arJ G 50 m_sk)), (a_l, (arW G 6 f_l)), (a_lo, (oc3 e_cl a_hd a_sr a_cd)), (a_sr, (arI G n_sr f_sr)), (a_cd, (arI G n_cd f_cd)), (a_hd, (arI G n_hd f_hd)), (a_pt, (arI G 200 m_pt)), (a_wa, (oc10 a_h a_k a_bo)), (a_bo, (arJ G 24 m_bo)), (a_b, (oc6 5 24 a_bn e_b)), (a_bn, (arI G 120 f_b))] hP hD ?_
      clear hP hD
      intro hP hD
      refine g5_ti (v := z12) y13 ?_
      refine lv_istore_n (lv' := [(3, .int z12), (2, .int m_q), (1, .int k_q), (0, .ref a_wa)]) hx hb dX10_lookAround_44 rfl hl (by decide +kernel) rfl ?_
      clear hl
      intro ls hl
      refine lv_iconst (v := 0) hx hb dX10_lookAround_45 (by decide +kernel) ?_
      refine lv_istore (lv' := [(4, .int 0), (3, .int z12), (2, .int m_q), (1, .int k_q), (0, .ref a_wa)]) hx hb dX10_lookAround_46 hl (by decide +kernel) rfl ?_
      clear hl
      intro ls hl
      refine g5_loop (α := (Int32) × (Int32) × (Int32) × (Int32) × (Int32) × (Int32) × (Int32) × (Int32) × (Int32) × (Int32) × (Nat → Int32) × (Nat → Int32) × (Nat → Int64) × (Int32) × (Nat → Int64)) (fun (q : (Int32) × (Int32) × (Int32) × (Int32) × (Int32) × (Int32) × (Int32) × (Int32) × (Int32) × (Int32) × (Nat → Int32) × (Nat → Int32) × (Nat → Int64) × (Int32) × (Nat → Int64)) (ls : Array Slot) (H : Heap) (locs : List Loc) => match q with | (n_q, n_se, n_lh, n_br, n_we, n_me, n_ce, n_wy, n_ho, n_ov, n_pt, n_as, n_sk, n_ln, n_bo) => lv_has ls 5 [(4, .int n_q), (3, .int z12), (2, .int m_q), (1, .int k_q), (0, .ref a_wa)] ∧ va_P G.1 vwCl [(a_k, (oc5 a_h a_j a_pt n_ln n_se n_lh n_br n_we n_me n_ce n_wy n_ho n_ov)), (a_h, (oc1 e_wa e_le e_st e_fo e_lc a_l a_g a_b a_s a_p a_w e_gb a_bb)), (a_g, (oc6 6 5 a_gn e_g)), (a_gn, (arI G 30 f_g)), (a_p, (oc6 8 5 a_pn e_p)), (a_pn, (arI G 40 f_p)), (a_bb, (arJ G 24 f_bb)), (a_j, (oc2 a_as a_sk)), (a_as, (arI G 8 n_as)), (a_sk, (arJ G 50 n_sk)), (a_l, (arW G 6 f_l)), (a_lo, (oc3 e_cl a_hd a_sr a_cd)), (a_sr, (arI G n_sr f_sr)), (a_cd, (arI G n_cd f_cd)), (a_hd, (arI G n_hd f_hd)), (a_pt, (arI G 200 n_pt)), (a_wa, (oc10 a_h a_k a_bo)), (a_bo, (arJ G 24 n_bo)), (a_b, (oc6 5 24 a_bn e_b)), (a_bn, (arI G 120 f_b))] H ∧ va_D A [(a_k, (oc5 a_h a_j a_pt n_ln n_se n_lh n_br n_we n_me n_ce n_wy n_ho n_ov)), (a_h, (oc1 e_wa e_le e_st e_fo e_lc a_l a_g a_b a_s a_p a_w e_gb a_bb)), (a_g, (oc6 6 5 a_gn e_g)), (a_gn, (arI G 30 f_g)), (a_p, (oc6 8 5 a_pn e_p)), (a_pn, (arI G 40 f_p)), (a_bb, (arJ G 24 f_bb)), (a_j, (oc2 a_as a_sk)), (a_as, (arI G 8 n_as)), (a_sk, (arJ G 50 n_sk)), (a_l, (arW G 6 f_l)), (a_lo, (oc3 e_cl a_hd a_sr a_cd)), (a_sr, (arI G n_sr f_sr)), (a_cd, (arI G n_cd f_cd)), (a_hd, (arI G n_hd f_hd)), (a_pt, (arI G 200 n_pt)), (a_wa, (oc10 a_h a_k a_bo)), (a_bo, (arJ G 24 n_bo)), (a_b, (oc6 5 24 a_bn e_b)), (a_bn, (arI G 120 f_b))] ∧ va_S A s.heap H locs ∧ (0 ≤ n_q.toInt ∧ n_q.toInt ≤ 4) ∧ (0 ≤ n_ov.toInt ∧ n_ov.toInt ≤ 1)) (fun (q : (Int32) × (Int32) × (Int32) × (Int32) × (Int32) × (Int32) × (Int32) × (Int32) × (Int32) × (Int32) × (Nat → Int32) × (Nat → Int32) × (Nat → Int64) × (Int32) × (Nat → Int64)) => match q with | (n_q, n_se, n_lh, n_br, n_we, n_me, n_ce, n_wy, n_ho, n_ov, n_pt, n_as, n_sk, n_ln, n_bo) => Int.toNat (4 - n_q.toInt)) (0, m_se, m_lh, m_br, m_we, m_me, m_ce, m_wy, m_ho, m_ov, m_pt, m_as, m_sk, m_ln, m_bo) ⟨lv_sub hl [0, 1, 2, 3, 4] rfl, hP, hD, hS, ⟨by decide, by decide⟩, i_7⟩ ?_
      rintro ⟨n_q, n_se, n_lh, n_br, n_we, n_me, n_ce, n_wy, n_ho, n_ov, n_pt, n_as, n_sk, n_ln, n_bo⟩ ls H locs ⟨hl, hP, hD, hS, (i_14 : 0 ≤ n_q.toInt ∧ n_q.toInt ≤ 4), (i_15 : 0 ≤ n_ov.toInt ∧ n_ov.toInt ≤ 1)⟩ ih_48_16
      replace hl : lv_has ls 5 [(4, .int n_q), (3, .int z12), (2, .int m_q), (1, .int k_q), (0, .ref a_wa)] := hl
      refine g5_rs [(a_k, (oc5 a_h a_j a_pt n_ln n_se n_lh n_br n_we n_me n_ce n_wy n_ho n_ov)), (a_h, (oc1 e_wa e_le e_st e_fo e_lc a_l a_g a_b a_s a_p a_w e_gb a_bb)), (a_g, (oc6 6 5 a_gn e_g)), (a_gn, (arI G 30 f_g)), (a_p, (oc6 8 5 a_pn e_p)), (a_pn, (arI G 40 f_p)), (a_bb, (arJ G 24 f_bb)), (a_j, (oc2 a_as a_sk)), (a_as, (arI G 8 n_as)), (a_sk, (arJ G 50 n_sk)), (a_l, (arW G 6 f_l)), (a_lo, (oc3 e_cl a_hd a_sr a_cd)), (a_sr, (arI G n_sr f_sr)), (a_cd, (arI G n_cd f_cd)), (a_hd, (arI G n_hd f_hd)), (a_pt, (arI G 200 n_pt)), (a_wa, (oc10 a_h a_k a_bo)), (a_bo, (arJ G 24 n_bo)), (a_b, (oc6 5 24 a_bn e_b)), (a_bn, (arI G 120 f_b))] hP hD ?_
      clear hP hD
      intro hP hD
      refine lv_iload hx hb dX10_lookAround_48 (lv_at hl 0 rfl) ?_
      refine lv_iconst (v := 4) hx hb dX10_lookAround_50 (by decide +kernel) ?_
      refine lv_icmp_ge (tgt := 81) hx hb dX10_lookAround_51 (by decide +kernel) (fun c_17 => ?_) (fun c_17 => ?_)
      ·
        have i_17 : n_q.toInt ≥ 4 := g5_ge (a := n_q.toInt) (b := 4) rfl (by decide +kernel) c_17
        refine lv_iinc (v := (m_q + 1)) (lv' := [(2, .int (m_q + 1)), (4, .int n_q), (3, .int z12), (1, .int k_q), (0, .ref a_wa)]) hx hb dX10_lookAround_81 hl (k := 2) rfl rfl (by decide +kernel) rfl ?_
        clear hl
        intro ls hl
        have t_18 : (m_q + 1).toInt = m_q.toInt + 1 := g5_iadd (a := m_q.toInt) (b := 1) rfl (by decide +kernel) (by omega) (by omega)
        refine lv_goto (tgt := 26) hx hb dX10_lookAround_84 (by decide +kernel) ?_
        exact ih_26_8 ((m_q + 1), n_se, n_lh, n_br, n_we, n_me, n_ce, n_wy, n_ho, n_ov, n_pt, n_as, n_sk, n_ln, n_bo) ls H locs (show Int.toNat (24 - (m_q + 1).toInt) < Int.toNat (24 - m_q.toInt) from g_up (show m_q.toInt < (m_q + 1).toInt by omega) (show m_q.toInt < 24 by omega)) ⟨lv_sub hl [0, 3, 4] rfl, hP.sub [0, 1, 2, 3, 18, 19, 4, 5, 6, 7, 8, 9, 10, 11, 12, 13, 14, 15, 16, 17] rfl, hD.sub [0, 1, 2, 3, 18, 19, 4, 5, 6, 7, 8, 9, 10, 11, 12, 13, 14, 15, 16, 17] (by decide +kernel) rfl, hS, ⟨by omega, by omega⟩, i_15⟩
      ·
        have i_17 : n_q.toInt < 4 := g5_geN (a := n_q.toInt) (b := 4) rfl (by decide +kernel) c_17
        refine lv_iload_n hx hb dX10_lookAround_54 rfl (lv_at hl 1 rfl) ?_
        refine lv_iconst (v := (-1)) hx hb dX10_lookAround_55 (by decide +kernel) ?_
        refine lv_icmp_eq (tgt := 81) hx hb dX10_lookAround_56 (by decide +kernel) (fun c_19 => ?_) (fun c_19 => ?_)
        ·
          have i_19 : z12.toInt = (-1) := g5_eq (a := z12.toInt) (b := (-1)) rfl (by decide +kernel) c_19
          refine lv_iinc (v := (m_q + 1)) (lv' := [(2, .int (m_q + 1)), (4, .int n_q), (3, .int z12), (1, .int k_q), (0, .ref a_wa)]) hx hb dX10_lookAround_81 hl (k := 2) rfl rfl (by decide +kernel) rfl ?_
          clear hl
          intro ls hl
          have t_20 : (m_q + 1).toInt = m_q.toInt + 1 := g5_iadd (a := m_q.toInt) (b := 1) rfl (by decide +kernel) (by omega) (by omega)
          refine lv_goto (tgt := 26) hx hb dX10_lookAround_84 (by decide +kernel) ?_
          exact ih_26_8 ((m_q + 1), n_se, n_lh, n_br, n_we, n_me, n_ce, n_wy, n_ho, n_ov, n_pt, n_as, n_sk, n_ln, n_bo) ls H locs (show Int.toNat (24 - (m_q + 1).toInt) < Int.toNat (24 - m_q.toInt) from g_up (show m_q.toInt < (m_q + 1).toInt by omega) (show m_q.toInt < 24 by omega)) ⟨lv_sub hl [0, 3, 4] rfl, hP.sub [0, 1, 2, 3, 18, 19, 4, 5, 6, 7, 8, 9, 10, 11, 12, 13, 14, 15, 16, 17] rfl, hD.sub [0, 1, 2, 3, 18, 19, 4, 5, 6, 7, 8, 9, 10, 11, 12, 13, 14, 15, 16, 17] (by decide +kernel) rfl, hS, ⟨by omega, by omega⟩, i_15⟩
        ·
          have n_19 : gNe (z12.toInt) ((-1)) := g5_eqN (a := z12.toInt) (b := (-1)) rfl (by decide +kernel) c_19
          refine lv_aload_n hx hb dX10_lookAround_59 rfl (lv_at hl 4 rfl) ?_
          refine va_get (D := G.1) (ci := 10) (v := .ref a_k) (C := RX10) (T := TX10) (N := 3) hx hb hts inG_X10 hown hK hP 16 rfl rfl 1 (by decide +kernel) (hts _ fl_X10_19) (fun _ h9 => h9) rfl dX10_lookAround_60 ?_
          refine lv_iload_n hx hb dX10_lookAround_63 rfl (lv_at hl 1 rfl) ?_
          refine lv_iload hx hb dX10_lookAround_64 (lv_at hl 0 rfl) ?_
          refine W.eq (g2 := F0 m 66 ls [.int n_q, .int z12, .ref a_k]) rfl ?_
          refine lv_iload_n hx hb dX10_lookAround_66 rfl (lv_at hl 2 rfl) ?_
          refine lv_iconst (v := 0) hx hb dX10_lookAround_67 (by decide +kernel) ?_
          obtain ⟨hPc, hDc, hFc⟩ := g5_sub3 (wc := [(a_k, (oc5 a_h a_j a_pt n_ln n_se n_lh n_br n_we n_me n_ce n_wy n_ho n_ov)), (a_h, (oc1 e_wa e_le e_st e_fo e_lc a_l a_g a_b a_s a_p a_w e_gb a_bb)), (a_g, (oc6 6 5 a_gn e_g)), (a_gn, (arI G 30 f_g)), (a_b, (oc6 5 24 a_bn e_b)), (a_bn, (arI G 120 f_b)), (a_p, (oc6 8 5 a_pn e_p)), (a_pn, (arI G 40 f_p)), (a_bb, (arJ G 24 f_bb)), (a_j, (oc2 a_as a_sk)), (a_as, (arI G 8 n_as)), (a_sk, (arJ G 50 n_sk)), (a_l, (arW G 6 f_l)), (a_lo, (oc3 e_cl a_hd a_sr a_cd)), (a_sr, (arI G n_sr f_sr)), (a_cd, (arI G n_cd f_cd)), (a_hd, (arI G n_hd f_hd)), (a_pt, (arI G 200 n_pt))]) hP hD hS hA [0, 1, 2, 3, 18, 19, 4, 5, 6, 7, 8, 9, 10, 11, 12, 13, 14, 15] (by decide +kernel) rfl
          refine va_callv (va_runV (As := [.int z12, .int n_q, .int m_q, .int 0]) (rest := []) ⟨hx, hb, hml, hown, hts⟩ (k_runL l G a_k a_h a_g a_gn a_b a_bn a_p a_pn a_bb a_j a_as a_sk a_l a_lo a_sr a_cd a_hd a_pt a_s a_w H.size e_le e_st e_fo e_lc e_g e_b e_p e_cl n_ln n_se n_lh n_br n_we n_me n_ce n_wy n_ho n_ov z12 n_q m_q 0 e_wa e_gb f_g f_b f_p f_bb n_as n_sk f_l f_sr f_cd f_hd n_pt n_sr n_cd n_hd h_e_g h_e_b h_e_p h_e_cl i_15 (e_gk) (e_pk) (e_gi) (e_f) (e_a) (e_hn) (e_hs) (e_hk) (e_c)) (cwV 4 hts gV_X10_45 rfl rfl rfl hv_X5_run ⟨Nat.le_of_ble_eq_true rfl, Nat.le_of_ble_eq_true rfl⟩) (g5_preV hPc hK hDc hN hT hS hFc (ci := 5) (q0 := 0) rfl rfl) rfl rfl hl.1 rfl (lv_room (Nat.le_of_ble_eq_true rfl)) dX10_lookAround_68 ⟨Nat.le_of_ble_eq_true rfl, Nat.le_of_ble_eq_true rfl⟩) hS (fun q _ h => hFc q h) hFc (fun u t H locs ht hvm hw hB hz1 hk1 hS => ?_)
          obtain ⟨hP1, hD1⟩ := hB
          have hP1 := g5_ht ht hP1
          obtain ⟨z24, z25, z26, z27, z28, z29, z30, z31, z32, z33, z34, z35, z36, (i_21 : 0 ≤ z24.toInt ∧ z24.toInt ≤ 200), (i_22 : 0 ≤ z33.toInt ∧ z33.toInt ≤ 1), (i_23 : ∀ j : Nat, (j : Int) < z24.toInt → 0 ≤ (z34 j).toInt ∧ (z34 j).toInt ≤ 1535), rfl⟩ := hw
          have hJ9 := va_join (wr := [(a_wa, (oc10 a_h a_k a_bo)), (a_bo, (arJ G 24 n_bo))]) hP hD [0, 1, 2, 3, 18, 19, 4, 5, 6, 7, 8, 9, 10, 11, 12, 13, 14, 15] [16, 17] rfl rfl (by decide +kernel) (by decide +kernel) hk1 hFc hP1 hD1
          clear hP hD hPc hDc hFc ht hvm hz1 hk1 hP1 hD1
          obtain ⟨hP, hD⟩ := hJ9
          refine g5_rs [(a_wa, (oc10 a_h a_k a_bo)), (a_bo, (arJ G 24 n_bo)), (a_k, (oc5 a_h a_j a_pt z24 z25 z26 z27 z28 z29 z30 z31 z32 z33)), (a_h, (oc1 e_wa e_le e_st e_fo e_lc a_l a_g a_b a_s a_p a_w e_gb a_bb)), (a_g, (oc6 6 5 a_gn e_g)), (a_gn, (arI G 30 f_g)), (a_b, (oc6 5 24 a_bn e_b)), (a_bn, (arI G 120 f_b)), (a_p, (oc6 8 5 a_pn e_p)), (a_pn, (arI G 40 f_p)), (a_bb, (arJ G 24 f_bb)), (a_j, (oc2 a_as a_sk)), (a_as, (arI G 8 z35)), (a_sk, (arJ G 50 z36)), (a_l, (arW G 6 f_l)), (a_lo, (oc3 e_cl a_hd a_sr a_cd)), (a_sr, (arI G n_sr f_sr)), (a_cd, (arI G n_cd f_cd)), (a_hd, (arI G n_hd f_hd)), (a_pt, (arI G 200 z34))] hP hD ?_
          clear hP hD
          intro hP hD
          refine lv_aload_n hx hb dX10_lookAround_71 rfl (lv_at hl 4 rfl) ?_
          obtain ⟨hPc, hDc, hFc⟩ := g5_sub3 (wc := [(a_wa, (oc10 a_h a_k a_bo)), (a_k, (oc5 a_h a_j a_pt z24 z25 z26 z27 z28 z29 z30 z31 z32 z33)), (a_pt, (arI G 200 z34)), (a_bo, (arJ G 24 n_bo))]) hP hD hS hA [0, 2, 19, 1] (by decide +kernel) rfl
          refine va_callv (va_runV (As := []) (rest := []) ⟨hx, hb, hml, hown, hts⟩ (w_addPoints l G a_wa a_k a_pt a_bo a_h a_j H.size z24 z25 z26 z27 z28 z29 z30 z31 z32 z33 z34 n_bo i_21 i_22 (i_23)) (cwV 0 hts gV_X10_51 rfl rfl rfl hv_X10_addPoints ⟨Nat.le_of_ble_eq_true rfl, Nat.le_of_ble_eq_true rfl⟩) (g5_preV hPc hK hDc hN hT hS hFc (ci := 10) (q0 := 0) rfl rfl) rfl rfl hl.1 rfl (lv_room (Nat.le_of_ble_eq_true rfl)) dX10_lookAround_72 ⟨Nat.le_of_ble_eq_true rfl, Nat.le_of_ble_eq_true rfl⟩) hS (fun q _ h => hFc q h) hFc (fun u t H locs ht hvm hw hB hz1 hk1 hS => ?_)
          obtain ⟨hP1, hD1⟩ := hB
          have hP1 := g5_ht ht hP1
          obtain ⟨z37, rfl⟩ := hw
          have hJ9 := va_join (wr := [(a_h, (oc1 e_wa e_le e_st e_fo e_lc a_l a_g a_b a_s a_p a_w e_gb a_bb)), (a_g, (oc6 6 5 a_gn e_g)), (a_gn, (arI G 30 f_g)), (a_b, (oc6 5 24 a_bn e_b)), (a_bn, (arI G 120 f_b)), (a_p, (oc6 8 5 a_pn e_p)), (a_pn, (arI G 40 f_p)), (a_bb, (arJ G 24 f_bb)), (a_j, (oc2 a_as a_sk)), (a_as, (arI G 8 z35)), (a_sk, (arJ G 50 z36)), (a_l, (arW G 6 f_l)), (a_lo, (oc3 e_cl a_hd a_sr a_cd)), (a_sr, (arI G n_sr f_sr)), (a_cd, (arI G n_cd f_cd)), (a_hd, (arI G n_hd f_hd))]) hP hD [0, 2, 19, 1] [3, 4, 5, 6, 7, 8, 9, 10, 11, 12, 13, 14, 15, 16, 17, 18] rfl rfl (by decide +kernel) (by decide +kernel) hk1 hFc hP1 hD1
          clear hP hD hPc hDc hFc ht hvm hz1 hk1 hP1 hD1
          obtain ⟨hP, hD⟩ := hJ9
          refine g5_rs [(a_h, (oc1 e_wa e_le e_st e_fo e_lc a_l a_g a_b a_s a_p a_w e_gb a_bb)), (a_g, (oc6 6 5 a_gn e_g)), (a_gn, (arI G 30 f_g)), (a_b, (oc6 5 24 a_bn e_b)), (a_bn, (arI G 120 f_b)), (a_p, (oc6 8 5 a_pn e_p)), (a_pn, (arI G 40 f_p)), (a_bb, (arJ G 24 f_bb)), (a_j, (oc2 a_as a_sk)), (a_as, (arI G 8 z35)), (a_sk, (arJ G 50 z36)), (a_l, (arW G 6 f_l)), (a_lo, (oc3 e_cl a_hd a_sr a_cd)), (a_sr, (arI G n_sr f_sr)), (a_cd, (arI G n_cd f_cd)), (a_hd, (arI G n_hd f_hd)), (a_wa, (oc10 a_h a_k a_bo)), (a_k, (oc5 a_h a_j a_pt z24 z25 z26 z27 z28 z29 z30 z31 z32 z33)), (a_pt, (arI G 200 z34)), (a_bo, (arJ G 24 z37))] hP hD ?_
          clear hP hD
          intro hP hD
          refine W.eq (g2 := F0 m 75 ls []) rfl ?_
          refine lv_iinc (v := (n_q + 1)) (lv' := [(4, .int (n_q + 1)), (3, .int z12), (2, .int m_q), (1, .int k_q), (0, .ref a_wa)]) hx hb dX10_lookAround_75 hl (k := 0) rfl rfl (by decide +kernel) rfl ?_
          clear hl
          intro ls hl
          have t_38 : (n_q + 1).toInt = n_q.toInt + 1 := g5_iadd (a := n_q.toInt) (b := 1) rfl (by decide +kernel) (by omega) (by omega)
          refine lv_goto (tgt := 48) hx hb dX10_lookAround_78 (by decide +kernel) ?_
          exact ih_48_16 ((n_q + 1), z25, z26, z27, z28, z29, z30, z31, z32, z33, z34, z35, z36, z24, z37) ls H locs (show Int.toNat (4 - (n_q + 1).toInt) < Int.toNat (4 - n_q.toInt) from g_up (show n_q.toInt < (n_q + 1).toInt by omega) (show n_q.toInt < 4 by omega)) ⟨lv_sub hl [0, 1, 2, 3, 4] rfl, hP.sub [17, 0, 1, 2, 5, 6, 7, 8, 9, 10, 11, 12, 13, 14, 15, 18, 16, 19, 3, 4] rfl, hD.sub [17, 0, 1, 2, 5, 6, 7, 8, 9, 10, 11, 12, 13, 14, 15, 18, 16, 19, 3, 4] (by decide +kernel) rfl, hS, ⟨by omega, by omega⟩, i_22⟩
theorem dgX0_lacking_0 : ∀ r ∈ ([(0, (.iconst 0, 1)), (1, (.istore_n 2, 1)), (2, (.aload_n 0, 1)), (3, (.getfield 9, 3)), (6, (.getfield 19, 3)), (9, (.astore_n 3, 1)), (10, (.iconst 0, 1)), (11, (.istore 4, 2)), (13, (.iload 4, 2)), (15, (.aload_n 3, 1)), (16, (.getfield 25, 3)), (19, (.if_icmp .ge 93, 3)), (22, (.aload_n 0, 1)), (23, (.getfield 15, 3)), (26, (.aload_n 3, 1)), (27, (.iload 4, 2)), (29, (.iconst 0, 1)), (30, (.invokevirtual 31, 3)), (33, (.aload_n 3, 1)), (34, (.iload 4, 2)), (36, (.iconst 1, 1)), (37, (.invokevirtual 31, 3)), (40, (.aload_n 3, 1)), (41, (.iload 4, 2)), (43, (.iconst 2, 1)), (44, (.invokevirtual 31, 3)), (47, (.iload_n 1, 1)), (48, (.invokevirtual 35, 3)), (51, (.aload_n 0, 1)), (52, (.getfield 15, 3)), (55, (.aload_n 3, 1)), (56, (.iload 4, 2)), (58, (.iconst 4, 1)), (59, (.invokevirtual 31, 3)), (62, (.bipush 64, 2)), (64, (.imul, 1)), (65, (.aload_n 3, 1)), (66, (.iload 4, 2)), (68, (.iconst 3, 1)), (69, (.invokevirtual 31, 3))] : List (Nat × (Instr × Nat))), decode cX0_lacking r.1 = .ok r.2 := by decide +kernel
theorem dX0_lacking_0 : decode cX0_lacking 0 = .ok (.iconst 0, 1) := dgX0_lacking_0 (0, (.iconst 0, 1)) (List.mem_of_getElem? (i := 0) rfl)
theorem dX0_lacking_1 : decode cX0_lacking 1 = .ok (.istore_n 2, 1) := dgX0_lacking_0 (1, (.istore_n 2, 1)) (List.mem_of_getElem? (i := 1) rfl)
theorem dX0_lacking_2 : decode cX0_lacking 2 = .ok (.aload_n 0, 1) := dgX0_lacking_0 (2, (.aload_n 0, 1)) (List.mem_of_getElem? (i := 2) rfl)
theorem dX0_lacking_3 : decode cX0_lacking 3 = .ok (.getfield 9, 3) := dgX0_lacking_0 (3, (.getfield 9, 3)) (List.mem_of_getElem? (i := 3) rfl)
theorem dX0_lacking_6 : decode cX0_lacking 6 = .ok (.getfield 19, 3) := dgX0_lacking_0 (6, (.getfield 19, 3)) (List.mem_of_getElem? (i := 4) rfl)
theorem dX0_lacking_9 : decode cX0_lacking 9 = .ok (.astore_n 3, 1) := dgX0_lacking_0 (9, (.astore_n 3, 1)) (List.mem_of_getElem? (i := 5) rfl)
theorem dX0_lacking_10 : decode cX0_lacking 10 = .ok (.iconst 0, 1) := dgX0_lacking_0 (10, (.iconst 0, 1)) (List.mem_of_getElem? (i := 6) rfl)
theorem dX0_lacking_11 : decode cX0_lacking 11 = .ok (.istore 4, 2) := dgX0_lacking_0 (11, (.istore 4, 2)) (List.mem_of_getElem? (i := 7) rfl)
theorem dX0_lacking_13 : decode cX0_lacking 13 = .ok (.iload 4, 2) := dgX0_lacking_0 (13, (.iload 4, 2)) (List.mem_of_getElem? (i := 8) rfl)
theorem dX0_lacking_15 : decode cX0_lacking 15 = .ok (.aload_n 3, 1) := dgX0_lacking_0 (15, (.aload_n 3, 1)) (List.mem_of_getElem? (i := 9) rfl)
theorem dX0_lacking_16 : decode cX0_lacking 16 = .ok (.getfield 25, 3) := dgX0_lacking_0 (16, (.getfield 25, 3)) (List.mem_of_getElem? (i := 10) rfl)
theorem dX0_lacking_19 : decode cX0_lacking 19 = .ok (.if_icmp .ge 93, 3) := dgX0_lacking_0 (19, (.if_icmp .ge 93, 3)) (List.mem_of_getElem? (i := 11) rfl)
theorem dX0_lacking_22 : decode cX0_lacking 22 = .ok (.aload_n 0, 1) := dgX0_lacking_0 (22, (.aload_n 0, 1)) (List.mem_of_getElem? (i := 12) rfl)
theorem dX0_lacking_23 : decode cX0_lacking 23 = .ok (.getfield 15, 3) := dgX0_lacking_0 (23, (.getfield 15, 3)) (List.mem_of_getElem? (i := 13) rfl)
theorem dX0_lacking_26 : decode cX0_lacking 26 = .ok (.aload_n 3, 1) := dgX0_lacking_0 (26, (.aload_n 3, 1)) (List.mem_of_getElem? (i := 14) rfl)
theorem dX0_lacking_27 : decode cX0_lacking 27 = .ok (.iload 4, 2) := dgX0_lacking_0 (27, (.iload 4, 2)) (List.mem_of_getElem? (i := 15) rfl)
theorem dX0_lacking_29 : decode cX0_lacking 29 = .ok (.iconst 0, 1) := dgX0_lacking_0 (29, (.iconst 0, 1)) (List.mem_of_getElem? (i := 16) rfl)
theorem dX0_lacking_30 : decode cX0_lacking 30 = .ok (.invokevirtual 31, 3) := dgX0_lacking_0 (30, (.invokevirtual 31, 3)) (List.mem_of_getElem? (i := 17) rfl)
theorem dX0_lacking_33 : decode cX0_lacking 33 = .ok (.aload_n 3, 1) := dgX0_lacking_0 (33, (.aload_n 3, 1)) (List.mem_of_getElem? (i := 18) rfl)
theorem dX0_lacking_34 : decode cX0_lacking 34 = .ok (.iload 4, 2) := dgX0_lacking_0 (34, (.iload 4, 2)) (List.mem_of_getElem? (i := 19) rfl)
theorem dX0_lacking_36 : decode cX0_lacking 36 = .ok (.iconst 1, 1) := dgX0_lacking_0 (36, (.iconst 1, 1)) (List.mem_of_getElem? (i := 20) rfl)
theorem dX0_lacking_37 : decode cX0_lacking 37 = .ok (.invokevirtual 31, 3) := dgX0_lacking_0 (37, (.invokevirtual 31, 3)) (List.mem_of_getElem? (i := 21) rfl)
theorem dX0_lacking_40 : decode cX0_lacking 40 = .ok (.aload_n 3, 1) := dgX0_lacking_0 (40, (.aload_n 3, 1)) (List.mem_of_getElem? (i := 22) rfl)
theorem dX0_lacking_41 : decode cX0_lacking 41 = .ok (.iload 4, 2) := dgX0_lacking_0 (41, (.iload 4, 2)) (List.mem_of_getElem? (i := 23) rfl)
theorem dX0_lacking_43 : decode cX0_lacking 43 = .ok (.iconst 2, 1) := dgX0_lacking_0 (43, (.iconst 2, 1)) (List.mem_of_getElem? (i := 24) rfl)
theorem dX0_lacking_44 : decode cX0_lacking 44 = .ok (.invokevirtual 31, 3) := dgX0_lacking_0 (44, (.invokevirtual 31, 3)) (List.mem_of_getElem? (i := 25) rfl)
theorem dX0_lacking_47 : decode cX0_lacking 47 = .ok (.iload_n 1, 1) := dgX0_lacking_0 (47, (.iload_n 1, 1)) (List.mem_of_getElem? (i := 26) rfl)
theorem dX0_lacking_48 : decode cX0_lacking 48 = .ok (.invokevirtual 35, 3) := dgX0_lacking_0 (48, (.invokevirtual 35, 3)) (List.mem_of_getElem? (i := 27) rfl)
theorem dX0_lacking_51 : decode cX0_lacking 51 = .ok (.aload_n 0, 1) := dgX0_lacking_0 (51, (.aload_n 0, 1)) (List.mem_of_getElem? (i := 28) rfl)
theorem dX0_lacking_52 : decode cX0_lacking 52 = .ok (.getfield 15, 3) := dgX0_lacking_0 (52, (.getfield 15, 3)) (List.mem_of_getElem? (i := 29) rfl)
theorem dX0_lacking_55 : decode cX0_lacking 55 = .ok (.aload_n 3, 1) := dgX0_lacking_0 (55, (.aload_n 3, 1)) (List.mem_of_getElem? (i := 30) rfl)
theorem dX0_lacking_56 : decode cX0_lacking 56 = .ok (.iload 4, 2) := dgX0_lacking_0 (56, (.iload 4, 2)) (List.mem_of_getElem? (i := 31) rfl)
theorem dX0_lacking_58 : decode cX0_lacking 58 = .ok (.iconst 4, 1) := dgX0_lacking_0 (58, (.iconst 4, 1)) (List.mem_of_getElem? (i := 32) rfl)
theorem dX0_lacking_59 : decode cX0_lacking 59 = .ok (.invokevirtual 31, 3) := dgX0_lacking_0 (59, (.invokevirtual 31, 3)) (List.mem_of_getElem? (i := 33) rfl)
theorem dX0_lacking_62 : decode cX0_lacking 62 = .ok (.bipush 64, 2) := dgX0_lacking_0 (62, (.bipush 64, 2)) (List.mem_of_getElem? (i := 34) rfl)
theorem dX0_lacking_64 : decode cX0_lacking 64 = .ok (.imul, 1) := dgX0_lacking_0 (64, (.imul, 1)) (List.mem_of_getElem? (i := 35) rfl)
theorem dX0_lacking_65 : decode cX0_lacking 65 = .ok (.aload_n 3, 1) := dgX0_lacking_0 (65, (.aload_n 3, 1)) (List.mem_of_getElem? (i := 36) rfl)
theorem dX0_lacking_66 : decode cX0_lacking 66 = .ok (.iload 4, 2) := dgX0_lacking_0 (66, (.iload 4, 2)) (List.mem_of_getElem? (i := 37) rfl)
theorem dX0_lacking_68 : decode cX0_lacking 68 = .ok (.iconst 3, 1) := dgX0_lacking_0 (68, (.iconst 3, 1)) (List.mem_of_getElem? (i := 38) rfl)
theorem dX0_lacking_69 : decode cX0_lacking 69 = .ok (.invokevirtual 31, 3) := dgX0_lacking_0 (69, (.invokevirtual 31, 3)) (List.mem_of_getElem? (i := 39) rfl)
theorem dgX0_lacking_1 : ∀ r ∈ ([(72, (.iadd, 1)), (73, (.invokevirtual 41, 3)), (76, (.istore 5, 2)), (78, (.iload 5, 2)), (80, (.aload_n 3, 1)), (81, (.iload 4, 2)), (83, (.iconst 5, 1)), (84, (.invokevirtual 31, 3)), (87, (.iconst 1, 1)), (88, (.if_icmp .ne 7, 3)), (91, (.iconst 1, 1)), (92, (.goto 4, 3)), (95, (.iconst 0, 1)), (96, (.if_icmp .eq 10, 3)), (99, (.iload_n 2, 1)), (100, (.iconst 1, 1)), (101, (.iload 4, 2)), (103, (.ishl, 1)), (104, (.ior, 1)), (105, (.istore_n 2, 1)), (106, (.iinc 4 1, 3)), (109, (.goto (-96), 3)), (112, (.iload_n 2, 1)), (113, (.ireturn, 1))] : List (Nat × (Instr × Nat))), decode cX0_lacking r.1 = .ok r.2 := by decide +kernel
theorem dX0_lacking_72 : decode cX0_lacking 72 = .ok (.iadd, 1) := dgX0_lacking_1 (72, (.iadd, 1)) (List.mem_of_getElem? (i := 0) rfl)
theorem dX0_lacking_73 : decode cX0_lacking 73 = .ok (.invokevirtual 41, 3) := dgX0_lacking_1 (73, (.invokevirtual 41, 3)) (List.mem_of_getElem? (i := 1) rfl)
theorem dX0_lacking_76 : decode cX0_lacking 76 = .ok (.istore 5, 2) := dgX0_lacking_1 (76, (.istore 5, 2)) (List.mem_of_getElem? (i := 2) rfl)
theorem dX0_lacking_78 : decode cX0_lacking 78 = .ok (.iload 5, 2) := dgX0_lacking_1 (78, (.iload 5, 2)) (List.mem_of_getElem? (i := 3) rfl)
theorem dX0_lacking_80 : decode cX0_lacking 80 = .ok (.aload_n 3, 1) := dgX0_lacking_1 (80, (.aload_n 3, 1)) (List.mem_of_getElem? (i := 4) rfl)
theorem dX0_lacking_81 : decode cX0_lacking 81 = .ok (.iload 4, 2) := dgX0_lacking_1 (81, (.iload 4, 2)) (List.mem_of_getElem? (i := 5) rfl)
theorem dX0_lacking_83 : decode cX0_lacking 83 = .ok (.iconst 5, 1) := dgX0_lacking_1 (83, (.iconst 5, 1)) (List.mem_of_getElem? (i := 6) rfl)
theorem dX0_lacking_84 : decode cX0_lacking 84 = .ok (.invokevirtual 31, 3) := dgX0_lacking_1 (84, (.invokevirtual 31, 3)) (List.mem_of_getElem? (i := 7) rfl)
theorem dX0_lacking_87 : decode cX0_lacking 87 = .ok (.iconst 1, 1) := dgX0_lacking_1 (87, (.iconst 1, 1)) (List.mem_of_getElem? (i := 8) rfl)
theorem dX0_lacking_88 : decode cX0_lacking 88 = .ok (.if_icmp .ne 7, 3) := dgX0_lacking_1 (88, (.if_icmp .ne 7, 3)) (List.mem_of_getElem? (i := 9) rfl)
theorem dX0_lacking_91 : decode cX0_lacking 91 = .ok (.iconst 1, 1) := dgX0_lacking_1 (91, (.iconst 1, 1)) (List.mem_of_getElem? (i := 10) rfl)
theorem dX0_lacking_92 : decode cX0_lacking 92 = .ok (.goto 4, 3) := dgX0_lacking_1 (92, (.goto 4, 3)) (List.mem_of_getElem? (i := 11) rfl)
theorem dX0_lacking_95 : decode cX0_lacking 95 = .ok (.iconst 0, 1) := dgX0_lacking_1 (95, (.iconst 0, 1)) (List.mem_of_getElem? (i := 12) rfl)
theorem dX0_lacking_96 : decode cX0_lacking 96 = .ok (.if_icmp .eq 10, 3) := dgX0_lacking_1 (96, (.if_icmp .eq 10, 3)) (List.mem_of_getElem? (i := 13) rfl)
theorem dX0_lacking_99 : decode cX0_lacking 99 = .ok (.iload_n 2, 1) := dgX0_lacking_1 (99, (.iload_n 2, 1)) (List.mem_of_getElem? (i := 14) rfl)
theorem dX0_lacking_100 : decode cX0_lacking 100 = .ok (.iconst 1, 1) := dgX0_lacking_1 (100, (.iconst 1, 1)) (List.mem_of_getElem? (i := 15) rfl)
theorem dX0_lacking_101 : decode cX0_lacking 101 = .ok (.iload 4, 2) := dgX0_lacking_1 (101, (.iload 4, 2)) (List.mem_of_getElem? (i := 16) rfl)
theorem dX0_lacking_103 : decode cX0_lacking 103 = .ok (.ishl, 1) := dgX0_lacking_1 (103, (.ishl, 1)) (List.mem_of_getElem? (i := 17) rfl)
theorem dX0_lacking_104 : decode cX0_lacking 104 = .ok (.ior, 1) := dgX0_lacking_1 (104, (.ior, 1)) (List.mem_of_getElem? (i := 18) rfl)
theorem dX0_lacking_105 : decode cX0_lacking 105 = .ok (.istore_n 2, 1) := dgX0_lacking_1 (105, (.istore_n 2, 1)) (List.mem_of_getElem? (i := 19) rfl)
theorem dX0_lacking_106 : decode cX0_lacking 106 = .ok (.iinc 4 1, 3) := dgX0_lacking_1 (106, (.iinc 4 1, 3)) (List.mem_of_getElem? (i := 20) rfl)
theorem dX0_lacking_109 : decode cX0_lacking 109 = .ok (.goto (-96), 3) := dgX0_lacking_1 (109, (.goto (-96), 3)) (List.mem_of_getElem? (i := 21) rfl)
theorem dX0_lacking_112 : decode cX0_lacking 112 = .ok (.iload_n 2, 1) := dgX0_lacking_1 (112, (.iload_n 2, 1)) (List.mem_of_getElem? (i := 22) rfl)
theorem dX0_lacking_113 : decode cX0_lacking 113 = .ok (.ireturn, 1) := dgX0_lacking_1 (113, (.ireturn, 1)) (List.mem_of_getElem? (i := 23) rfl)
theorem inG_X0 : ∀ w ∈ wsX00, w ∈ tblG := tgs [363, 365, 367, 369, 371] (by decide +kernel) (by decide +kernel)
theorem fl_X0_9 : Cond.fieldLink RX0 9 "LateGlass$Hanger" "house" "LLateGlass$House;" ∈ tblG := tg 355 (by decide +kernel) (by decide +kernel)
theorem fl_X0_19 : Cond.fieldLink RX0 19 "LateGlass$House" "wishes" "LLateGlass$Table;" ∈ tblG := tg 186 (by decide +kernel) (by decide +kernel)
theorem fl_X0_25 : Cond.fieldLink RX0 25 "LateGlass$Table" "rows" "I" ∈ tblG := tg 138 (by decide +kernel) (by decide +kernel)
theorem fl_X0_15 : Cond.fieldLink RX0 15 "LateGlass$Hanger" "eye" "LLateGlass$Look;" ∈ tblG := tg 356 (by decide +kernel) (by decide +kernel)
theorem ml_X0_31 : Cond.methodLink RX0 31 yX6_get ∈ tblG := tg 1072 (by decide +kernel) (by decide +kernel)
theorem gV_X0_31 : GoodIn tblG (wsV RX0 31 RX6 yX6_get (wsG yX6_get cX6_get 3 (some .int))) := tgV ml_X0_31 im_X6_get se_X6_get ini_X6 gW_X6_get
theorem ml_X0_35 : Cond.methodLink RX0 35 yX5_run ∈ tblG := tg 1073 (by decide +kernel) (by decide +kernel)
theorem gV_X0_35 : GoodIn tblG (wsV RX0 35 RX5 yX5_run (wsG yX5_run cX5_run 9 none)) := tgV ml_X0_35 im_X5_run se_X5_run ini_X5 gW_X5_run
theorem ml_X0_41 : Cond.methodLink RX0 41 yX5_hasPoint ∈ tblG := tg 1074 (by decide +kernel) (by decide +kernel)
theorem im_X5_hasPoint : Cond.instanceMethod yX5_hasPoint ∈ tblG := tg 1075 (by decide +kernel) (by decide +kernel)
theorem se_X5_hasPoint : Cond.selects RX5 yX5_hasPoint yX5_hasPoint ∈ tblG := tg 1076 (by decide +kernel) (by decide +kernel)
theorem cd_X5_hasPoint : Cond.code yX5_hasPoint cX5_hasPoint 3 (some .boolean) ∈ tblG := tg 1077 (by decide +kernel) (by decide +kernel)
theorem gW_X5_hasPoint : GoodIn tblG (wsG yX5_hasPoint cX5_hasPoint 3 (some .boolean)) := tgi cd_X5_hasPoint
theorem gV_X0_41 : GoodIn tblG (wsV RX0 41 RX5 yX5_hasPoint (wsG yX5_hasPoint cX5_hasPoint 3 (some .boolean))) := tgV ml_X0_41 im_X5_hasPoint se_X5_hasPoint ini_X5 gW_X5_hasPoint
theorem hv_X5_hasPoint : yX5_hasPoint.cls = RX5 ∧ yX5_hasPoint.cls ≠ "java/lang/invoke/MethodHandle" ∧ yX5_hasPoint.cls ≠ "java/lang/invoke/VarHandle" ∧ (parseMethodDescriptor yX5_hasPoint.desc).map (fun d => d.parameters.length) = some 1 := by decide +kernel
set_option maxHeartbeats 4000000 in
set_option maxRecDepth 100000 in
theorem g_lackingN (l : Launch) (G : g5_G) (a_k a_h a_g a_gn a_b a_bn a_p a_pn a_w a_wn a_bb a_j a_as a_sk a_l a_pt a_ha a_s : Nat) (sz : Nat) (e_le : Int32) (e_st : Int32) (e_fo : Int32) (e_lc : Int32) (e_g : Int32) (e_b : Int32) (e_p : Int32) (e_w : Int32) (e_ln : Int32) (e_se : Int32) (e_lh : Int32) (e_br : Int32) (e_we : Int32) (e_me : Int32) (e_ce : Int32) (e_wy : Int32) (e_ho : Int32) (e_ov : Int32) (e_f1 : Int32) (e_f2 : Int32) (e_f3 : Int32) (p_u : Int32) (e_wa : Int64) (e_gb : Int64) (f_g : Nat → Int32) (f_b : Nat → Int32) (f_p : Nat → Int32) (f_w : Nat → Int32) (f_bb : Nat → Int64) (f_as : Nat → Int32) (f_sk : Nat → Int64) (f_l : Nat → Option Nat) (f_pt : Nat → Int32) (h_e_g : 0 ≤ e_g.toInt ∧ e_g.toInt ≤ 6) (h_e_b : 0 ≤ e_b.toInt ∧ e_b.toInt ≤ 5) (h_e_p : 0 ≤ e_p.toInt ∧ e_p.toInt ≤ 8) (h_e_w : 0 ≤ e_w.toInt ∧ e_w.toInt ≤ 6) (h_e_ov : 0 ≤ e_ov.toInt ∧ e_ov.toInt ≤ 1) (e_gk : gOK f_g e_g.toInt) (e_pk : gOK f_p e_p.toInt) (e_gi : inT e_gb f_g e_g.toInt) (e_f : e_fo.toInt < 0 ∨ e_lc.toInt ≤ e_fo.toInt) : Met l yX0_lacking (wsG yX0_lacking cX0_lacking 6 (some .int)) ({ frames := 14, cells := 0, slots := 0, locals := 556 }) (va_Pc [.ref a_ha, .int p_u] (g5_P G [(a_k, (oc5 a_h a_j a_pt e_ln e_se e_lh e_br e_we e_me e_ce e_wy e_ho e_ov)), (a_h, (oc1 e_wa e_le e_st e_fo e_lc a_l a_g a_b a_s a_p a_w e_gb a_bb)), (a_g, (oc6 6 5 a_gn e_g)), (a_gn, (arI G 30 f_g)), (a_b, (oc6 5 24 a_bn e_b)), (a_bn, (arI G 120 f_b)), (a_p, (oc6 8 5 a_pn e_p)), (a_pn, (arI G 40 f_p)), (a_w, (oc6 6 6 a_wn e_w)), (a_wn, (arI G 36 f_w)), (a_bb, (arJ G 24 f_bb)), (a_j, (oc2 a_as a_sk)), (a_as, (arI G 8 f_as)), (a_sk, (arJ G 50 f_sk)), (a_l, (arW G 6 f_l)), (a_pt, (arI G 200 f_pt)), (a_ha, (oc0 a_h a_k e_f1 e_f2 e_f3))] sz)) (va_Qi (fun (r : Int32) (u : va_W) => (∃ (o_r : Int32) (o_ln : Int32) (o_se : Int32) (o_lh : Int32) (o_br : Int32) (o_we : Int32) (o_me : Int32) (o_ce : Int32) (o_wy : Int32) (o_ho : Int32) (o_ov : Int32) (o_pt : Nat → Int32) (o_as : Nat → Int32) (o_sk : Nat → Int64), (0 ≤ o_ov.toInt ∧ o_ov.toInt ≤ 1) ∧ (r = o_r) ∧ (u = [(a_k, (oc5 a_h a_j a_pt o_ln o_se o_lh o_br o_we o_me o_ce o_wy o_ho o_ov)), (a_h, (oc1 e_wa e_le e_st e_fo e_lc a_l a_g a_b a_s a_p a_w e_gb a_bb)), (a_g, (oc6 6 5 a_gn e_g)), (a_gn, (arI G 30 f_g)), (a_b, (oc6 5 24 a_bn e_b)), (a_bn, (arI G 120 f_b)), (a_p, (oc6 8 5 a_pn e_p)), (a_pn, (arI G 40 f_p)), (a_w, (oc6 6 6 a_wn e_w)), (a_wn, (arI G 36 f_w)), (a_bb, (arJ G 24 f_bb)), (a_j, (oc2 a_as a_sk)), (a_as, (arI G 8 o_as)), (a_sk, (arJ G 50 o_sk)), (a_l, (arW G 6 f_l)), (a_pt, (arI G 200 o_pt)), (a_ha, (oc0 a_h a_k e_f1 e_f2 e_f3))]))) (g5_B G (va_A [(a_k, (oc5 a_h a_j a_pt e_ln e_se e_lh e_br e_we e_me e_ce e_wy e_ho e_ov)), (a_h, (oc1 e_wa e_le e_st e_fo e_lc a_l a_g a_b a_s a_p a_w e_gb a_bb)), (a_g, (oc6 6 5 a_gn e_g)), (a_gn, (arI G 30 f_g)), (a_b, (oc6 5 24 a_bn e_b)), (a_bn, (arI G 120 f_b)), (a_p, (oc6 8 5 a_pn e_p)), (a_pn, (arI G 40 f_p)), (a_w, (oc6 6 6 a_wn e_w)), (a_wn, (arI G 36 f_w)), (a_bb, (arJ G 24 f_bb)), (a_j, (oc2 a_as a_sk)), (a_as, (arI G 8 f_as)), (a_sk, (arJ G 50 f_sk)), (a_l, (arW G 6 f_l)), (a_pt, (arI G 200 f_pt)), (a_ha, (oc0 a_h a_k e_f1 e_f2 e_f3))] sz)) (va_A [(a_k, (oc5 a_h a_j a_pt e_ln e_se e_lh e_br e_we e_me e_ce e_wy e_ho e_ov)), (a_h, (oc1 e_wa e_le e_st e_fo e_lc a_l a_g a_b a_s a_p a_w e_gb a_bb)), (a_g, (oc6 6 5 a_gn e_g)), (a_gn, (arI G 30 f_g)), (a_b, (oc6 5 24 a_bn e_b)), (a_bn, (arI G 120 f_b)), (a_p, (oc6 8 5 a_pn e_p)), (a_pn, (arI G 40 f_p)), (a_w, (oc6 6 6 a_wn e_w)), (a_wn, (arI G 36 f_w)), (a_bb, (arJ G 24 f_bb)), (a_j, (oc2 a_as a_sk)), (a_as, (arI G 8 f_as)), (a_sk, (arJ G 50 f_sk)), (a_l, (arW G 6 f_l)), (a_pt, (arI G 200 f_pt)), (a_ha, (oc0 a_h a_k e_f1 e_f2 e_f3))] sz)) 0 0 (va_A [(a_k, (oc5 a_h a_j a_pt e_ln e_se e_lh e_br e_we e_me e_ce e_wy e_ho e_ov)), (a_h, (oc1 e_wa e_le e_st e_fo e_lc a_l a_g a_b a_s a_p a_w e_gb a_bb)), (a_g, (oc6 6 5 a_gn e_g)), (a_gn, (arI G 30 f_g)), (a_b, (oc6 5 24 a_bn e_b)), (a_bn, (arI G 120 f_b)), (a_p, (oc6 8 5 a_pn e_p)), (a_pn, (arI G 40 f_p)), (a_w, (oc6 6 6 a_wn e_w)), (a_wn, (arI G 36 f_w)), (a_bb, (arJ G 24 f_bb)), (a_j, (oc2 a_as a_sk)), (a_as, (arI G 8 f_as)), (a_sk, (arJ G 50 f_sk)), (a_l, (arW G 6 f_l)), (a_pt, (arI G 200 f_pt)), (a_ha, (oc0 a_h a_k e_f1 e_f2 e_f3))] sz) := by
  refine Met.ofW (cc := cX0_lacking) (maxL := 6) (ret := (some .int)) (by decide +kernel) rfl ?_
  intro p e s m args below meth c s₁ B hml hv
  obtain ⟨rfl, hsz, hP, hK, hD0, hN, hT⟩ := hv
  have hx := B.exec
  have hb := B.bytes
  have hr := B.returns
  have hts : ∀ w ∈ tblG, w.before _ s = true := fun w h => atoms_spec (ws := (wsG yX0_lacking cX0_lacking 6 (some .int))) B.pre w (List.mem_cons_of_mem _ h)
  have hown : s.vm.findClass RX0 = some m.cls := findClass_of_methodNamed B.named
  have hlocks := B.notSynchronized
  subst hsz
  have hD := hD0.self (sz := s.heap.size)
  generalize hAe : va_A [(a_k, (oc5 a_h a_j a_pt e_ln e_se e_lh e_br e_we e_me e_ce e_wy e_ho e_ov)), (a_h, (oc1 e_wa e_le e_st e_fo e_lc a_l a_g a_b a_s a_p a_w e_gb a_bb)), (a_g, (oc6 6 5 a_gn e_g)), (a_gn, (arI G 30 f_g)), (a_b, (oc6 5 24 a_bn e_b)), (a_bn, (arI G 120 f_b)), (a_p, (oc6 8 5 a_pn e_p)), (a_pn, (arI G 40 f_p)), (a_w, (oc6 6 6 a_wn e_w)), (a_wn, (arI G 36 f_w)), (a_bb, (arJ G 24 f_bb)), (a_j, (oc2 a_as a_sk)), (a_as, (arI G 8 f_as)), (a_sk, (arJ G 50 f_sk)), (a_l, (arW G 6 f_l)), (a_pt, (arI G 200 f_pt)), (a_ha, (oc0 a_h a_k e_f1 e_f2 e_f3))] s.heap.size = A at hD hT ⊢
  have hA : ∀ q : Nat, s.heap.size ≤ q → A q := fun q h => by rw [← hAe]; exact Or.inr h
  have hS : va_S A s.heap s.heap [] := va_S.rf
  replace hP : va_P G.1 vwCl [(a_k, (oc5 a_h a_j a_pt e_ln e_se e_lh e_br e_we e_me e_ce e_wy e_ho e_ov)), (a_h, (oc1 e_wa e_le e_st e_fo e_lc a_l a_g a_b a_s a_p a_w e_gb a_bb)), (a_g, (oc6 6 5 a_gn e_g)), (a_gn, (arI G 30 f_g)), (a_b, (oc6 5 24 a_bn e_b)), (a_bn, (arI G 120 f_b)), (a_p, (oc6 8 5 a_pn e_p)), (a_pn, (arI G 40 f_p)), (a_w, (oc6 6 6 a_wn e_w)), (a_wn, (arI G 36 f_w)), (a_bb, (arJ G 24 f_bb)), (a_j, (oc2 a_as a_sk)), (a_as, (arI G 8 f_as)), (a_sk, (arJ G 50 f_sk)), (a_l, (arW G 6 f_l)), (a_pt, (arI G 200 f_pt)), (a_ha, (oc0 a_h a_k e_f1 e_f2 e_f3))] s.heap := hP
  have hl := lv_entry ([.ref a_ha, .int p_u]) (n := 6) (Nat.le_of_ble_eq_true rfl)
  rw [lg_entry_eq]
  generalize (lg_sl ([.ref a_ha, .int p_u]) ++ List.replicate (6 - (lg_sl ([.ref a_ha, .int p_u])).length) Slot.unset).toArray = ls at hl ⊢
  replace hl : lv_has ls 6 [(0, .ref a_ha), (1, .int p_u)] := hl
  refine lv_iconst (v := 0) hx hb dX0_lacking_0 (by decide +kernel) ?_
  refine lv_istore_n (lv' := [(2, .int 0), (0, .ref a_ha), (1, .int p_u)]) hx hb dX0_lacking_1 rfl hl (by decide +kernel) rfl ?_
  clear hl
  intro ls hl
  refine lv_aload_n hx hb dX0_lacking_2 rfl (lv_at hl 1 rfl) ?_
  refine va_get (D := G.1) (ci := 0) (v := .ref a_h) (C := RX0) (T := TX0) (N := 5) hx hb hts inG_X0 hown hK hP 16 rfl rfl 0 (by decide +kernel) (hts _ fl_X0_9) (fun _ h9 => h9) rfl dX0_lacking_3 ?_
  refine W.eq (g2 := F0 m 6 ls [.ref a_h]) rfl ?_
  refine va_get (D := G.1) (ci := 1) (v := .ref a_w) (C := RX1) (T := TX1) (N := 13) hx hb hts inG_X1 hown hK hP 1 rfl rfl 10 (by decide +kernel) (hts _ fl_X0_19) (fun _ h9 => h9) rfl dX0_lacking_6 ?_
  refine lv_astore_n (lv' := [(3, .ref a_w), (2, .int 0), (0, .ref a_ha), (1, .int p_u)]) hx hb dX0_lacking_9 rfl hl (by decide +kernel) rfl ?_
  clear hl
  intro ls hl
  refine lv_iconst (v := 0) hx hb dX0_lacking_10 (by decide +kernel) ?_
  refine lv_istore (lv' := [(4, .int 0), (3, .ref a_w), (2, .int 0), (0, .ref a_ha), (1, .int p_u)]) hx hb dX0_lacking_11 hl (by decide +kernel) rfl ?_
  clear hl
  intro ls hl
  refine g5_loop (α := (Int32) × (Int32) × (Int32) × (Int32) × (Int32) × (Int32) × (Int32) × (Int32) × (Int32) × (Int32) × (Int32) × (Nat → Int32) × (Nat → Int32) × (Nat → Int64) × (Int32)) (fun (q : (Int32) × (Int32) × (Int32) × (Int32) × (Int32) × (Int32) × (Int32) × (Int32) × (Int32) × (Int32) × (Int32) × (Nat → Int32) × (Nat → Int32) × (Nat → Int64) × (Int32)) (ls : Array Slot) (H : Heap) (locs : List Loc) => match q with | (k_i, k_b, k_se, k_lh, k_br, k_we, k_me, k_ce, k_wy, k_ho, k_ov, k_pt, k_as, k_sk, k_ln) => lv_has ls 6 [(2, .int k_b), (4, .int k_i), (3, .ref a_w), (0, .ref a_ha), (1, .int p_u)] ∧ va_P G.1 vwCl [(a_k, (oc5 a_h a_j a_pt k_ln k_se k_lh k_br k_we k_me k_ce k_wy k_ho k_ov)), (a_h, (oc1 e_wa e_le e_st e_fo e_lc a_l a_g a_b a_s a_p a_w e_gb a_bb)), (a_g, (oc6 6 5 a_gn e_g)), (a_gn, (arI G 30 f_g)), (a_b, (oc6 5 24 a_bn e_b)), (a_bn, (arI G 120 f_b)), (a_p, (oc6 8 5 a_pn e_p)), (a_pn, (arI G 40 f_p)), (a_w, (oc6 6 6 a_wn e_w)), (a_wn, (arI G 36 f_w)), (a_bb, (arJ G 24 f_bb)), (a_j, (oc2 a_as a_sk)), (a_as, (arI G 8 k_as)), (a_sk, (arJ G 50 k_sk)), (a_l, (arW G 6 f_l)), (a_pt, (arI G 200 k_pt)), (a_ha, (oc0 a_h a_k e_f1 e_f2 e_f3))] H ∧ va_D A [(a_k, (oc5 a_h a_j a_pt k_ln k_se k_lh k_br k_we k_me k_ce k_wy k_ho k_ov)), (a_h, (oc1 e_wa e_le e_st e_fo e_lc a_l a_g a_b a_s a_p a_w e_gb a_bb)), (a_g, (oc6 6 5 a_gn e_g)), (a_gn, (arI G 30 f_g)), (a_b, (oc6 5 24 a_bn e_b)), (a_bn, (arI G 120 f_b)), (a_p, (oc6 8 5 a_pn e_p)), (a_pn, (arI G 40 f_p)), (a_w, (oc6 6 6 a_wn e_w)), (a_wn, (arI G 36 f_w)), (a_bb, (arJ G 24 f_bb)), (a_j, (oc2 a_as a_sk)), (a_as, (arI G 8 k_as)), (a_sk, (arJ G 50 k_sk)), (a_l, (arW G 6 f_l)), (a_pt, (arI G 200 k_pt)), (a_ha, (oc0 a_h a_k e_f1 e_f2 e_f3))] ∧ va_S A s.heap H locs ∧ (0 ≤ k_i.toInt ∧ k_i.toInt ≤ 6) ∧ (0 ≤ k_ov.toInt ∧ k_ov.toInt ≤ 1) ∧ (k_i.toInt ≤ e_w.toInt)) (fun (q : (Int32) × (Int32) × (Int32) × (Int32) × (Int32) × (Int32) × (Int32) × (Int32) × (Int32) × (Int32) × (Int32) × (Nat → Int32) × (Nat → Int32) × (Nat → Int64) × (Int32)) => match q with | (k_i, k_b, k_se, k_lh, k_br, k_we, k_me, k_ce, k_wy, k_ho, k_ov, k_pt, k_as, k_sk, k_ln) => Int.toNat (6 - k_i.toInt)) (0, 0, e_se, e_lh, e_br, e_we, e_me, e_ce, e_wy, e_ho, e_ov, f_pt, f_as, f_sk, e_ln) ⟨lv_sub hl [2, 0, 1, 3, 4] rfl, hP, hD, hS, ⟨by decide, by decide⟩, h_e_ov, by have z0 : (0 : Int32).toInt = 0 := (by decide +kernel); omega⟩ ?_
  rintro ⟨k_i, k_b, k_se, k_lh, k_br, k_we, k_me, k_ce, k_wy, k_ho, k_ov, k_pt, k_as, k_sk, k_ln⟩ ls H locs ⟨hl, hP, hD, hS, (i_1 : 0 ≤ k_i.toInt ∧ k_i.toInt ≤ 6), (i_2 : 0 ≤ k_ov.toInt ∧ k_ov.toInt ≤ 1), (i_3 : k_i.toInt ≤ e_w.toInt)⟩ ih_13_4
  replace hl : lv_has ls 6 [(2, .int k_b), (4, .int k_i), (3, .ref a_w), (0, .ref a_ha), (1, .int p_u)] := hl
  refine g5_rs [(a_k, (oc5 a_h a_j a_pt k_ln k_se k_lh k_br k_we k_me k_ce k_wy k_ho k_ov)), (a_h, (oc1 e_wa e_le e_st e_fo e_lc a_l a_g a_b a_s a_p a_w e_gb a_bb)), (a_g, (oc6 6 5 a_gn e_g)), (a_gn, (arI G 30 f_g)), (a_b, (oc6 5 24 a_bn e_b)), (a_bn, (arI G 120 f_b)), (a_p, (oc6 8 5 a_pn e_p)), (a_pn, (arI G 40 f_p)), (a_w, (oc6 6 6 a_wn e_w)), (a_wn, (arI G 36 f_w)), (a_bb, (arJ G 24 f_bb)), (a_j, (oc2 a_as a_sk)), (a_as, (arI G 8 k_as)), (a_sk, (arJ G 50 k_sk)), (a_l, (arW G 6 f_l)), (a_pt, (arI G 200 k_pt)), (a_ha, (oc0 a_h a_k e_f1 e_f2 e_f3))] hP hD ?_
  clear hP hD
  intro hP hD
  refine lv_iload hx hb dX0_lacking_13 (lv_at hl 1 rfl) ?_
  refine lv_aload_n hx hb dX0_lacking_15 rfl (lv_at hl 2 rfl) ?_
  refine va_get (D := G.1) (ci := 6) (v := .int e_w) (C := RX6) (T := TX6) (N := 4) hx hb hts inG_X6 hown hK hP 8 rfl rfl 3 (by decide +kernel) (hts _ fl_X0_25) (fun _ h9 => h9) rfl dX0_lacking_16 ?_
  refine lv_icmp_ge (tgt := 112) hx hb dX0_lacking_19 (by decide +kernel) (fun c_5 => ?_) (fun c_5 => ?_)
  ·
    have i_5 : k_i.toInt ≥ e_w.toInt := g5_ge (a := k_i.toInt) (b := e_w.toInt) rfl rfl c_5
    refine lv_iload_n hx hb dX0_lacking_112 rfl (lv_at hl 0 rfl) ?_
    exact W.iret (v := k_b) hx hb hr (fun t ht hW => ⟨⟨k_b, [(a_k, (oc5 a_h a_j a_pt k_ln k_se k_lh k_br k_we k_me k_ce k_wy k_ho k_ov)), (a_h, (oc1 e_wa e_le e_st e_fo e_lc a_l a_g a_b a_s a_p a_w e_gb a_bb)), (a_g, (oc6 6 5 a_gn e_g)), (a_gn, (arI G 30 f_g)), (a_b, (oc6 5 24 a_bn e_b)), (a_bn, (arI G 120 f_b)), (a_p, (oc6 8 5 a_pn e_p)), (a_pn, (arI G 40 f_p)), (a_w, (oc6 6 6 a_wn e_w)), (a_wn, (arI G 36 f_w)), (a_bb, (arJ G 24 f_bb)), (a_j, (oc2 a_as a_sk)), (a_as, (arI G 8 k_as)), (a_sk, (arJ G 50 k_sk)), (a_l, (arW G 6 f_l)), (a_pt, (arI G 200 k_pt)), (a_ha, (oc0 a_h a_k e_f1 e_f2 e_f3))], rfl, ⟨k_b, k_ln, k_se, k_lh, k_br, k_we, k_me, k_ce, k_wy, k_ho, k_ov, k_pt, k_as, k_sk, i_2, rfl, rfl⟩, by rw [ht]; exact hP.sub [0, 1, 2, 3, 4, 5, 6, 7, 8, 9, 10, 11, 12, 13, 14, 15, 16] rfl, hD.sub [0, 1, 2, 3, 4, 5, 6, 7, 8, 9, 10, 11, 12, 13, 14, 15, 16] (by decide +kernel) rfl⟩, hS.F ht⟩) hS.2.2 dX0_lacking_113
  ·
    have i_5 : k_i.toInt < e_w.toInt := g5_geN (a := k_i.toInt) (b := e_w.toInt) rfl rfl c_5
    refine lv_aload_n hx hb dX0_lacking_22 rfl (lv_at hl 3 rfl) ?_
    refine va_get (D := G.1) (ci := 0) (v := .ref a_k) (C := RX0) (T := TX0) (N := 5) hx hb hts inG_X0 hown hK hP 16 rfl rfl 1 (by decide +kernel) (hts _ fl_X0_15) (fun _ h9 => h9) rfl dX0_lacking_23 ?_
    refine lv_aload_n hx hb dX0_lacking_26 rfl (lv_at hl 2 rfl) ?_
    refine lv_iload hx hb dX0_lacking_27 (lv_at hl 1 rfl) ?_
    refine W.eq (g2 := F0 m 29 ls [.int k_i, .ref a_w, .ref a_k]) rfl ?_
    refine lv_iconst (v := 0) hx hb dX0_lacking_29 (by decide +kernel) ?_
    obtain ⟨hPc, hDc, hFc⟩ := g5_sub3 (wc := [(a_w, (oc6 6 6 a_wn e_w)), (a_wn, (arI G 36 f_w))]) hP hD hS hA [8, 9] (by decide +kernel) rfl
    refine va_calli (va_runV (As := [.int k_i, .int 0]) (rest := [.ref a_k]) ⟨hx, hb, hml, hown, hts⟩ (t_get_W l G a_w a_wn H.size e_w k_i 0 f_w h_e_w) (cwV 2 hts gV_X0_31 rfl rfl rfl hv_X6_get ⟨Nat.le_of_ble_eq_true rfl, Nat.le_of_ble_eq_true rfl⟩) (g5_preV hPc hK hDc hN hT hS hFc (ci := 6) (q0 := 0) rfl rfl) rfl rfl hl.1 rfl (lv_room (Nat.le_of_ble_eq_true rfl)) dX0_lacking_30 ⟨Nat.le_of_ble_eq_true rfl, Nat.le_of_ble_eq_true rfl⟩) hS (fun q _ h => hFc q h) hFc (fun r u t H locs ht hvm hw hB hz1 hk1 hS => ?_)
    obtain ⟨hP1, hD1⟩ := hB
    have hP1 := g5_ht ht hP1
    obtain ⟨z7, (i_6 : z7 = tget f_w e_w.toInt 6 k_i.toInt (0 : Int32).toInt), y8, rfl⟩ := hw
    have hJ9 := va_join (wr := [(a_k, (oc5 a_h a_j a_pt k_ln k_se k_lh k_br k_we k_me k_ce k_wy k_ho k_ov)), (a_h, (oc1 e_wa e_le e_st e_fo e_lc a_l a_g a_b a_s a_p a_w e_gb a_bb)), (a_g, (oc6 6 5 a_gn e_g)), (a_gn, (arI G 30 f_g)), (a_b, (oc6 5 24 a_bn e_b)), (a_bn, (arI G 120 f_b)), (a_p, (oc6 8 5 a_pn e_p)), (a_pn, (arI G 40 f_p)), (a_bb, (arJ G 24 f_bb)), (a_j, (oc2 a_as a_sk)), (a_as, (arI G 8 k_as)), (a_sk, (arJ G 50 k_sk)), (a_l, (arW G 6 f_l)), (a_pt, (arI G 200 k_pt)), (a_ha, (oc0 a_h a_k e_f1 e_f2 e_f3))]) hP hD [8, 9] [0, 1, 2, 3, 4, 5, 6, 7, 10, 11, 12, 13, 14, 15, 16] rfl rfl (by decide +kernel) (by decide +kernel) hk1 hFc hP1 hD1
    clear hP hD hPc hDc hFc ht hvm hz1 hk1 hP1 hD1
    obtain ⟨hP, hD⟩ := hJ9
    refine g5_rs [(a_k, (oc5 a_h a_j a_pt k_ln k_se k_lh k_br k_we k_me k_ce k_wy k_ho k_ov)), (a_h, (oc1 e_wa e_le e_st e_fo e_lc a_l a_g a_b a_s a_p a_w e_gb a_bb)), (a_g, (oc6 6 5 a_gn e_g)), (a_gn, (arI G 30 f_g)), (a_b, (oc6 5 24 a_bn e_b)), (a_bn, (arI G 120 f_b)), (a_p, (oc6 8 5 a_pn e_p)), (a_pn, (arI G 40 f_p)), (a_bb, (arJ G 24 f_bb)), (a_j, (oc2 a_as a_sk)), (a_as, (arI G 8 k_as)), (a_sk, (arJ G 50 k_sk)), (a_l, (arW G 6 f_l)), (a_pt, (arI G 200 k_pt)), (a_ha, (oc0 a_h a_k e_f1 e_f2 e_f3)), (a_w, (oc6 6 6 a_wn e_w)), (a_wn, (arI G 36 f_w))] hP hD ?_
    clear hP hD
    intro hP hD
    refine g5_ti (v := z7) y8 ?_
    refine lv_aload_n hx hb dX0_lacking_33 rfl (lv_at hl 2 rfl) ?_
    refine lv_iload hx hb dX0_lacking_34 (lv_at hl 1 rfl) ?_
    refine lv_iconst (v := 1) hx hb dX0_lacking_36 (by decide +kernel) ?_
    refine W.eq (g2 := F0 m 37 ls [.int 1, .int k_i, .ref a_w, .int z7, .ref a_k]) rfl ?_
    obtain ⟨hPc, hDc, hFc⟩ := g5_sub3 (wc := [(a_w, (oc6 6 6 a_wn e_w)), (a_wn, (arI G 36 f_w))]) hP hD hS hA [15, 16] (by decide +kernel) rfl
    refine va_calli (va_runV (As := [.int k_i, .int 1]) (rest := [.int z7, .ref a_k]) ⟨hx, hb, hml, hown, hts⟩ (t_get_W l G a_w a_wn H.size e_w k_i 1 f_w h_e_w) (cwV 2 hts gV_X0_31 rfl rfl rfl hv_X6_get ⟨Nat.le_of_ble_eq_true rfl, Nat.le_of_ble_eq_true rfl⟩) (g5_preV hPc hK hDc hN hT hS hFc (ci := 6) (q0 := 0) rfl rfl) rfl rfl hl.1 rfl (lv_room (Nat.le_of_ble_eq_true rfl)) dX0_lacking_37 ⟨Nat.le_of_ble_eq_true rfl, Nat.le_of_ble_eq_true rfl⟩) hS (fun q _ h => hFc q h) hFc (fun r u t H locs ht hvm hw hB hz1 hk1 hS => ?_)
    obtain ⟨hP1, hD1⟩ := hB
    have hP1 := g5_ht ht hP1
    obtain ⟨z10, (i_9 : z10 = tget f_w e_w.toInt 6 k_i.toInt (1 : Int32).toInt), y11, rfl⟩ := hw
    have hJ9 := va_join (wr := [(a_k, (oc5 a_h a_j a_pt k_ln k_se k_lh k_br k_we k_me k_ce k_wy k_ho k_ov)), (a_h, (oc1 e_wa e_le e_st e_fo e_lc a_l a_g a_b a_s a_p a_w e_gb a_bb)), (a_g, (oc6 6 5 a_gn e_g)), (a_gn, (arI G 30 f_g)), (a_b, (oc6 5 24 a_bn e_b)), (a_bn, (arI G 120 f_b)), (a_p, (oc6 8 5 a_pn e_p)), (a_pn, (arI G 40 f_p)), (a_bb, (arJ G 24 f_bb)), (a_j, (oc2 a_as a_sk)), (a_as, (arI G 8 k_as)), (a_sk, (arJ G 50 k_sk)), (a_l, (arW G 6 f_l)), (a_pt, (arI G 200 k_pt)), (a_ha, (oc0 a_h a_k e_f1 e_f2 e_f3))]) hP hD [15, 16] [0, 1, 2, 3, 4, 5, 6, 7, 8, 9, 10, 11, 12, 13, 14] rfl rfl (by decide +kernel) (by decide +kernel) hk1 hFc hP1 hD1
    clear hP hD hPc hDc hFc ht hvm hz1 hk1 hP1 hD1
    obtain ⟨hP, hD⟩ := hJ9
    refine g5_rs [(a_k, (oc5 a_h a_j a_pt k_ln k_se k_lh k_br k_we k_me k_ce k_wy k_ho k_ov)), (a_h, (oc1 e_wa e_le e_st e_fo e_lc a_l a_g a_b a_s a_p a_w e_gb a_bb)), (a_g, (oc6 6 5 a_gn e_g)), (a_gn, (arI G 30 f_g)), (a_b, (oc6 5 24 a_bn e_b)), (a_bn, (arI G 120 f_b)), (a_p, (oc6 8 5 a_pn e_p)), (a_pn, (arI G 40 f_p)), (a_bb, (arJ G 24 f_bb)), (a_j, (oc2 a_as a_sk)), (a_as, (arI G 8 k_as)), (a_sk, (arJ G 50 k_sk)), (a_l, (arW G 6 f_l)), (a_pt, (arI G 200 k_pt)), (a_ha, (oc0 a_h a_k e_f1 e_f2 e_f3)), (a_w, (oc6 6 6 a_wn e_w)), (a_wn, (arI G 36 f_w))] hP hD ?_
    clear hP hD
    intro hP hD
    refine g5_ti (v := z10) y11 ?_
    refine lv_aload_n hx hb dX0_lacking_40 rfl (lv_at hl 2 rfl) ?_
    refine lv_iload hx hb dX0_lacking_41 (lv_at hl 1 rfl) ?_
    refine lv_iconst (v := 2) hx hb dX0_lacking_43 (by decide +kernel) ?_
    obtain ⟨hPc, hDc, hFc⟩ := g5_sub3 (wc := [(a_w, (oc6 6 6 a_wn e_w)), (a_wn, (arI G 36 f_w))]) hP hD hS hA [15, 16] (by decide +kernel) rfl
    refine va_calli (va_runV (As := [.int k_i, .int 2]) (rest := [.int z10, .int z7, .ref a_k]) ⟨hx, hb, hml, hown, hts⟩ (t_get_W l G a_w a_wn H.size e_w k_i 2 f_w h_e_w) (cwV 2 hts gV_X0_31 rfl rfl rfl hv_X6_get ⟨Nat.le_of_ble_eq_true rfl, Nat.le_of_ble_eq_true rfl⟩) (g5_preV hPc hK hDc hN hT hS hFc (ci := 6) (q0 := 0) rfl rfl) rfl rfl hl.1 rfl (lv_room (Nat.le_of_ble_eq_true rfl)) dX0_lacking_44 ⟨Nat.le_of_ble_eq_true rfl, Nat.le_of_ble_eq_true rfl⟩) hS (fun q _ h => hFc q h) hFc (fun r u t H locs ht hvm hw hB hz1 hk1 hS => ?_)
    obtain ⟨hP1, hD1⟩ := hB
    have hP1 := g5_ht ht hP1
    obtain ⟨z13, (i_12 : z13 = tget f_w e_w.toInt 6 k_i.toInt (2 : Int32).toInt), y14, rfl⟩ := hw
    have hJ9 := va_join (wr := [(a_k, (oc5 a_h a_j a_pt k_ln k_se k_lh k_br k_we k_me k_ce k_wy k_ho k_ov)), (a_h, (oc1 e_wa e_le e_st e_fo e_lc a_l a_g a_b a_s a_p a_w e_gb a_bb)), (a_g, (oc6 6 5 a_gn e_g)), (a_gn, (arI G 30 f_g)), (a_b, (oc6 5 24 a_bn e_b)), (a_bn, (arI G 120 f_b)), (a_p, (oc6 8 5 a_pn e_p)), (a_pn, (arI G 40 f_p)), (a_bb, (arJ G 24 f_bb)), (a_j, (oc2 a_as a_sk)), (a_as, (arI G 8 k_as)), (a_sk, (arJ G 50 k_sk)), (a_l, (arW G 6 f_l)), (a_pt, (arI G 200 k_pt)), (a_ha, (oc0 a_h a_k e_f1 e_f2 e_f3))]) hP hD [15, 16] [0, 1, 2, 3, 4, 5, 6, 7, 8, 9, 10, 11, 12, 13, 14] rfl rfl (by decide +kernel) (by decide +kernel) hk1 hFc hP1 hD1
    clear hP hD hPc hDc hFc ht hvm hz1 hk1 hP1 hD1
    obtain ⟨hP, hD⟩ := hJ9
    refine g5_rs [(a_k, (oc5 a_h a_j a_pt k_ln k_se k_lh k_br k_we k_me k_ce k_wy k_ho k_ov)), (a_h, (oc1 e_wa e_le e_st e_fo e_lc a_l a_g a_b a_s a_p a_w e_gb a_bb)), (a_g, (oc6 6 5 a_gn e_g)), (a_gn, (arI G 30 f_g)), (a_b, (oc6 5 24 a_bn e_b)), (a_bn, (arI G 120 f_b)), (a_p, (oc6 8 5 a_pn e_p)), (a_pn, (arI G 40 f_p)), (a_bb, (arJ G 24 f_bb)), (a_j, (oc2 a_as a_sk)), (a_as, (arI G 8 k_as)), (a_sk, (arJ G 50 k_sk)), (a_l, (arW G 6 f_l)), (a_pt, (arI G 200 k_pt)), (a_ha, (oc0 a_h a_k e_f1 e_f2 e_f3)), (a_w, (oc6 6 6 a_wn e_w)), (a_wn, (arI G 36 f_w))] hP hD ?_
    clear hP hD
    intro hP hD
    refine g5_ti (v := z13) y14 ?_
    refine W.eq (g2 := F0 m 47 ls [.int z13, .int z10, .int z7, .ref a_k]) rfl ?_
    refine lv_iload_n hx hb dX0_lacking_47 rfl (lv_at hl 4 rfl) ?_
    obtain ⟨hPc, hDc, hFc⟩ := g5_sub3 (wc := [(a_k, (oc5 a_h a_j a_pt k_ln k_se k_lh k_br k_we k_me k_ce k_wy k_ho k_ov)), (a_h, (oc1 e_wa e_le e_st e_fo e_lc a_l a_g a_b a_s a_p a_w e_gb a_bb)), (a_g, (oc6 6 5 a_gn e_g)), (a_gn, (arI G 30 f_g)), (a_b, (oc6 5 24 a_bn e_b)), (a_bn, (arI G 120 f_b)), (a_p, (oc6 8 5 a_pn e_p)), (a_pn, (arI G 40 f_p)), (a_bb, (arJ G 24 f_bb)), (a_j, (oc2 a_as a_sk)), (a_as, (arI G 8 k_as)), (a_sk, (arJ G 50 k_sk)), (a_l, (arW G 6 f_l)), (a_pt, (arI G 200 k_pt))]) hP hD hS hA [0, 1, 2, 3, 4, 5, 6, 7, 8, 9, 10, 11, 12, 13] (by decide +kernel) rfl
    refine va_callv (va_runV (As := [.int z7, .int z10, .int z13, .int p_u]) (rest := []) ⟨hx, hb, hml, hown, hts⟩ (k_runN l G a_k a_h a_g a_gn a_b a_bn a_p a_pn a_bb a_j a_as a_sk a_l a_pt a_s a_w H.size e_le e_st e_fo e_lc e_g e_b e_p k_ln k_se k_lh k_br k_we k_me k_ce k_wy k_ho k_ov z7 z10 z13 p_u e_wa e_gb f_g f_b f_p f_bb k_as k_sk f_l k_pt h_e_g h_e_b h_e_p i_2 (e_gk) (e_pk) (e_gi) (e_f)) (cwV 4 hts gV_X0_35 rfl rfl rfl hv_X5_run ⟨Nat.le_of_ble_eq_true rfl, Nat.le_of_ble_eq_true rfl⟩) (g5_preV hPc hK hDc hN hT hS hFc (ci := 5) (q0 := 0) rfl rfl) rfl rfl hl.1 rfl (lv_room (Nat.le_of_ble_eq_true rfl)) dX0_lacking_48 ⟨Nat.le_of_ble_eq_true rfl, Nat.le_of_ble_eq_true rfl⟩) hS (fun q _ h => hFc q h) hFc (fun u t H locs ht hvm hw hB hz1 hk1 hS => ?_)
    obtain ⟨hP1, hD1⟩ := hB
    have hP1 := g5_ht ht hP1
    obtain ⟨z18, z19, z20, z21, z22, z23, z24, z25, z26, z27, z28, z29, z30, (i_15 : 0 ≤ z18.toInt ∧ z18.toInt ≤ 200), (i_16 : 0 ≤ z27.toInt ∧ z27.toInt ≤ 1), (i_17 : ∀ j : Nat, (j : Int) < z18.toInt → 0 ≤ (z28 j).toInt ∧ (z28 j).toInt ≤ 1535), rfl⟩ := hw
    have hJ9 := va_join (wr := [(a_ha, (oc0 a_h a_k e_f1 e_f2 e_f3)), (a_w, (oc6 6 6 a_wn e_w)), (a_wn, (arI G 36 f_w))]) hP hD [0, 1, 2, 3, 4, 5, 6, 7, 8, 9, 10, 11, 12, 13] [14, 15, 16] rfl rfl (by decide +kernel) (by decide +kernel) hk1 hFc hP1 hD1
    clear hP hD hPc hDc hFc ht hvm hz1 hk1 hP1 hD1
    obtain ⟨hP, hD⟩ := hJ9
    refine g5_rs [(a_ha, (oc0 a_h a_k e_f1 e_f2 e_f3)), (a_w, (oc6 6 6 a_wn e_w)), (a_wn, (arI G 36 f_w)), (a_k, (oc5 a_h a_j a_pt z18 z19 z20 z21 z22 z23 z24 z25 z26 z27)), (a_h, (oc1 e_wa e_le e_st e_fo e_lc a_l a_g a_b a_s a_p a_w e_gb a_bb)), (a_g, (oc6 6 5 a_gn e_g)), (a_gn, (arI G 30 f_g)), (a_b, (oc6 5 24 a_bn e_b)), (a_bn, (arI G 120 f_b)), (a_p, (oc6 8 5 a_pn e_p)), (a_pn, (arI G 40 f_p)), (a_bb, (arJ G 24 f_bb)), (a_j, (oc2 a_as a_sk)), (a_as, (arI G 8 z29)), (a_sk, (arJ G 50 z30)), (a_l, (arW G 6 f_l)), (a_pt, (arI G 200 z28))] hP hD ?_
    clear hP hD
    intro hP hD
    refine lv_aload_n hx hb dX0_lacking_51 rfl (lv_at hl 3 rfl) ?_
    refine va_get (D := G.1) (ci := 0) (v := .ref a_k) (C := RX0) (T := TX0) (N := 5) hx hb hts inG_X0 hown hK hP 0 rfl rfl 1 (by decide +kernel) (hts _ fl_X0_15) (fun _ h9 => h9) rfl dX0_lacking_52 ?_
    refine lv_aload_n hx hb dX0_lacking_55 rfl (lv_at hl 2 rfl) ?_
    refine W.eq (g2 := F0 m 56 ls [.ref a_w, .ref a_k]) rfl ?_
    refine lv_iload hx hb dX0_lacking_56 (lv_at hl 1 rfl) ?_
    refine lv_iconst (v := 4) hx hb dX0_lacking_58 (by decide +kernel) ?_
    obtain ⟨hPc, hDc, hFc⟩ := g5_sub3 (wc := [(a_w, (oc6 6 6 a_wn e_w)), (a_wn, (arI G 36 f_w))]) hP hD hS hA [1, 2] (by decide +kernel) rfl
    refine va_calli (va_runV (As := [.int k_i, .int 4]) (rest := [.ref a_k]) ⟨hx, hb, hml, hown, hts⟩ (t_get_W l G a_w a_wn H.size e_w k_i 4 f_w h_e_w) (cwV 2 hts gV_X0_31 rfl rfl rfl hv_X6_get ⟨Nat.le_of_ble_eq_true rfl, Nat.le_of_ble_eq_true rfl⟩) (g5_preV hPc hK hDc hN hT hS hFc (ci := 6) (q0 := 0) rfl rfl) rfl rfl hl.1 rfl (lv_room (Nat.le_of_ble_eq_true rfl)) dX0_lacking_59 ⟨Nat.le_of_ble_eq_true rfl, Nat.le_of_ble_eq_true rfl⟩) hS (fun q _ h => hFc q h) hFc (fun r u t H locs ht hvm hw hB hz1 hk1 hS => ?_)
    obtain ⟨hP1, hD1⟩ := hB
    have hP1 := g5_ht ht hP1
    obtain ⟨z32, (i_31 : z32 = tget f_w e_w.toInt 6 k_i.toInt (4 : Int32).toInt), y33, rfl⟩ := hw
    have hJ9 := va_join (wr := [(a_ha, (oc0 a_h a_k e_f1 e_f2 e_f3)), (a_k, (oc5 a_h a_j a_pt z18 z19 z20 z21 z22 z23 z24 z25 z26 z27)), (a_h, (oc1 e_wa e_le e_st e_fo e_lc a_l a_g a_b a_s a_p a_w e_gb a_bb)), (a_g, (oc6 6 5 a_gn e_g)), (a_gn, (arI G 30 f_g)), (a_b, (oc6 5 24 a_bn e_b)), (a_bn, (arI G 120 f_b)), (a_p, (oc6 8 5 a_pn e_p)), (a_pn, (arI G 40 f_p)), (a_bb, (arJ G 24 f_bb)), (a_j, (oc2 a_as a_sk)), (a_as, (arI G 8 z29)), (a_sk, (arJ G 50 z30)), (a_l, (arW G 6 f_l)), (a_pt, (arI G 200 z28))]) hP hD [1, 2] [0, 3, 4, 5, 6, 7, 8, 9, 10, 11, 12, 13, 14, 15, 16] rfl rfl (by decide +kernel) (by decide +kernel) hk1 hFc hP1 hD1
    clear hP hD hPc hDc hFc ht hvm hz1 hk1 hP1 hD1
    obtain ⟨hP, hD⟩ := hJ9
    refine g5_rs [(a_ha, (oc0 a_h a_k e_f1 e_f2 e_f3)), (a_k, (oc5 a_h a_j a_pt z18 z19 z20 z21 z22 z23 z24 z25 z26 z27)), (a_h, (oc1 e_wa e_le e_st e_fo e_lc a_l a_g a_b a_s a_p a_w e_gb a_bb)), (a_g, (oc6 6 5 a_gn e_g)), (a_gn, (arI G 30 f_g)), (a_b, (oc6 5 24 a_bn e_b)), (a_bn, (arI G 120 f_b)), (a_p, (oc6 8 5 a_pn e_p)), (a_pn, (arI G 40 f_p)), (a_bb, (arJ G 24 f_bb)), (a_j, (oc2 a_as a_sk)), (a_as, (arI G 8 z29)), (a_sk, (arJ G 50 z30)), (a_l, (arW G 6 f_l)), (a_pt, (arI G 200 z28)), (a_w, (oc6 6 6 a_wn e_w)), (a_wn, (arI G 36 f_w))] hP hD ?_
    clear hP hD
    intro hP hD
    refine g5_ti (v := z32) y33 ?_
    refine lv_bipush (v := 64) hx hb dX0_lacking_62 (by decide +kernel) ?_
    refine lv_imul hx hb dX0_lacking_64 ?_
    refine W.eq (g2 := F0 m 65 ls [.int (z32 * 64), .ref a_k]) rfl ?_
    refine lv_aload_n hx hb dX0_lacking_65 rfl (lv_at hl 2 rfl) ?_
    refine lv_iload hx hb dX0_lacking_66 (lv_at hl 1 rfl) ?_
    refine lv_iconst (v := 3) hx hb dX0_lacking_68 (by decide +kernel) ?_
    obtain ⟨hPc, hDc, hFc⟩ := g5_sub3 (wc := [(a_w, (oc6 6 6 a_wn e_w)), (a_wn, (arI G 36 f_w))]) hP hD hS hA [15, 16] (by decide +kernel) rfl
    refine va_calli (va_runV (As := [.int k_i, .int 3]) (rest := [.int (z32 * 64), .ref a_k]) ⟨hx, hb, hml, hown, hts⟩ (t_get_W l G a_w a_wn H.size e_w k_i 3 f_w h_e_w) (cwV 2 hts gV_X0_31 rfl rfl rfl hv_X6_get ⟨Nat.le_of_ble_eq_true rfl, Nat.le_of_ble_eq_true rfl⟩) (g5_preV hPc hK hDc hN hT hS hFc (ci := 6) (q0 := 0) rfl rfl) rfl rfl hl.1 rfl (lv_room (Nat.le_of_ble_eq_true rfl)) dX0_lacking_69 ⟨Nat.le_of_ble_eq_true rfl, Nat.le_of_ble_eq_true rfl⟩) hS (fun q _ h => hFc q h) hFc (fun r u t H locs ht hvm hw hB hz1 hk1 hS => ?_)
    obtain ⟨hP1, hD1⟩ := hB
    have hP1 := g5_ht ht hP1
    obtain ⟨z35, (i_34 : z35 = tget f_w e_w.toInt 6 k_i.toInt (3 : Int32).toInt), y36, rfl⟩ := hw
    have hJ9 := va_join (wr := [(a_ha, (oc0 a_h a_k e_f1 e_f2 e_f3)), (a_k, (oc5 a_h a_j a_pt z18 z19 z20 z21 z22 z23 z24 z25 z26 z27)), (a_h, (oc1 e_wa e_le e_st e_fo e_lc a_l a_g a_b a_s a_p a_w e_gb a_bb)), (a_g, (oc6 6 5 a_gn e_g)), (a_gn, (arI G 30 f_g)), (a_b, (oc6 5 24 a_bn e_b)), (a_bn, (arI G 120 f_b)), (a_p, (oc6 8 5 a_pn e_p)), (a_pn, (arI G 40 f_p)), (a_bb, (arJ G 24 f_bb)), (a_j, (oc2 a_as a_sk)), (a_as, (arI G 8 z29)), (a_sk, (arJ G 50 z30)), (a_l, (arW G 6 f_l)), (a_pt, (arI G 200 z28))]) hP hD [15, 16] [0, 1, 2, 3, 4, 5, 6, 7, 8, 9, 10, 11, 12, 13, 14] rfl rfl (by decide +kernel) (by decide +kernel) hk1 hFc hP1 hD1
    clear hP hD hPc hDc hFc ht hvm hz1 hk1 hP1 hD1
    obtain ⟨hP, hD⟩ := hJ9
    refine g5_rs [(a_ha, (oc0 a_h a_k e_f1 e_f2 e_f3)), (a_k, (oc5 a_h a_j a_pt z18 z19 z20 z21 z22 z23 z24 z25 z26 z27)), (a_h, (oc1 e_wa e_le e_st e_fo e_lc a_l a_g a_b a_s a_p a_w e_gb a_bb)), (a_g, (oc6 6 5 a_gn e_g)), (a_gn, (arI G 30 f_g)), (a_b, (oc6 5 24 a_bn e_b)), (a_bn, (arI G 120 f_b)), (a_p, (oc6 8 5 a_pn e_p)), (a_pn, (arI G 40 f_p)), (a_bb, (arJ G 24 f_bb)), (a_j, (oc2 a_as a_sk)), (a_as, (arI G 8 z29)), (a_sk, (arJ G 50 z30)), (a_l, (arW G 6 f_l)), (a_pt, (arI G 200 z28)), (a_w, (oc6 6 6 a_wn e_w)), (a_wn, (arI G 36 f_w))] hP hD ?_
    clear hP hD
    intro hP hD
    refine g5_ti (v := z35) y36 ?_
    refine lv_iadd hx hb dX0_lacking_72 ?_
    refine W.eq (g2 := F0 m 73 ls [.int ((z32 * 64) + z35), .ref a_k]) rfl ?_
    obtain ⟨hPc, hDc, hFc⟩ := g5_sub3 (wc := [(a_k, (oc5 a_h a_j a_pt z18 z19 z20 z21 z22 z23 z24 z25 z26 z27)), (a_pt, (arI G 200 z28))]) hP hD hS hA [1, 14] (by decide +kernel) rfl
    refine va_calli (va_runV (As := [.int ((z32 * 64) + z35)]) (rest := []) ⟨hx, hb, hml, hown, hts⟩ (s_hasPoint l G a_k a_pt a_h a_j H.size z18 z19 z20 z21 z22 z23 z24 z25 z26 z27 ((z32 * 64) + z35) z28 i_15 i_16) (cwV 1 hts gV_X0_41 rfl rfl rfl hv_X5_hasPoint ⟨Nat.le_of_ble_eq_true rfl, Nat.le_of_ble_eq_true rfl⟩) (g5_preV hPc hK hDc hN hT hS hFc (ci := 5) (q0 := 0) rfl rfl) rfl rfl hl.1 rfl (lv_room (Nat.le_of_ble_eq_true rfl)) dX0_lacking_73 ⟨Nat.le_of_ble_eq_true rfl, Nat.le_of_ble_eq_true rfl⟩) hS (fun q _ h => hFc q h) hFc (fun r u t H locs ht hvm hw hB hz1 hk1 hS => ?_)
    obtain ⟨hP1, hD1⟩ := hB
    have hP1 := g5_ht ht hP1
    obtain ⟨z38, (i_37 : 0 ≤ z38.toInt ∧ z38.toInt ≤ 1), y39, rfl⟩ := hw
    have hJ9 := va_join (wr := [(a_ha, (oc0 a_h a_k e_f1 e_f2 e_f3)), (a_h, (oc1 e_wa e_le e_st e_fo e_lc a_l a_g a_b a_s a_p a_w e_gb a_bb)), (a_g, (oc6 6 5 a_gn e_g)), (a_gn, (arI G 30 f_g)), (a_b, (oc6 5 24 a_bn e_b)), (a_bn, (arI G 120 f_b)), (a_p, (oc6 8 5 a_pn e_p)), (a_pn, (arI G 40 f_p)), (a_bb, (arJ G 24 f_bb)), (a_j, (oc2 a_as a_sk)), (a_as, (arI G 8 z29)), (a_sk, (arJ G 50 z30)), (a_l, (arW G 6 f_l)), (a_w, (oc6 6 6 a_wn e_w)), (a_wn, (arI G 36 f_w))]) hP hD [1, 14] [0, 2, 3, 4, 5, 6, 7, 8, 9, 10, 11, 12, 13, 15, 16] rfl rfl (by decide +kernel) (by decide +kernel) hk1 hFc hP1 hD1
    clear hP hD hPc hDc hFc ht hvm hz1 hk1 hP1 hD1
    obtain ⟨hP, hD⟩ := hJ9
    refine g5_rs [(a_ha, (oc0 a_h a_k e_f1 e_f2 e_f3)), (a_h, (oc1 e_wa e_le e_st e_fo e_lc a_l a_g a_b a_s a_p a_w e_gb a_bb)), (a_g, (oc6 6 5 a_gn e_g)), (a_gn, (arI G 30 f_g)), (a_b, (oc6 5 24 a_bn e_b)), (a_bn, (arI G 120 f_b)), (a_p, (oc6 8 5 a_pn e_p)), (a_pn, (arI G 40 f_p)), (a_bb, (arJ G 24 f_bb)), (a_j, (oc2 a_as a_sk)), (a_as, (arI G 8 z29)), (a_sk, (arJ G 50 z30)), (a_l, (arW G 6 f_l)), (a_w, (oc6 6 6 a_wn e_w)), (a_wn, (arI G 36 f_w)), (a_k, (oc5 a_h a_j a_pt z18 z19 z20 z21 z22 z23 z24 z25 z26 z27)), (a_pt, (arI G 200 z28))] hP hD ?_
    clear hP hD
    intro hP hD
    refine g5_ti (v := z38) y39 ?_
    refine lv_istore (lv' := [(5, .int z38), (2, .int k_b), (4, .int k_i), (3, .ref a_w), (0, .ref a_ha), (1, .int p_u)]) hx hb dX0_lacking_76 hl (by decide +kernel) rfl ?_
    clear hl
    intro ls hl
    refine lv_iload hx hb dX0_lacking_78 (lv_at hl 0 rfl) ?_
    refine lv_aload_n hx hb dX0_lacking_80 rfl (lv_at hl 3 rfl) ?_
    refine lv_iload hx hb dX0_lacking_81 (lv_at hl 2 rfl) ?_
    refine W.eq (g2 := F0 m 83 ls [.int k_i, .ref a_w, .int z38]) rfl ?_
    refine lv_iconst (v := 5) hx hb dX0_lacking_83 (by decide +kernel) ?_
    obtain ⟨hPc, hDc, hFc⟩ := g5_sub3 (wc := [(a_w, (oc6 6 6 a_wn e_w)), (a_wn, (arI G 36 f_w))]) hP hD hS hA [13, 14] (by decide +kernel) rfl
    refine va_calli (va_runV (As := [.int k_i, .int 5]) (rest := [.int z38]) ⟨hx, hb, hml, hown, hts⟩ (t_get_W l G a_w a_wn H.size e_w k_i 5 f_w h_e_w) (cwV 2 hts gV_X0_31 rfl rfl rfl hv_X6_get ⟨Nat.le_of_ble_eq_true rfl, Nat.le_of_ble_eq_true rfl⟩) (g5_preV hPc hK hDc hN hT hS hFc (ci := 6) (q0 := 0) rfl rfl) rfl rfl hl.1 rfl (lv_room (Nat.le_of_ble_eq_true rfl)) dX0_lacking_84 ⟨Nat.le_of_ble_eq_true rfl, Nat.le_of_ble_eq_true rfl⟩) hS (fun q _ h => hFc q h) hFc (fun r u t H locs ht hvm hw hB hz1 hk1 hS => ?_)
    obtain ⟨hP1, hD1⟩ := hB
    have hP1 := g5_ht ht hP1
    obtain ⟨z41, (i_40 : z41 = tget f_w e_w.toInt 6 k_i.toInt (5 : Int32).toInt), y42, rfl⟩ := hw
    have hJ9 := va_join (wr := [(a_ha, (oc0 a_h a_k e_f1 e_f2 e_f3)), (a_h, (oc1 e_wa e_le e_st e_fo e_lc a_l a_g a_b a_s a_p a_w e_gb a_bb)), (a_g, (oc6 6 5 a_gn e_g)), (a_gn, (arI G 30 f_g)), (a_b, (oc6 5 24 a_bn e_b)), (a_bn, (arI G 120 f_b)), (a_p, (oc6 8 5 a_pn e_p)), (a_pn, (arI G 40 f_p)), (a_bb, (arJ G 24 f_bb)), (a_j, (oc2 a_as a_sk)), (a_as, (arI G 8 z29)), (a_sk, (arJ G 50 z30)), (a_l, (arW G 6 f_l)), (a_k, (oc5 a_h a_j a_pt z18 z19 z20 z21 z22 z23 z24 z25 z26 z27)), (a_pt, (arI G 200 z28))]) hP hD [13, 14] [0, 1, 2, 3, 4, 5, 6, 7, 8, 9, 10, 11, 12, 15, 16] rfl rfl (by decide +kernel) (by decide +kernel) hk1 hFc hP1 hD1
    clear hP hD hPc hDc hFc ht hvm hz1 hk1 hP1 hD1
    obtain ⟨hP, hD⟩ := hJ9
    refine g5_rs [(a_ha, (oc0 a_h a_k e_f1 e_f2 e_f3)), (a_h, (oc1 e_wa e_le e_st e_fo e_lc a_l a_g a_b a_s a_p a_w e_gb a_bb)), (a_g, (oc6 6 5 a_gn e_g)), (a_gn, (arI G 30 f_g)), (a_b, (oc6 5 24 a_bn e_b)), (a_bn, (arI G 120 f_b)), (a_p, (oc6 8 5 a_pn e_p)), (a_pn, (arI G 40 f_p)), (a_bb, (arJ G 24 f_bb)), (a_j, (oc2 a_as a_sk)), (a_as, (arI G 8 z29)), (a_sk, (arJ G 50 z30)), (a_l, (arW G 6 f_l)), (a_k, (oc5 a_h a_j a_pt z18 z19 z20 z21 z22 z23 z24 z25 z26 z27)), (a_pt, (arI G 200 z28)), (a_w, (oc6 6 6 a_wn e_w)), (a_wn, (arI G 36 f_w))] hP hD ?_
    clear hP hD
    intro hP hD
    refine g5_ti (v := z41) y42 ?_
    refine lv_iconst (v := 1) hx hb dX0_lacking_87 (by decide +kernel) ?_
    refine lv_icmp_ne (tgt := 95) hx hb dX0_lacking_88 (by decide +kernel) (fun c_43 => ?_) (fun c_43 => ?_)
    ·
      have n_43 : gNe (z41.toInt) (1) := g5_ne (a := z41.toInt) (b := 1) rfl (by decide +kernel) c_43
      refine lv_iconst (v := 0) hx hb dX0_lacking_95 (by decide +kernel) ?_
      refine lv_icmp_eq (tgt := 106) hx hb dX0_lacking_96 (by decide +kernel) (fun c_44 => ?_) (fun c_44 => ?_)
      ·
        have i_44 : z38.toInt = 0 := g5_eq (a := z38.toInt) (b := 0) rfl (by decide +kernel) c_44
        refine lv_iinc (v := (k_i + 1)) (lv' := [(4, .int (k_i + 1)), (5, .int z38), (2, .int k_b), (3, .ref a_w), (0, .ref a_ha), (1, .int p_u)]) hx hb dX0_lacking_106 hl (k := 2) rfl rfl (by decide +kernel) rfl ?_
        clear hl
        intro ls hl
        have t_45 : (k_i + 1).toInt = k_i.toInt + 1 := g5_iadd (a := k_i.toInt) (b := 1) rfl (by decide +kernel) (by omega) (by omega)
        refine lv_goto (tgt := 13) hx hb dX0_lacking_109 (by decide +kernel) ?_
        exact ih_13_4 ((k_i + 1), k_b, z19, z20, z21, z22, z23, z24, z25, z26, z27, z28, z29, z30, z18) ls H locs (show Int.toNat (6 - (k_i + 1).toInt) < Int.toNat (6 - k_i.toInt) from g_up (show k_i.toInt < (k_i + 1).toInt by omega) (show k_i.toInt < 6 by omega)) ⟨lv_sub hl [2, 0, 3, 4, 5] rfl, hP.sub [13, 1, 2, 3, 4, 5, 6, 7, 15, 16, 8, 9, 10, 11, 12, 14, 0] rfl, hD.sub [13, 1, 2, 3, 4, 5, 6, 7, 15, 16, 8, 9, 10, 11, 12, 14, 0] (by decide +kernel) rfl, hS, ⟨by omega, by omega⟩, i_16, by omega⟩
      ·
        have n_44 : gNe (z38.toInt) (0) := g5_eqN (a := z38.toInt) (b := 0) rfl (by decide +kernel) c_44
        have i_44 : z38.toInt ≥ 1 := by have z := g5_eqN (a := z38.toInt) (b := 0) (by rfl) (by decide +kernel) c_44; omega
        refine lv_iload_n hx hb dX0_lacking_99 rfl (lv_at hl 1 rfl) ?_
        refine lv_iconst (v := 1) hx hb dX0_lacking_100 (by decide +kernel) ?_
        refine lv_iload hx hb dX0_lacking_101 (lv_at hl 2 rfl) ?_
        refine lv_ishl hx hb dX0_lacking_103 ?_
        refine W.eq (g2 := F0 m 104 ls [.int (1 <<< (k_i &&& 31)), .int k_b]) rfl ?_
        refine lv_ior hx hb dX0_lacking_104 ?_
        refine lv_istore_n (lv' := [(2, .int (k_b ||| (1 <<< (k_i &&& 31)))), (5, .int z38), (4, .int k_i), (3, .ref a_w), (0, .ref a_ha), (1, .int p_u)]) hx hb dX0_lacking_105 rfl hl (by decide +kernel) rfl ?_
        clear hl
        intro ls hl
        refine lv_iinc (v := (k_i + 1)) (lv' := [(4, .int (k_i + 1)), (2, .int (k_b ||| (1 <<< (k_i &&& 31)))), (5, .int z38), (3, .ref a_w), (0, .ref a_ha), (1, .int p_u)]) hx hb dX0_lacking_106 hl (k := 2) rfl rfl (by decide +kernel) rfl ?_
        clear hl
        intro ls hl
        have t_46 : (k_i + 1).toInt = k_i.toInt + 1 := g5_iadd (a := k_i.toInt) (b := 1) rfl (by decide +kernel) (by omega) (by omega)
        refine lv_goto (tgt := 13) hx hb dX0_lacking_109 (by decide +kernel) ?_
        exact ih_13_4 ((k_i + 1), (k_b ||| (1 <<< (k_i &&& 31))), z19, z20, z21, z22, z23, z24, z25, z26, z27, z28, z29, z30, z18) ls H locs (show Int.toNat (6 - (k_i + 1).toInt) < Int.toNat (6 - k_i.toInt) from g_up (show k_i.toInt < (k_i + 1).toInt by omega) (show k_i.toInt < 6 by omega)) ⟨lv_sub hl [1, 0, 3, 4, 5] rfl, hP.sub [13, 1, 2, 3, 4, 5, 6, 7, 15, 16, 8, 9, 10, 11, 12, 14, 0] rfl, hD.sub [13, 1, 2, 3, 4, 5, 6, 7, 15, 16, 8, 9, 10, 11, 12, 14, 0] (by decide +kernel) rfl, hS, ⟨by omega, by omega⟩, i_16, by omega⟩
    ·
      have i_43 : z41.toInt = 1 := g5_neN (a := z41.toInt) (b := 1) rfl (by decide +kernel) c_43
      refine lv_iconst (v := 1) hx hb dX0_lacking_91 (by decide +kernel) ?_
      refine lv_goto (tgt := 96) hx hb dX0_lacking_92 (by decide +kernel) ?_
      refine lv_icmp_eq (tgt := 106) hx hb dX0_lacking_96 (by decide +kernel) (fun c_47 => ?_) (fun c_47 => ?_)
      ·
        have i_47 : z38.toInt = 1 := g5_eq (a := z38.toInt) (b := 1) rfl (by decide +kernel) c_47
        refine lv_iinc (v := (k_i + 1)) (lv' := [(4, .int (k_i + 1)), (5, .int z38), (2, .int k_b), (3, .ref a_w), (0, .ref a_ha), (1, .int p_u)]) hx hb dX0_lacking_106 hl (k := 2) rfl rfl (by decide +kernel) rfl ?_
        clear hl
        intro ls hl
        have t_48 : (k_i + 1).toInt = k_i.toInt + 1 := g5_iadd (a := k_i.toInt) (b := 1) rfl (by decide +kernel) (by omega) (by omega)
        refine lv_goto (tgt := 13) hx hb dX0_lacking_109 (by decide +kernel) ?_
        exact ih_13_4 ((k_i + 1), k_b, z19, z20, z21, z22, z23, z24, z25, z26, z27, z28, z29, z30, z18) ls H locs (show Int.toNat (6 - (k_i + 1).toInt) < Int.toNat (6 - k_i.toInt) from g_up (show k_i.toInt < (k_i + 1).toInt by omega) (show k_i.toInt < 6 by omega)) ⟨lv_sub hl [2, 0, 3, 4, 5] rfl, hP.sub [13, 1, 2, 3, 4, 5, 6, 7, 15, 16, 8, 9, 10, 11, 12, 14, 0] rfl, hD.sub [13, 1, 2, 3, 4, 5, 6, 7, 15, 16, 8, 9, 10, 11, 12, 14, 0] (by decide +kernel) rfl, hS, ⟨by omega, by omega⟩, i_16, by omega⟩
      ·
        have n_47 : gNe (z38.toInt) (1) := g5_eqN (a := z38.toInt) (b := 1) rfl (by decide +kernel) c_47
        have i_47 : z38.toInt ≤ 0 := by have z := g5_eqN (a := z38.toInt) (b := 1) (by rfl) (by decide +kernel) c_47; omega
        refine lv_iload_n hx hb dX0_lacking_99 rfl (lv_at hl 1 rfl) ?_
        refine lv_iconst (v := 1) hx hb dX0_lacking_100 (by decide +kernel) ?_
        refine lv_iload hx hb dX0_lacking_101 (lv_at hl 2 rfl) ?_
        refine lv_ishl hx hb dX0_lacking_103 ?_
        refine W.eq (g2 := F0 m 104 ls [.int (1 <<< (k_i &&& 31)), .int k_b]) rfl ?_
        refine lv_ior hx hb dX0_lacking_104 ?_
        refine lv_istore_n (lv' := [(2, .int (k_b ||| (1 <<< (k_i &&& 31)))), (5, .int z38), (4, .int k_i), (3, .ref a_w), (0, .ref a_ha), (1, .int p_u)]) hx hb dX0_lacking_105 rfl hl (by decide +kernel) rfl ?_
        clear hl
        intro ls hl
        refine lv_iinc (v := (k_i + 1)) (lv' := [(4, .int (k_i + 1)), (2, .int (k_b ||| (1 <<< (k_i &&& 31)))), (5, .int z38), (3, .ref a_w), (0, .ref a_ha), (1, .int p_u)]) hx hb dX0_lacking_106 hl (k := 2) rfl rfl (by decide +kernel) rfl ?_
        clear hl
        intro ls hl
        have t_49 : (k_i + 1).toInt = k_i.toInt + 1 := g5_iadd (a := k_i.toInt) (b := 1) rfl (by decide +kernel) (by omega) (by omega)
        refine lv_goto (tgt := 13) hx hb dX0_lacking_109 (by decide +kernel) ?_
        exact ih_13_4 ((k_i + 1), (k_b ||| (1 <<< (k_i &&& 31))), z19, z20, z21, z22, z23, z24, z25, z26, z27, z28, z29, z30, z18) ls H locs (show Int.toNat (6 - (k_i + 1).toInt) < Int.toNat (6 - k_i.toInt) from g_up (show k_i.toInt < (k_i + 1).toInt by omega) (show k_i.toInt < 6 by omega)) ⟨lv_sub hl [1, 0, 3, 4, 5] rfl, hP.sub [13, 1, 2, 3, 4, 5, 6, 7, 15, 16, 8, 9, 10, 11, 12, 14, 0] rfl, hD.sub [13, 1, 2, 3, 4, 5, 6, 7, 15, 16, 8, 9, 10, 11, 12, 14, 0] (by decide +kernel) rfl, hS, ⟨by omega, by omega⟩, i_16, by omega⟩
set_option maxHeartbeats 4000000 in
set_option maxRecDepth 100000 in
theorem g_lackingL (l : Launch) (G : g5_G) (a_k a_h a_g a_gn a_b a_bn a_p a_pn a_w a_wn a_bb a_j a_as a_sk a_l a_lo a_sr a_cd a_hd a_pt a_ha a_s : Nat) (sz : Nat) (e_le : Int32) (e_st : Int32) (e_fo : Int32) (e_lc : Int32) (e_g : Int32) (e_b : Int32) (e_p : Int32) (e_w : Int32) (e_cl : Int32) (e_ln : Int32) (e_se : Int32) (e_lh : Int32) (e_br : Int32) (e_we : Int32) (e_me : Int32) (e_ce : Int32) (e_wy : Int32) (e_ho : Int32) (e_ov : Int32) (e_f1 : Int32) (e_f2 : Int32) (e_f3 : Int32) (p_u : Int32) (e_wa : Int64) (e_gb : Int64) (f_g : Nat → Int32) (f_b : Nat → Int32) (f_p : Nat → Int32) (f_w : Nat → Int32) (f_bb : Nat → Int64) (f_as : Nat → Int32) (f_sk : Nat → Int64) (f_l : Nat → Option Nat) (f_sr : Nat → Int32) (f_cd : Nat → Int32) (f_hd : Nat → Int32) (f_pt : Nat → Int32) (n_sr : Nat) (n_cd : Nat) (n_hd : Nat) (h_e_g : 0 ≤ e_g.toInt ∧ e_g.toInt ≤ 6) (h_e_b : 0 ≤ e_b.toInt ∧ e_b.toInt ≤ 5) (h_e_p : 0 ≤ e_p.toInt ∧ e_p.toInt ≤ 8) (h_e_w : 0 ≤ e_w.toInt ∧ e_w.toInt ≤ 6) (h_e_cl : 0 ≤ e_cl.toInt ∧ e_cl.toInt ≤ 12) (h_e_ov : 0 ≤ e_ov.toInt ∧ e_ov.toInt ≤ 1) (e_gk : gOK f_g e_g.toInt) (e_pk : gOK f_p e_p.toInt) (e_gi : inT e_gb f_g e_g.toInt) (e_f : 0 ≤ e_fo.toInt ∧ e_fo.toInt < e_lc.toInt ∧ e_lc.toInt ≤ 6) (e_a : f_l e_fo.toNatClampNeg = some a_lo) (e_hn : n_cd ≤ 400) (e_hs : ∀ j : Nat, j < n_sr → 0 ≤ (f_sr j).toInt ∧ (f_sr j).toInt ≤ (n_cd : Int)) (e_hk : ∀ j : Nat, j < n_cd → (f_cd j >>> (12 &&& 31)).toInt = 1 → (f_cd j &&& 4095).toInt < 8) (e_c : (e_cl.toInt : Int) ≤ (n_hd : Int) ∧ (e_cl.toInt + 1 : Int) ≤ (n_sr : Int)) : Met l yX0_lacking (wsG yX0_lacking cX0_lacking 6 (some .int)) ({ frames := 14, cells := 0, slots := 0, locals := 556 }) (va_Pc [.ref a_ha, .int p_u] (g5_P G [(a_k, (oc5 a_h a_j a_pt e_ln e_se e_lh e_br e_we e_me e_ce e_wy e_ho e_ov)), (a_h, (oc1 e_wa e_le e_st e_fo e_lc a_l a_g a_b a_s a_p a_w e_gb a_bb)), (a_g, (oc6 6 5 a_gn e_g)), (a_gn, (arI G 30 f_g)), (a_b, (oc6 5 24 a_bn e_b)), (a_bn, (arI G 120 f_b)), (a_p, (oc6 8 5 a_pn e_p)), (a_pn, (arI G 40 f_p)), (a_w, (oc6 6 6 a_wn e_w)), (a_wn, (arI G 36 f_w)), (a_bb, (arJ G 24 f_bb)), (a_j, (oc2 a_as a_sk)), (a_as, (arI G 8 f_as)), (a_sk, (arJ G 50 f_sk)), (a_l, (arW G 6 f_l)), (a_lo, (oc3 e_cl a_hd a_sr a_cd)), (a_sr, (arI G n_sr f_sr)), (a_cd, (arI G n_cd f_cd)), (a_hd, (arI G n_hd f_hd)), (a_pt, (arI G 200 f_pt)), (a_ha, (oc0 a_h a_k e_f1 e_f2 e_f3))] sz)) (va_Qi (fun (r : Int32) (u : va_W) => (∃ (o_r : Int32) (o_ln : Int32) (o_se : Int32) (o_lh : Int32) (o_br : Int32) (o_we : Int32) (o_me : Int32) (o_ce : Int32) (o_wy : Int32) (o_ho : Int32) (o_ov : Int32) (o_pt : Nat → Int32) (o_as : Nat → Int32) (o_sk : Nat → Int64), (0 ≤ o_ov.toInt ∧ o_ov.toInt ≤ 1) ∧ (r = o_r) ∧ (u = [(a_k, (oc5 a_h a_j a_pt o_ln o_se o_lh o_br o_we o_me o_ce o_wy o_ho o_ov)), (a_h, (oc1 e_wa e_le e_st e_fo e_lc a_l a_g a_b a_s a_p a_w e_gb a_bb)), (a_g, (oc6 6 5 a_gn e_g)), (a_gn, (arI G 30 f_g)), (a_b, (oc6 5 24 a_bn e_b)), (a_bn, (arI G 120 f_b)), (a_p, (oc6 8 5 a_pn e_p)), (a_pn, (arI G 40 f_p)), (a_w, (oc6 6 6 a_wn e_w)), (a_wn, (arI G 36 f_w)), (a_bb, (arJ G 24 f_bb)), (a_j, (oc2 a_as a_sk)), (a_as, (arI G 8 o_as)), (a_sk, (arJ G 50 o_sk)), (a_l, (arW G 6 f_l)), (a_lo, (oc3 e_cl a_hd a_sr a_cd)), (a_sr, (arI G n_sr f_sr)), (a_cd, (arI G n_cd f_cd)), (a_hd, (arI G n_hd f_hd)), (a_pt, (arI G 200 o_pt)), (a_ha, (oc0 a_h a_k e_f1 e_f2 e_f3))]))) (g5_B G (va_A [(a_k, (oc5 a_h a_j a_pt e_ln e_se e_lh e_br e_we e_me e_ce e_wy e_ho e_ov)), (a_h, (oc1 e_wa e_le e_st e_fo e_lc a_l a_g a_b a_s a_p a_w e_gb a_bb)), (a_g, (oc6 6 5 a_gn e_g)), (a_gn, (arI G 30 f_g)), (a_b, (oc6 5 24 a_bn e_b)), (a_bn, (arI G 120 f_b)), (a_p, (oc6 8 5 a_pn e_p)), (a_pn, (arI G 40 f_p)), (a_w, (oc6 6 6 a_wn e_w)), (a_wn, (arI G 36 f_w)), (a_bb, (arJ G 24 f_bb)), (a_j, (oc2 a_as a_sk)), (a_as, (arI G 8 f_as)), (a_sk, (arJ G 50 f_sk)), (a_l, (arW G 6 f_l)), (a_lo, (oc3 e_cl a_hd a_sr a_cd)), (a_sr, (arI G n_sr f_sr)), (a_cd, (arI G n_cd f_cd)), (a_hd, (arI G n_hd f_hd)), (a_pt, (arI G 200 f_pt)), (a_ha, (oc0 a_h a_k e_f1 e_f2 e_f3))] sz)) (va_A [(a_k, (oc5 a_h a_j a_pt e_ln e_se e_lh e_br e_we e_me e_ce e_wy e_ho e_ov)), (a_h, (oc1 e_wa e_le e_st e_fo e_lc a_l a_g a_b a_s a_p a_w e_gb a_bb)), (a_g, (oc6 6 5 a_gn e_g)), (a_gn, (arI G 30 f_g)), (a_b, (oc6 5 24 a_bn e_b)), (a_bn, (arI G 120 f_b)), (a_p, (oc6 8 5 a_pn e_p)), (a_pn, (arI G 40 f_p)), (a_w, (oc6 6 6 a_wn e_w)), (a_wn, (arI G 36 f_w)), (a_bb, (arJ G 24 f_bb)), (a_j, (oc2 a_as a_sk)), (a_as, (arI G 8 f_as)), (a_sk, (arJ G 50 f_sk)), (a_l, (arW G 6 f_l)), (a_lo, (oc3 e_cl a_hd a_sr a_cd)), (a_sr, (arI G n_sr f_sr)), (a_cd, (arI G n_cd f_cd)), (a_hd, (arI G n_hd f_hd)), (a_pt, (arI G 200 f_pt)), (a_ha, (oc0 a_h a_k e_f1 e_f2 e_f3))] sz)) 0 0 (va_A [(a_k, (oc5 a_h a_j a_pt e_ln e_se e_lh e_br e_we e_me e_ce e_wy e_ho e_ov)), (a_h, (oc1 e_wa e_le e_st e_fo e_lc a_l a_g a_b a_s a_p a_w e_gb a_bb)), (a_g, (oc6 6 5 a_gn e_g)), (a_gn, (arI G 30 f_g)), (a_b, (oc6 5 24 a_bn e_b)), (a_bn, (arI G 120 f_b)), (a_p, (oc6 8 5 a_pn e_p)), (a_pn, (arI G 40 f_p)), (a_w, (oc6 6 6 a_wn e_w)), (a_wn, (arI G 36 f_w)), (a_bb, (arJ G 24 f_bb)), (a_j, (oc2 a_as a_sk)), (a_as, (arI G 8 f_as)), (a_sk, (arJ G 50 f_sk)), (a_l, (arW G 6 f_l)), (a_lo, (oc3 e_cl a_hd a_sr a_cd)), (a_sr, (arI G n_sr f_sr)), (a_cd, (arI G n_cd f_cd)), (a_hd, (arI G n_hd f_hd)), (a_pt, (arI G 200 f_pt)), (a_ha, (oc0 a_h a_k e_f1 e_f2 e_f3))] sz) := by
  refine Met.ofW (cc := cX0_lacking) (maxL := 6) (ret := (some .int)) (by decide +kernel) rfl ?_
  intro p e s m args below meth c s₁ B hml hv
  obtain ⟨rfl, hsz, hP, hK, hD0, hN, hT⟩ := hv
  have hx := B.exec
  have hb := B.bytes
  have hr := B.returns
  have hts : ∀ w ∈ tblG, w.before _ s = true := fun w h => atoms_spec (ws := (wsG yX0_lacking cX0_lacking 6 (some .int))) B.pre w (List.mem_cons_of_mem _ h)
  have hown : s.vm.findClass RX0 = some m.cls := findClass_of_methodNamed B.named
  have hlocks := B.notSynchronized
  subst hsz
  have hD := hD0.self (sz := s.heap.size)
  generalize hAe : va_A [(a_k, (oc5 a_h a_j a_pt e_ln e_se e_lh e_br e_we e_me e_ce e_wy e_ho e_ov)), (a_h, (oc1 e_wa e_le e_st e_fo e_lc a_l a_g a_b a_s a_p a_w e_gb a_bb)), (a_g, (oc6 6 5 a_gn e_g)), (a_gn, (arI G 30 f_g)), (a_b, (oc6 5 24 a_bn e_b)), (a_bn, (arI G 120 f_b)), (a_p, (oc6 8 5 a_pn e_p)), (a_pn, (arI G 40 f_p)), (a_w, (oc6 6 6 a_wn e_w)), (a_wn, (arI G 36 f_w)), (a_bb, (arJ G 24 f_bb)), (a_j, (oc2 a_as a_sk)), (a_as, (arI G 8 f_as)), (a_sk, (arJ G 50 f_sk)), (a_l, (arW G 6 f_l)), (a_lo, (oc3 e_cl a_hd a_sr a_cd)), (a_sr, (arI G n_sr f_sr)), (a_cd, (arI G n_cd f_cd)), (a_hd, (arI G n_hd f_hd)), (a_pt, (arI G 200 f_pt)), (a_ha, (oc0 a_h a_k e_f1 e_f2 e_f3))] s.heap.size = A at hD hT ⊢
  have hA : ∀ q : Nat, s.heap.size ≤ q → A q := fun q h => by rw [← hAe]; exact Or.inr h
  have hS : va_S A s.heap s.heap [] := va_S.rf
  replace hP : va_P G.1 vwCl [(a_k, (oc5 a_h a_j a_pt e_ln e_se e_lh e_br e_we e_me e_ce e_wy e_ho e_ov)), (a_h, (oc1 e_wa e_le e_st e_fo e_lc a_l a_g a_b a_s a_p a_w e_gb a_bb)), (a_g, (oc6 6 5 a_gn e_g)), (a_gn, (arI G 30 f_g)), (a_b, (oc6 5 24 a_bn e_b)), (a_bn, (arI G 120 f_b)), (a_p, (oc6 8 5 a_pn e_p)), (a_pn, (arI G 40 f_p)), (a_w, (oc6 6 6 a_wn e_w)), (a_wn, (arI G 36 f_w)), (a_bb, (arJ G 24 f_bb)), (a_j, (oc2 a_as a_sk)), (a_as, (arI G 8 f_as)), (a_sk, (arJ G 50 f_sk)), (a_l, (arW G 6 f_l)), (a_lo, (oc3 e_cl a_hd a_sr a_cd)), (a_sr, (arI G n_sr f_sr)), (a_cd, (arI G n_cd f_cd)), (a_hd, (arI G n_hd f_hd)), (a_pt, (arI G 200 f_pt)), (a_ha, (oc0 a_h a_k e_f1 e_f2 e_f3))] s.heap := hP
  have hl := lv_entry ([.ref a_ha, .int p_u]) (n := 6) (Nat.le_of_ble_eq_true rfl)
  rw [lg_entry_eq]
  generalize (lg_sl ([.ref a_ha, .int p_u]) ++ List.replicate (6 - (lg_sl ([.ref a_ha, .int p_u])).length) Slot.unset).toArray = ls at hl ⊢
  replace hl : lv_has ls 6 [(0, .ref a_ha), (1, .int p_u)] := hl
  refine lv_iconst (v := 0) hx hb dX0_lacking_0 (by decide +kernel) ?_
  refine lv_istore_n (lv' := [(2, .int 0), (0, .ref a_ha), (1, .int p_u)]) hx hb dX0_lacking_1 rfl hl (by decide +kernel) rfl ?_
  clear hl
  intro ls hl
  refine lv_aload_n hx hb dX0_lacking_2 rfl (lv_at hl 1 rfl) ?_
  refine va_get (D := G.1) (ci := 0) (v := .ref a_h) (C := RX0) (T := TX0) (N := 5) hx hb hts inG_X0 hown hK hP 20 rfl rfl 0 (by decide +kernel) (hts _ fl_X0_9) (fun _ h9 => h9) rfl dX0_lacking_3 ?_
  refine W.eq (g2 := F0 m 6 ls [.ref a_h]) rfl ?_
  refine va_get (D := G.1) (ci := 1) (v := .ref a_w) (C := RX1) (T := TX1) (N := 13) hx hb hts inG_X1 hown hK hP 1 rfl rfl 10 (by decide +kernel) (hts _ fl_X0_19) (fun _ h9 => h9) rfl dX0_lacking_6 ?_
  refine lv_astore_n (lv' := [(3, .ref a_w), (2, .int 0), (0, .ref a_ha), (1, .int p_u)]) hx hb dX0_lacking_9 rfl hl (by decide +kernel) rfl ?_
  clear hl
  intro ls hl
  refine lv_iconst (v := 0) hx hb dX0_lacking_10 (by decide +kernel) ?_
  refine lv_istore (lv' := [(4, .int 0), (3, .ref a_w), (2, .int 0), (0, .ref a_ha), (1, .int p_u)]) hx hb dX0_lacking_11 hl (by decide +kernel) rfl ?_
  clear hl
  intro ls hl
  refine g5_loop (α := (Int32) × (Int32) × (Int32) × (Int32) × (Int32) × (Int32) × (Int32) × (Int32) × (Int32) × (Int32) × (Int32) × (Nat → Int32) × (Nat → Int32) × (Nat → Int64) × (Int32)) (fun (q : (Int32) × (Int32) × (Int32) × (Int32) × (Int32) × (Int32) × (Int32) × (Int32) × (Int32) × (Int32) × (Int32) × (Nat → Int32) × (Nat → Int32) × (Nat → Int64) × (Int32)) (ls : Array Slot) (H : Heap) (locs : List Loc) => match q with | (k_i, k_b, k_se, k_lh, k_br, k_we, k_me, k_ce, k_wy, k_ho, k_ov, k_pt, k_as, k_sk, k_ln) => lv_has ls 6 [(2, .int k_b), (4, .int k_i), (3, .ref a_w), (0, .ref a_ha), (1, .int p_u)] ∧ va_P G.1 vwCl [(a_k, (oc5 a_h a_j a_pt k_ln k_se k_lh k_br k_we k_me k_ce k_wy k_ho k_ov)), (a_h, (oc1 e_wa e_le e_st e_fo e_lc a_l a_g a_b a_s a_p a_w e_gb a_bb)), (a_g, (oc6 6 5 a_gn e_g)), (a_gn, (arI G 30 f_g)), (a_b, (oc6 5 24 a_bn e_b)), (a_bn, (arI G 120 f_b)), (a_p, (oc6 8 5 a_pn e_p)), (a_pn, (arI G 40 f_p)), (a_w, (oc6 6 6 a_wn e_w)), (a_wn, (arI G 36 f_w)), (a_bb, (arJ G 24 f_bb)), (a_j, (oc2 a_as a_sk)), (a_as, (arI G 8 k_as)), (a_sk, (arJ G 50 k_sk)), (a_l, (arW G 6 f_l)), (a_lo, (oc3 e_cl a_hd a_sr a_cd)), (a_sr, (arI G n_sr f_sr)), (a_cd, (arI G n_cd f_cd)), (a_hd, (arI G n_hd f_hd)), (a_pt, (arI G 200 k_pt)), (a_ha, (oc0 a_h a_k e_f1 e_f2 e_f3))] H ∧ va_D A [(a_k, (oc5 a_h a_j a_pt k_ln k_se k_lh k_br k_we k_me k_ce k_wy k_ho k_ov)), (a_h, (oc1 e_wa e_le e_st e_fo e_lc a_l a_g a_b a_s a_p a_w e_gb a_bb)), (a_g, (oc6 6 5 a_gn e_g)), (a_gn, (arI G 30 f_g)), (a_b, (oc6 5 24 a_bn e_b)), (a_bn, (arI G 120 f_b)), (a_p, (oc6 8 5 a_pn e_p)), (a_pn, (arI G 40 f_p)), (a_w, (oc6 6 6 a_wn e_w)), (a_wn, (arI G 36 f_w)), (a_bb, (arJ G 24 f_bb)), (a_j, (oc2 a_as a_sk)), (a_as, (arI G 8 k_as)), (a_sk, (arJ G 50 k_sk)), (a_l, (arW G 6 f_l)), (a_lo, (oc3 e_cl a_hd a_sr a_cd)), (a_sr, (arI G n_sr f_sr)), (a_cd, (arI G n_cd f_cd)), (a_hd, (arI G n_hd f_hd)), (a_pt, (arI G 200 k_pt)), (a_ha, (oc0 a_h a_k e_f1 e_f2 e_f3))] ∧ va_S A s.heap H locs ∧ (0 ≤ k_i.toInt ∧ k_i.toInt ≤ 6) ∧ (0 ≤ k_ov.toInt ∧ k_ov.toInt ≤ 1) ∧ (k_i.toInt ≤ e_w.toInt)) (fun (q : (Int32) × (Int32) × (Int32) × (Int32) × (Int32) × (Int32) × (Int32) × (Int32) × (Int32) × (Int32) × (Int32) × (Nat → Int32) × (Nat → Int32) × (Nat → Int64) × (Int32)) => match q with | (k_i, k_b, k_se, k_lh, k_br, k_we, k_me, k_ce, k_wy, k_ho, k_ov, k_pt, k_as, k_sk, k_ln) => Int.toNat (6 - k_i.toInt)) (0, 0, e_se, e_lh, e_br, e_we, e_me, e_ce, e_wy, e_ho, e_ov, f_pt, f_as, f_sk, e_ln) ⟨lv_sub hl [2, 0, 1, 3, 4] rfl, hP, hD, hS, ⟨by decide, by decide⟩, h_e_ov, by have z0 : (0 : Int32).toInt = 0 := (by decide +kernel); omega⟩ ?_
  rintro ⟨k_i, k_b, k_se, k_lh, k_br, k_we, k_me, k_ce, k_wy, k_ho, k_ov, k_pt, k_as, k_sk, k_ln⟩ ls H locs ⟨hl, hP, hD, hS, (i_1 : 0 ≤ k_i.toInt ∧ k_i.toInt ≤ 6), (i_2 : 0 ≤ k_ov.toInt ∧ k_ov.toInt ≤ 1), (i_3 : k_i.toInt ≤ e_w.toInt)⟩ ih_13_4
  replace hl : lv_has ls 6 [(2, .int k_b), (4, .int k_i), (3, .ref a_w), (0, .ref a_ha), (1, .int p_u)] := hl
  refine g5_rs [(a_k, (oc5 a_h a_j a_pt k_ln k_se k_lh k_br k_we k_me k_ce k_wy k_ho k_ov)), (a_h, (oc1 e_wa e_le e_st e_fo e_lc a_l a_g a_b a_s a_p a_w e_gb a_bb)), (a_g, (oc6 6 5 a_gn e_g)), (a_gn, (arI G 30 f_g)), (a_b, (oc6 5 24 a_bn e_b)), (a_bn, (arI G 120 f_b)), (a_p, (oc6 8 5 a_pn e_p)), (a_pn, (arI G 40 f_p)), (a_w, (oc6 6 6 a_wn e_w)), (a_wn, (arI G 36 f_w)), (a_bb, (arJ G 24 f_bb)), (a_j, (oc2 a_as a_sk)), (a_as, (arI G 8 k_as)), (a_sk, (arJ G 50 k_sk)), (a_l, (arW G 6 f_l)), (a_lo, (oc3 e_cl a_hd a_sr a_cd)), (a_sr, (arI G n_sr f_sr)), (a_cd, (arI G n_cd f_cd)), (a_hd, (arI G n_hd f_hd)), (a_pt, (arI G 200 k_pt)), (a_ha, (oc0 a_h a_k e_f1 e_f2 e_f3))] hP hD ?_
  clear hP hD
  intro hP hD
  refine lv_iload hx hb dX0_lacking_13 (lv_at hl 1 rfl) ?_
  refine lv_aload_n hx hb dX0_lacking_15 rfl (lv_at hl 2 rfl) ?_
  refine va_get (D := G.1) (ci := 6) (v := .int e_w) (C := RX6) (T := TX6) (N := 4) hx hb hts inG_X6 hown hK hP 8 rfl rfl 3 (by decide +kernel) (hts _ fl_X0_25) (fun _ h9 => h9) rfl dX0_lacking_16 ?_
  refine lv_icmp_ge (tgt := 112) hx hb dX0_lacking_19 (by decide +kernel) (fun c_5 => ?_) (fun c_5 => ?_)
  ·
    have i_5 : k_i.toInt ≥ e_w.toInt := g5_ge (a := k_i.toInt) (b := e_w.toInt) rfl rfl c_5
    refine lv_iload_n hx hb dX0_lacking_112 rfl (lv_at hl 0 rfl) ?_
    exact W.iret (v := k_b) hx hb hr (fun t ht hW => ⟨⟨k_b, [(a_k, (oc5 a_h a_j a_pt k_ln k_se k_lh k_br k_we k_me k_ce k_wy k_ho k_ov)), (a_h, (oc1 e_wa e_le e_st e_fo e_lc a_l a_g a_b a_s a_p a_w e_gb a_bb)), (a_g, (oc6 6 5 a_gn e_g)), (a_gn, (arI G 30 f_g)), (a_b, (oc6 5 24 a_bn e_b)), (a_bn, (arI G 120 f_b)), (a_p, (oc6 8 5 a_pn e_p)), (a_pn, (arI G 40 f_p)), (a_w, (oc6 6 6 a_wn e_w)), (a_wn, (arI G 36 f_w)), (a_bb, (arJ G 24 f_bb)), (a_j, (oc2 a_as a_sk)), (a_as, (arI G 8 k_as)), (a_sk, (arJ G 50 k_sk)), (a_l, (arW G 6 f_l)), (a_lo, (oc3 e_cl a_hd a_sr a_cd)), (a_sr, (arI G n_sr f_sr)), (a_cd, (arI G n_cd f_cd)), (a_hd, (arI G n_hd f_hd)), (a_pt, (arI G 200 k_pt)), (a_ha, (oc0 a_h a_k e_f1 e_f2 e_f3))], rfl, ⟨k_b, k_ln, k_se, k_lh, k_br, k_we, k_me, k_ce, k_wy, k_ho, k_ov, k_pt, k_as, k_sk, i_2, rfl, rfl⟩, by rw [ht]; exact hP.sub [0, 1, 2, 3, 4, 5, 6, 7, 8, 9, 10, 11, 12, 13, 14, 15, 16, 17, 18, 19, 20] rfl, hD.sub [0, 1, 2, 3, 4, 5, 6, 7, 8, 9, 10, 11, 12, 13, 14, 15, 16, 17, 18, 19, 20] (by decide +kernel) rfl⟩, hS.F ht⟩) hS.2.2 dX0_lacking_113
  ·
    have i_5 : k_i.toInt < e_w.toInt := g5_geN (a := k_i.toInt) (b := e_w.toInt) rfl rfl c_5
    refine lv_aload_n hx hb dX0_lacking_22 rfl (lv_at hl 3 rfl) ?_
    refine va_get (D := G.1) (ci := 0) (v := .ref a_k) (C := RX0) (T := TX0) (N := 5) hx hb hts inG_X0 hown hK hP 20 rfl rfl 1 (by decide +kernel) (hts _ fl_X0_15) (fun _ h9 => h9) rfl dX0_lacking_23 ?_
    refine lv_aload_n hx hb dX0_lacking_26 rfl (lv_at hl 2 rfl) ?_
    refine lv_iload hx hb dX0_lacking_27 (lv_at hl 1 rfl) ?_
    refine W.eq (g2 := F0 m 29 ls [.int k_i, .ref a_w, .ref a_k]) rfl ?_
    refine lv_iconst (v := 0) hx hb dX0_lacking_29 (by decide +kernel) ?_
    obtain ⟨hPc, hDc, hFc⟩ := g5_sub3 (wc := [(a_w, (oc6 6 6 a_wn e_w)), (a_wn, (arI G 36 f_w))]) hP hD hS hA [8, 9] (by decide +kernel) rfl
    refine va_calli (va_runV (As := [.int k_i, .int 0]) (rest := [.ref a_k]) ⟨hx, hb, hml, hown, hts⟩ (t_get_W l G a_w a_wn H.size e_w k_i 0 f_w h_e_w) (cwV 2 hts gV_X0_31 rfl rfl rfl hv_X6_get ⟨Nat.le_of_ble_eq_true rfl, Nat.le_of_ble_eq_true rfl⟩) (g5_preV hPc hK hDc hN hT hS hFc (ci := 6) (q0 := 0) rfl rfl) rfl rfl hl.1 rfl (lv_room (Nat.le_of_ble_eq_true rfl)) dX0_lacking_30 ⟨Nat.le_of_ble_eq_true rfl, Nat.le_of_ble_eq_true rfl⟩) hS (fun q _ h => hFc q h) hFc (fun r u t H locs ht hvm hw hB hz1 hk1 hS => ?_)
    obtain ⟨hP1, hD1⟩ := hB
    have hP1 := g5_ht ht hP1
    obtain ⟨z7, (i_6 : z7 = tget f_w e_w.toInt 6 k_i.toInt (0 : Int32).toInt), y8, rfl⟩ := hw
    have hJ9 := va_join (wr := [(a_k, (oc5 a_h a_j a_pt k_ln k_se k_lh k_br k_we k_me k_ce k_wy k_ho k_ov)), (a_h, (oc1 e_wa e_le e_st e_fo e_lc a_l a_g a_b a_s a_p a_w e_gb a_bb)), (a_g, (oc6 6 5 a_gn e_g)), (a_gn, (arI G 30 f_g)), (a_b, (oc6 5 24 a_bn e_b)), (a_bn, (arI G 120 f_b)), (a_p, (oc6 8 5 a_pn e_p)), (a_pn, (arI G 40 f_p)), (a_bb, (arJ G 24 f_bb)), (a_j, (oc2 a_as a_sk)), (a_as, (arI G 8 k_as)), (a_sk, (arJ G 50 k_sk)), (a_l, (arW G 6 f_l)), (a_lo, (oc3 e_cl a_hd a_sr a_cd)), (a_sr, (arI G n_sr f_sr)), (a_cd, (arI G n_cd f_cd)), (a_hd, (arI G n_hd f_hd)), (a_pt, (arI G 200 k_pt)), (a_ha, (oc0 a_h a_k e_f1 e_f2 e_f3))]) hP hD [8, 9] [0, 1, 2, 3, 4, 5, 6, 7, 10, 11, 12, 13, 14, 15, 16, 17, 18, 19, 20] rfl rfl (by decide +kernel) (by decide +kernel) hk1 hFc hP1 hD1
    clear hP hD hPc hDc hFc ht hvm hz1 hk1 hP1 hD1
    obtain ⟨hP, hD⟩ := hJ9
    refine g5_rs [(a_k, (oc5 a_h a_j a_pt k_ln k_se k_lh k_br k_we k_me k_ce k_wy k_ho k_ov)), (a_h, (oc1 e_wa e_le e_st e_fo e_lc a_l a_g a_b a_s a_p a_w e_gb a_bb)), (a_g, (oc6 6 5 a_gn e_g)), (a_gn, (arI G 30 f_g)), (a_b, (oc6 5 24 a_bn e_b)), (a_bn, (arI G 120 f_b)), (a_p, (oc6 8 5 a_pn e_p)), (a_pn, (arI G 40 f_p)), (a_bb, (arJ G 24 f_bb)), (a_j, (oc2 a_as a_sk)), (a_as, (arI G 8 k_as)), (a_sk, (arJ G 50 k_sk)), (a_l, (arW G 6 f_l)), (a_lo, (oc3 e_cl a_hd a_sr a_cd)), (a_sr, (arI G n_sr f_sr)), (a_cd, (arI G n_cd f_cd)), (a_hd, (arI G n_hd f_hd)), (a_pt, (arI G 200 k_pt)), (a_ha, (oc0 a_h a_k e_f1 e_f2 e_f3)), (a_w, (oc6 6 6 a_wn e_w)), (a_wn, (arI G 36 f_w))] hP hD ?_
    clear hP hD
    intro hP hD
    refine g5_ti (v := z7) y8 ?_
    refine lv_aload_n hx hb dX0_lacking_33 rfl (lv_at hl 2 rfl) ?_
    refine lv_iload hx hb dX0_lacking_34 (lv_at hl 1 rfl) ?_
    refine lv_iconst (v := 1) hx hb dX0_lacking_36 (by decide +kernel) ?_
    refine W.eq (g2 := F0 m 37 ls [.int 1, .int k_i, .ref a_w, .int z7, .ref a_k]) rfl ?_
    obtain ⟨hPc, hDc, hFc⟩ := g5_sub3 (wc := [(a_w, (oc6 6 6 a_wn e_w)), (a_wn, (arI G 36 f_w))]) hP hD hS hA [19, 20] (by decide +kernel) rfl
    refine va_calli (va_runV (As := [.int k_i, .int 1]) (rest := [.int z7, .ref a_k]) ⟨hx, hb, hml, hown, hts⟩ (t_get_W l G a_w a_wn H.size e_w k_i 1 f_w h_e_w) (cwV 2 hts gV_X0_31 rfl rfl rfl hv_X6_get ⟨Nat.le_of_ble_eq_true rfl, Nat.le_of_ble_eq_true rfl⟩) (g5_preV hPc hK hDc hN hT hS hFc (ci := 6) (q0 := 0) rfl rfl) rfl rfl hl.1 rfl (lv_room (Nat.le_of_ble_eq_true rfl)) dX0_lacking_37 ⟨Nat.le_of_ble_eq_true rfl, Nat.le_of_ble_eq_true rfl⟩) hS (fun q _ h => hFc q h) hFc (fun r u t H locs ht hvm hw hB hz1 hk1 hS => ?_)
    obtain ⟨hP1, hD1⟩ := hB
    have hP1 := g5_ht ht hP1
    obtain ⟨z10, (i_9 : z10 = tget f_w e_w.toInt 6 k_i.toInt (1 : Int32).toInt), y11, rfl⟩ := hw
    have hJ9 := va_join (wr := [(a_k, (oc5 a_h a_j a_pt k_ln k_se k_lh k_br k_we k_me k_ce k_wy k_ho k_ov)), (a_h, (oc1 e_wa e_le e_st e_fo e_lc a_l a_g a_b a_s a_p a_w e_gb a_bb)), (a_g, (oc6 6 5 a_gn e_g)), (a_gn, (arI G 30 f_g)), (a_b, (oc6 5 24 a_bn e_b)), (a_bn, (arI G 120 f_b)), (a_p, (oc6 8 5 a_pn e_p)), (a_pn, (arI G 40 f_p)), (a_bb, (arJ G 24 f_bb)), (a_j, (oc2 a_as a_sk)), (a_as, (arI G 8 k_as)), (a_sk, (arJ G 50 k_sk)), (a_l, (arW G 6 f_l)), (a_lo, (oc3 e_cl a_hd a_sr a_cd)), (a_sr, (arI G n_sr f_sr)), (a_cd, (arI G n_cd f_cd)), (a_hd, (arI G n_hd f_hd)), (a_pt, (arI G 200 k_pt)), (a_ha, (oc0 a_h a_k e_f1 e_f2 e_f3))]) hP hD [19, 20] [0, 1, 2, 3, 4, 5, 6, 7, 8, 9, 10, 11, 12, 13, 14, 15, 16, 17, 18] rfl rfl (by decide +kernel) (by decide +kernel) hk1 hFc hP1 hD1
    clear hP hD hPc hDc hFc ht hvm hz1 hk1 hP1 hD1
    obtain ⟨hP, hD⟩ := hJ9
    refine g5_rs [(a_k, (oc5 a_h a_j a_pt k_ln k_se k_lh k_br k_we k_me k_ce k_wy k_ho k_ov)), (a_h, (oc1 e_wa e_le e_st e_fo e_lc a_l a_g a_b a_s a_p a_w e_gb a_bb)), (a_g, (oc6 6 5 a_gn e_g)), (a_gn, (arI G 30 f_g)), (a_b, (oc6 5 24 a_bn e_b)), (a_bn, (arI G 120 f_b)), (a_p, (oc6 8 5 a_pn e_p)), (a_pn, (arI G 40 f_p)), (a_bb, (arJ G 24 f_bb)), (a_j, (oc2 a_as a_sk)), (a_as, (arI G 8 k_as)), (a_sk, (arJ G 50 k_sk)), (a_l, (arW G 6 f_l)), (a_lo, (oc3 e_cl a_hd a_sr a_cd)), (a_sr, (arI G n_sr f_sr)), (a_cd, (arI G n_cd f_cd)), (a_hd, (arI G n_hd f_hd)), (a_pt, (arI G 200 k_pt)), (a_ha, (oc0 a_h a_k e_f1 e_f2 e_f3)), (a_w, (oc6 6 6 a_wn e_w)), (a_wn, (arI G 36 f_w))] hP hD ?_
    clear hP hD
    intro hP hD
    refine g5_ti (v := z10) y11 ?_
    refine lv_aload_n hx hb dX0_lacking_40 rfl (lv_at hl 2 rfl) ?_
    refine lv_iload hx hb dX0_lacking_41 (lv_at hl 1 rfl) ?_
    refine lv_iconst (v := 2) hx hb dX0_lacking_43 (by decide +kernel) ?_
    obtain ⟨hPc, hDc, hFc⟩ := g5_sub3 (wc := [(a_w, (oc6 6 6 a_wn e_w)), (a_wn, (arI G 36 f_w))]) hP hD hS hA [19, 20] (by decide +kernel) rfl
    refine va_calli (va_runV (As := [.int k_i, .int 2]) (rest := [.int z10, .int z7, .ref a_k]) ⟨hx, hb, hml, hown, hts⟩ (t_get_W l G a_w a_wn H.size e_w k_i 2 f_w h_e_w) (cwV 2 hts gV_X0_31 rfl rfl rfl hv_X6_get ⟨Nat.le_of_ble_eq_true rfl, Nat.le_of_ble_eq_true rfl⟩) (g5_preV hPc hK hDc hN hT hS hFc (ci := 6) (q0 := 0) rfl rfl) rfl rfl hl.1 rfl (lv_room (Nat.le_of_ble_eq_true rfl)) dX0_lacking_44 ⟨Nat.le_of_ble_eq_true rfl, Nat.le_of_ble_eq_true rfl⟩) hS (fun q _ h => hFc q h) hFc (fun r u t H locs ht hvm hw hB hz1 hk1 hS => ?_)
    obtain ⟨hP1, hD1⟩ := hB
    have hP1 := g5_ht ht hP1
    obtain ⟨z13, (i_12 : z13 = tget f_w e_w.toInt 6 k_i.toInt (2 : Int32).toInt), y14, rfl⟩ := hw
    have hJ9 := va_join (wr := [(a_k, (oc5 a_h a_j a_pt k_ln k_se k_lh k_br k_we k_me k_ce k_wy k_ho k_ov)), (a_h, (oc1 e_wa e_le e_st e_fo e_lc a_l a_g a_b a_s a_p a_w e_gb a_bb)), (a_g, (oc6 6 5 a_gn e_g)), (a_gn, (arI G 30 f_g)), (a_b, (oc6 5 24 a_bn e_b)), (a_bn, (arI G 120 f_b)), (a_p, (oc6 8 5 a_pn e_p)), (a_pn, (arI G 40 f_p)), (a_bb, (arJ G 24 f_bb)), (a_j, (oc2 a_as a_sk)), (a_as, (arI G 8 k_as)), (a_sk, (arJ G 50 k_sk)), (a_l, (arW G 6 f_l)), (a_lo, (oc3 e_cl a_hd a_sr a_cd)), (a_sr, (arI G n_sr f_sr)), (a_cd, (arI G n_cd f_cd)), (a_hd, (arI G n_hd f_hd)), (a_pt, (arI G 200 k_pt)), (a_ha, (oc0 a_h a_k e_f1 e_f2 e_f3))]) hP hD [19, 20] [0, 1, 2, 3, 4, 5, 6, 7, 8, 9, 10, 11, 12, 13, 14, 15, 16, 17, 18] rfl rfl (by decide +kernel) (by decide +kernel) hk1 hFc hP1 hD1
    clear hP hD hPc hDc hFc ht hvm hz1 hk1 hP1 hD1
    obtain ⟨hP, hD⟩ := hJ9
    refine g5_rs [(a_k, (oc5 a_h a_j a_pt k_ln k_se k_lh k_br k_we k_me k_ce k_wy k_ho k_ov)), (a_h, (oc1 e_wa e_le e_st e_fo e_lc a_l a_g a_b a_s a_p a_w e_gb a_bb)), (a_g, (oc6 6 5 a_gn e_g)), (a_gn, (arI G 30 f_g)), (a_b, (oc6 5 24 a_bn e_b)), (a_bn, (arI G 120 f_b)), (a_p, (oc6 8 5 a_pn e_p)), (a_pn, (arI G 40 f_p)), (a_bb, (arJ G 24 f_bb)), (a_j, (oc2 a_as a_sk)), (a_as, (arI G 8 k_as)), (a_sk, (arJ G 50 k_sk)), (a_l, (arW G 6 f_l)), (a_lo, (oc3 e_cl a_hd a_sr a_cd)), (a_sr, (arI G n_sr f_sr)), (a_cd, (arI G n_cd f_cd)), (a_hd, (arI G n_hd f_hd)), (a_pt, (arI G 200 k_pt)), (a_ha, (oc0 a_h a_k e_f1 e_f2 e_f3)), (a_w, (oc6 6 6 a_wn e_w)), (a_wn, (arI G 36 f_w))] hP hD ?_
    clear hP hD
    intro hP hD
    refine g5_ti (v := z13) y14 ?_
    refine W.eq (g2 := F0 m 47 ls [.int z13, .int z10, .int z7, .ref a_k]) rfl ?_
    refine lv_iload_n hx hb dX0_lacking_47 rfl (lv_at hl 4 rfl) ?_
    obtain ⟨hPc, hDc, hFc⟩ := g5_sub3 (wc := [(a_k, (oc5 a_h a_j a_pt k_ln k_se k_lh k_br k_we k_me k_ce k_wy k_ho k_ov)), (a_h, (oc1 e_wa e_le e_st e_fo e_lc a_l a_g a_b a_s a_p a_w e_gb a_bb)), (a_g, (oc6 6 5 a_gn e_g)), (a_gn, (arI G 30 f_g)), (a_b, (oc6 5 24 a_bn e_b)), (a_bn, (arI G 120 f_b)), (a_p, (oc6 8 5 a_pn e_p)), (a_pn, (arI G 40 f_p)), (a_bb, (arJ G 24 f_bb)), (a_j, (oc2 a_as a_sk)), (a_as, (arI G 8 k_as)), (a_sk, (arJ G 50 k_sk)), (a_l, (arW G 6 f_l)), (a_lo, (oc3 e_cl a_hd a_sr a_cd)), (a_sr, (arI G n_sr f_sr)), (a_cd, (arI G n_cd f_cd)), (a_hd, (arI G n_hd f_hd)), (a_pt, (arI G 200 k_pt))]) hP hD hS hA [0, 1, 2, 3, 4, 5, 6, 7, 8, 9, 10, 11, 12, 13, 14, 15, 16, 17] (by decide +kernel) rfl
    refine va_callv (va_runV (As := [.int z7, .int z10, .int z13, .int p_u]) (rest := []) ⟨hx, hb, hml, hown, hts⟩ (k_runL l G a_k a_h a_g a_gn a_b a_bn a_p a_pn a_bb a_j a_as a_sk a_l a_lo a_sr a_cd a_hd a_pt a_s a_w H.size e_le e_st e_fo e_lc e_g e_b e_p e_cl k_ln k_se k_lh k_br k_we k_me k_ce k_wy k_ho k_ov z7 z10 z13 p_u e_wa e_gb f_g f_b f_p f_bb k_as k_sk f_l f_sr f_cd f_hd k_pt n_sr n_cd n_hd h_e_g h_e_b h_e_p h_e_cl i_2 (e_gk) (e_pk) (e_gi) (e_f) (e_a) (e_hn) (e_hs) (e_hk) (e_c)) (cwV 4 hts gV_X0_35 rfl rfl rfl hv_X5_run ⟨Nat.le_of_ble_eq_true rfl, Nat.le_of_ble_eq_true rfl⟩) (g5_preV hPc hK hDc hN hT hS hFc (ci := 5) (q0 := 0) rfl rfl) rfl rfl hl.1 rfl (lv_room (Nat.le_of_ble_eq_true rfl)) dX0_lacking_48 ⟨Nat.le_of_ble_eq_true rfl, Nat.le_of_ble_eq_true rfl⟩) hS (fun q _ h => hFc q h) hFc (fun u t H locs ht hvm hw hB hz1 hk1 hS => ?_)
    obtain ⟨hP1, hD1⟩ := hB
    have hP1 := g5_ht ht hP1
    obtain ⟨z18, z19, z20, z21, z22, z23, z24, z25, z26, z27, z28, z29, z30, (i_15 : 0 ≤ z18.toInt ∧ z18.toInt ≤ 200), (i_16 : 0 ≤ z27.toInt ∧ z27.toInt ≤ 1), (i_17 : ∀ j : Nat, (j : Int) < z18.toInt → 0 ≤ (z28 j).toInt ∧ (z28 j).toInt ≤ 1535), rfl⟩ := hw
    have hJ9 := va_join (wr := [(a_ha, (oc0 a_h a_k e_f1 e_f2 e_f3)), (a_w, (oc6 6 6 a_wn e_w)), (a_wn, (arI G 36 f_w))]) hP hD [0, 1, 2, 3, 4, 5, 6, 7, 8, 9, 10, 11, 12, 13, 14, 15, 16, 17] [18, 19, 20] rfl rfl (by decide +kernel) (by decide +kernel) hk1 hFc hP1 hD1
    clear hP hD hPc hDc hFc ht hvm hz1 hk1 hP1 hD1
    obtain ⟨hP, hD⟩ := hJ9
    refine g5_rs [(a_ha, (oc0 a_h a_k e_f1 e_f2 e_f3)), (a_w, (oc6 6 6 a_wn e_w)), (a_wn, (arI G 36 f_w)), (a_k, (oc5 a_h a_j a_pt z18 z19 z20 z21 z22 z23 z24 z25 z26 z27)), (a_h, (oc1 e_wa e_le e_st e_fo e_lc a_l a_g a_b a_s a_p a_w e_gb a_bb)), (a_g, (oc6 6 5 a_gn e_g)), (a_gn, (arI G 30 f_g)), (a_b, (oc6 5 24 a_bn e_b)), (a_bn, (arI G 120 f_b)), (a_p, (oc6 8 5 a_pn e_p)), (a_pn, (arI G 40 f_p)), (a_bb, (arJ G 24 f_bb)), (a_j, (oc2 a_as a_sk)), (a_as, (arI G 8 z29)), (a_sk, (arJ G 50 z30)), (a_l, (arW G 6 f_l)), (a_lo, (oc3 e_cl a_hd a_sr a_cd)), (a_sr, (arI G n_sr f_sr)), (a_cd, (arI G n_cd f_cd)), (a_hd, (arI G n_hd f_hd)), (a_pt, (arI G 200 z28))] hP hD ?_
    clear hP hD
    intro hP hD
    refine lv_aload_n hx hb dX0_lacking_51 rfl (lv_at hl 3 rfl) ?_
    refine va_get (D := G.1) (ci := 0) (v := .ref a_k) (C := RX0) (T := TX0) (N := 5) hx hb hts inG_X0 hown hK hP 0 rfl rfl 1 (by decide +kernel) (hts _ fl_X0_15) (fun _ h9 => h9) rfl dX0_lacking_52 ?_
    refine lv_aload_n hx hb dX0_lacking_55 rfl (lv_at hl 2 rfl) ?_
    refine W.eq (g2 := F0 m 56 ls [.ref a_w, .ref a_k]) rfl ?_
    refine lv_iload hx hb dX0_lacking_56 (lv_at hl 1 rfl) ?_
    refine lv_iconst (v := 4) hx hb dX0_lacking_58 (by decide +kernel) ?_
    obtain ⟨hPc, hDc, hFc⟩ := g5_sub3 (wc := [(a_w, (oc6 6 6 a_wn e_w)), (a_wn, (arI G 36 f_w))]) hP hD hS hA [1, 2] (by decide +kernel) rfl
    refine va_calli (va_runV (As := [.int k_i, .int 4]) (rest := [.ref a_k]) ⟨hx, hb, hml, hown, hts⟩ (t_get_W l G a_w a_wn H.size e_w k_i 4 f_w h_e_w) (cwV 2 hts gV_X0_31 rfl rfl rfl hv_X6_get ⟨Nat.le_of_ble_eq_true rfl, Nat.le_of_ble_eq_true rfl⟩) (g5_preV hPc hK hDc hN hT hS hFc (ci := 6) (q0 := 0) rfl rfl) rfl rfl hl.1 rfl (lv_room (Nat.le_of_ble_eq_true rfl)) dX0_lacking_59 ⟨Nat.le_of_ble_eq_true rfl, Nat.le_of_ble_eq_true rfl⟩) hS (fun q _ h => hFc q h) hFc (fun r u t H locs ht hvm hw hB hz1 hk1 hS => ?_)
    obtain ⟨hP1, hD1⟩ := hB
    have hP1 := g5_ht ht hP1
    obtain ⟨z32, (i_31 : z32 = tget f_w e_w.toInt 6 k_i.toInt (4 : Int32).toInt), y33, rfl⟩ := hw
    have hJ9 := va_join (wr := [(a_ha, (oc0 a_h a_k e_f1 e_f2 e_f3)), (a_k, (oc5 a_h a_j a_pt z18 z19 z20 z21 z22 z23 z24 z25 z26 z27)), (a_h, (oc1 e_wa e_le e_st e_fo e_lc a_l a_g a_b a_s a_p a_w e_gb a_bb)), (a_g, (oc6 6 5 a_gn e_g)), (a_gn, (arI G 30 f_g)), (a_b, (oc6 5 24 a_bn e_b)), (a_bn, (arI G 120 f_b)), (a_p, (oc6 8 5 a_pn e_p)), (a_pn, (arI G 40 f_p)), (a_bb, (arJ G 24 f_bb)), (a_j, (oc2 a_as a_sk)), (a_as, (arI G 8 z29)), (a_sk, (arJ G 50 z30)), (a_l, (arW G 6 f_l)), (a_lo, (oc3 e_cl a_hd a_sr a_cd)), (a_sr, (arI G n_sr f_sr)), (a_cd, (arI G n_cd f_cd)), (a_hd, (arI G n_hd f_hd)), (a_pt, (arI G 200 z28))]) hP hD [1, 2] [0, 3, 4, 5, 6, 7, 8, 9, 10, 11, 12, 13, 14, 15, 16, 17, 18, 19, 20] rfl rfl (by decide +kernel) (by decide +kernel) hk1 hFc hP1 hD1
    clear hP hD hPc hDc hFc ht hvm hz1 hk1 hP1 hD1
    obtain ⟨hP, hD⟩ := hJ9
    refine g5_rs [(a_ha, (oc0 a_h a_k e_f1 e_f2 e_f3)), (a_k, (oc5 a_h a_j a_pt z18 z19 z20 z21 z22 z23 z24 z25 z26 z27)), (a_h, (oc1 e_wa e_le e_st e_fo e_lc a_l a_g a_b a_s a_p a_w e_gb a_bb)), (a_g, (oc6 6 5 a_gn e_g)), (a_gn, (arI G 30 f_g)), (a_b, (oc6 5 24 a_bn e_b)), (a_bn, (arI G 120 f_b)), (a_p, (oc6 8 5 a_pn e_p)), (a_pn, (arI G 40 f_p)), (a_bb, (arJ G 24 f_bb)), (a_j, (oc2 a_as a_sk)), (a_as, (arI G 8 z29)), (a_sk, (arJ G 50 z30)), (a_l, (arW G 6 f_l)), (a_lo, (oc3 e_cl a_hd a_sr a_cd)), (a_sr, (arI G n_sr f_sr)), (a_cd, (arI G n_cd f_cd)), (a_hd, (arI G n_hd f_hd)), (a_pt, (arI G 200 z28)), (a_w, (oc6 6 6 a_wn e_w)), (a_wn, (arI G 36 f_w))] hP hD ?_
    clear hP hD
    intro hP hD
    refine g5_ti (v := z32) y33 ?_
    refine lv_bipush (v := 64) hx hb dX0_lacking_62 (by decide +kernel) ?_
    refine lv_imul hx hb dX0_lacking_64 ?_
    refine W.eq (g2 := F0 m 65 ls [.int (z32 * 64), .ref a_k]) rfl ?_
    refine lv_aload_n hx hb dX0_lacking_65 rfl (lv_at hl 2 rfl) ?_
    refine lv_iload hx hb dX0_lacking_66 (lv_at hl 1 rfl) ?_
    refine lv_iconst (v := 3) hx hb dX0_lacking_68 (by decide +kernel) ?_
    obtain ⟨hPc, hDc, hFc⟩ := g5_sub3 (wc := [(a_w, (oc6 6 6 a_wn e_w)), (a_wn, (arI G 36 f_w))]) hP hD hS hA [19, 20] (by decide +kernel) rfl
    refine va_calli (va_runV (As := [.int k_i, .int 3]) (rest := [.int (z32 * 64), .ref a_k]) ⟨hx, hb, hml, hown, hts⟩ (t_get_W l G a_w a_wn H.size e_w k_i 3 f_w h_e_w) (cwV 2 hts gV_X0_31 rfl rfl rfl hv_X6_get ⟨Nat.le_of_ble_eq_true rfl, Nat.le_of_ble_eq_true rfl⟩) (g5_preV hPc hK hDc hN hT hS hFc (ci := 6) (q0 := 0) rfl rfl) rfl rfl hl.1 rfl (lv_room (Nat.le_of_ble_eq_true rfl)) dX0_lacking_69 ⟨Nat.le_of_ble_eq_true rfl, Nat.le_of_ble_eq_true rfl⟩) hS (fun q _ h => hFc q h) hFc (fun r u t H locs ht hvm hw hB hz1 hk1 hS => ?_)
    obtain ⟨hP1, hD1⟩ := hB
    have hP1 := g5_ht ht hP1
    obtain ⟨z35, (i_34 : z35 = tget f_w e_w.toInt 6 k_i.toInt (3 : Int32).toInt), y36, rfl⟩ := hw
    have hJ9 := va_join (wr := [(a_ha, (oc0 a_h a_k e_f1 e_f2 e_f3)), (a_k, (oc5 a_h a_j a_pt z18 z19 z20 z21 z22 z23 z24 z25 z26 z27)), (a_h, (oc1 e_wa e_le e_st e_fo e_lc a_l a_g a_b a_s a_p a_w e_gb a_bb)), (a_g, (oc6 6 5 a_gn e_g)), (a_gn, (arI G 30 f_g)), (a_b, (oc6 5 24 a_bn e_b)), (a_bn, (arI G 120 f_b)), (a_p, (oc6 8 5 a_pn e_p)), (a_pn, (arI G 40 f_p)), (a_bb, (arJ G 24 f_bb)), (a_j, (oc2 a_as a_sk)), (a_as, (arI G 8 z29)), (a_sk, (arJ G 50 z30)), (a_l, (arW G 6 f_l)), (a_lo, (oc3 e_cl a_hd a_sr a_cd)), (a_sr, (arI G n_sr f_sr)), (a_cd, (arI G n_cd f_cd)), (a_hd, (arI G n_hd f_hd)), (a_pt, (arI G 200 z28))]) hP hD [19, 20] [0, 1, 2, 3, 4, 5, 6, 7, 8, 9, 10, 11, 12, 13, 14, 15, 16, 17, 18] rfl rfl (by decide +kernel) (by decide +kernel) hk1 hFc hP1 hD1
    clear hP hD hPc hDc hFc ht hvm hz1 hk1 hP1 hD1
    obtain ⟨hP, hD⟩ := hJ9
    refine g5_rs [(a_ha, (oc0 a_h a_k e_f1 e_f2 e_f3)), (a_k, (oc5 a_h a_j a_pt z18 z19 z20 z21 z22 z23 z24 z25 z26 z27)), (a_h, (oc1 e_wa e_le e_st e_fo e_lc a_l a_g a_b a_s a_p a_w e_gb a_bb)), (a_g, (oc6 6 5 a_gn e_g)), (a_gn, (arI G 30 f_g)), (a_b, (oc6 5 24 a_bn e_b)), (a_bn, (arI G 120 f_b)), (a_p, (oc6 8 5 a_pn e_p)), (a_pn, (arI G 40 f_p)), (a_bb, (arJ G 24 f_bb)), (a_j, (oc2 a_as a_sk)), (a_as, (arI G 8 z29)), (a_sk, (arJ G 50 z30)), (a_l, (arW G 6 f_l)), (a_lo, (oc3 e_cl a_hd a_sr a_cd)), (a_sr, (arI G n_sr f_sr)), (a_cd, (arI G n_cd f_cd)), (a_hd, (arI G n_hd f_hd)), (a_pt, (arI G 200 z28)), (a_w, (oc6 6 6 a_wn e_w)), (a_wn, (arI G 36 f_w))] hP hD ?_
    clear hP hD
    intro hP hD
    refine g5_ti (v := z35) y36 ?_
    refine lv_iadd hx hb dX0_lacking_72 ?_
    refine W.eq (g2 := F0 m 73 ls [.int ((z32 * 64) + z35), .ref a_k]) rfl ?_
    obtain ⟨hPc, hDc, hFc⟩ := g5_sub3 (wc := [(a_k, (oc5 a_h a_j a_pt z18 z19 z20 z21 z22 z23 z24 z25 z26 z27)), (a_pt, (arI G 200 z28))]) hP hD hS hA [1, 18] (by decide +kernel) rfl
    refine va_calli (va_runV (As := [.int ((z32 * 64) + z35)]) (rest := []) ⟨hx, hb, hml, hown, hts⟩ (s_hasPoint l G a_k a_pt a_h a_j H.size z18 z19 z20 z21 z22 z23 z24 z25 z26 z27 ((z32 * 64) + z35) z28 i_15 i_16) (cwV 1 hts gV_X0_41 rfl rfl rfl hv_X5_hasPoint ⟨Nat.le_of_ble_eq_true rfl, Nat.le_of_ble_eq_true rfl⟩) (g5_preV hPc hK hDc hN hT hS hFc (ci := 5) (q0 := 0) rfl rfl) rfl rfl hl.1 rfl (lv_room (Nat.le_of_ble_eq_true rfl)) dX0_lacking_73 ⟨Nat.le_of_ble_eq_true rfl, Nat.le_of_ble_eq_true rfl⟩) hS (fun q _ h => hFc q h) hFc (fun r u t H locs ht hvm hw hB hz1 hk1 hS => ?_)
    obtain ⟨hP1, hD1⟩ := hB
    have hP1 := g5_ht ht hP1
    obtain ⟨z38, (i_37 : 0 ≤ z38.toInt ∧ z38.toInt ≤ 1), y39, rfl⟩ := hw
    have hJ9 := va_join (wr := [(a_ha, (oc0 a_h a_k e_f1 e_f2 e_f3)), (a_h, (oc1 e_wa e_le e_st e_fo e_lc a_l a_g a_b a_s a_p a_w e_gb a_bb)), (a_g, (oc6 6 5 a_gn e_g)), (a_gn, (arI G 30 f_g)), (a_b, (oc6 5 24 a_bn e_b)), (a_bn, (arI G 120 f_b)), (a_p, (oc6 8 5 a_pn e_p)), (a_pn, (arI G 40 f_p)), (a_bb, (arJ G 24 f_bb)), (a_j, (oc2 a_as a_sk)), (a_as, (arI G 8 z29)), (a_sk, (arJ G 50 z30)), (a_l, (arW G 6 f_l)), (a_lo, (oc3 e_cl a_hd a_sr a_cd)), (a_sr, (arI G n_sr f_sr)), (a_cd, (arI G n_cd f_cd)), (a_hd, (arI G n_hd f_hd)), (a_w, (oc6 6 6 a_wn e_w)), (a_wn, (arI G 36 f_w))]) hP hD [1, 18] [0, 2, 3, 4, 5, 6, 7, 8, 9, 10, 11, 12, 13, 14, 15, 16, 17, 19, 20] rfl rfl (by decide +kernel) (by decide +kernel) hk1 hFc hP1 hD1
    clear hP hD hPc hDc hFc ht hvm hz1 hk1 hP1 hD1
    obtain ⟨hP, hD⟩ := hJ9
    refine g5_rs [(a_ha, (oc0 a_h a_k e_f1 e_f2 e_f3)), (a_h, (oc1 e_wa e_le e_st e_fo e_lc a_l a_g a_b a_s a_p a_w e_gb a_bb)), (a_g, (oc6 6 5 a_gn e_g)), (a_gn, (arI G 30 f_g)), (a_b, (oc6 5 24 a_bn e_b)), (a_bn, (arI G 120 f_b)), (a_p, (oc6 8 5 a_pn e_p)), (a_pn, (arI G 40 f_p)), (a_bb, (arJ G 24 f_bb)), (a_j, (oc2 a_as a_sk)), (a_as, (arI G 8 z29)), (a_sk, (arJ G 50 z30)), (a_l, (arW G 6 f_l)), (a_lo, (oc3 e_cl a_hd a_sr a_cd)), (a_sr, (arI G n_sr f_sr)), (a_cd, (arI G n_cd f_cd)), (a_hd, (arI G n_hd f_hd)), (a_w, (oc6 6 6 a_wn e_w)), (a_wn, (arI G 36 f_w)), (a_k, (oc5 a_h a_j a_pt z18 z19 z20 z21 z22 z23 z24 z25 z26 z27)), (a_pt, (arI G 200 z28))] hP hD ?_
    clear hP hD
    intro hP hD
    refine g5_ti (v := z38) y39 ?_
    refine lv_istore (lv' := [(5, .int z38), (2, .int k_b), (4, .int k_i), (3, .ref a_w), (0, .ref a_ha), (1, .int p_u)]) hx hb dX0_lacking_76 hl (by decide +kernel) rfl ?_
    clear hl
    intro ls hl
    refine lv_iload hx hb dX0_lacking_78 (lv_at hl 0 rfl) ?_
    refine lv_aload_n hx hb dX0_lacking_80 rfl (lv_at hl 3 rfl) ?_
    refine lv_iload hx hb dX0_lacking_81 (lv_at hl 2 rfl) ?_
    refine W.eq (g2 := F0 m 83 ls [.int k_i, .ref a_w, .int z38]) rfl ?_
    refine lv_iconst (v := 5) hx hb dX0_lacking_83 (by decide +kernel) ?_
    obtain ⟨hPc, hDc, hFc⟩ := g5_sub3 (wc := [(a_w, (oc6 6 6 a_wn e_w)), (a_wn, (arI G 36 f_w))]) hP hD hS hA [17, 18] (by decide +kernel) rfl
    refine va_calli (va_runV (As := [.int k_i, .int 5]) (rest := [.int z38]) ⟨hx, hb, hml, hown, hts⟩ (t_get_W l G a_w a_wn H.size e_w k_i 5 f_w h_e_w) (cwV 2 hts gV_X0_31 rfl rfl rfl hv_X6_get ⟨Nat.le_of_ble_eq_true rfl, Nat.le_of_ble_eq_true rfl⟩) (g5_preV hPc hK hDc hN hT hS hFc (ci := 6) (q0 := 0) rfl rfl) rfl rfl hl.1 rfl (lv_room (Nat.le_of_ble_eq_true rfl)) dX0_lacking_84 ⟨Nat.le_of_ble_eq_true rfl, Nat.le_of_ble_eq_true rfl⟩) hS (fun q _ h => hFc q h) hFc (fun r u t H locs ht hvm hw hB hz1 hk1 hS => ?_)
    obtain ⟨hP1, hD1⟩ := hB
    have hP1 := g5_ht ht hP1
    obtain ⟨z41, (i_40 : z41 = tget f_w e_w.toInt 6 k_i.toInt (5 : Int32).toInt), y42, rfl⟩ := hw
    have hJ9 := va_join (wr := [(a_ha, (oc0 a_h a_k e_f1 e_f2 e_f3)), (a_h, (oc1 e_wa e_le e_st e_fo e_lc a_l a_g a_b a_s a_p a_w e_gb a_bb)), (a_g, (oc6 6 5 a_gn e_g)), (a_gn, (arI G 30 f_g)), (a_b, (oc6 5 24 a_bn e_b)), (a_bn, (arI G 120 f_b)), (a_p, (oc6 8 5 a_pn e_p)), (a_pn, (arI G 40 f_p)), (a_bb, (arJ G 24 f_bb)), (a_j, (oc2 a_as a_sk)), (a_as, (arI G 8 z29)), (a_sk, (arJ G 50 z30)), (a_l, (arW G 6 f_l)), (a_lo, (oc3 e_cl a_hd a_sr a_cd)), (a_sr, (arI G n_sr f_sr)), (a_cd, (arI G n_cd f_cd)), (a_hd, (arI G n_hd f_hd)), (a_k, (oc5 a_h a_j a_pt z18 z19 z20 z21 z22 z23 z24 z25 z26 z27)), (a_pt, (arI G 200 z28))]) hP hD [17, 18] [0, 1, 2, 3, 4, 5, 6, 7, 8, 9, 10, 11, 12, 13, 14, 15, 16, 19, 20] rfl rfl (by decide +kernel) (by decide +kernel) hk1 hFc hP1 hD1
    clear hP hD hPc hDc hFc ht hvm hz1 hk1 hP1 hD1
    obtain ⟨hP, hD⟩ := hJ9
    refine g5_rs [(a_ha, (oc0 a_h a_k e_f1 e_f2 e_f3)), (a_h, (oc1 e_wa e_le e_st e_fo e_lc a_l a_g a_b a_s a_p a_w e_gb a_bb)), (a_g, (oc6 6 5 a_gn e_g)), (a_gn, (arI G 30 f_g)), (a_b, (oc6 5 24 a_bn e_b)), (a_bn, (arI G 120 f_b)), (a_p, (oc6 8 5 a_pn e_p)), (a_pn, (arI G 40 f_p)), (a_bb, (arJ G 24 f_bb)), (a_j, (oc2 a_as a_sk)), (a_as, (arI G 8 z29)), (a_sk, (arJ G 50 z30)), (a_l, (arW G 6 f_l)), (a_lo, (oc3 e_cl a_hd a_sr a_cd)), (a_sr, (arI G n_sr f_sr)), (a_cd, (arI G n_cd f_cd)), (a_hd, (arI G n_hd f_hd)), (a_k, (oc5 a_h a_j a_pt z18 z19 z20 z21 z22 z23 z24 z25 z26 z27)), (a_pt, (arI G 200 z28)), (a_w, (oc6 6 6 a_wn e_w)), (a_wn, (arI G 36 f_w))] hP hD ?_
    clear hP hD
    intro hP hD
    refine g5_ti (v := z41) y42 ?_
    refine lv_iconst (v := 1) hx hb dX0_lacking_87 (by decide +kernel) ?_
    refine lv_icmp_ne (tgt := 95) hx hb dX0_lacking_88 (by decide +kernel) (fun c_43 => ?_) (fun c_43 => ?_)
    ·
      have n_43 : gNe (z41.toInt) (1) := g5_ne (a := z41.toInt) (b := 1) rfl (by decide +kernel) c_43
      refine lv_iconst (v := 0) hx hb dX0_lacking_95 (by decide +kernel) ?_
      refine lv_icmp_eq (tgt := 106) hx hb dX0_lacking_96 (by decide +kernel) (fun c_44 => ?_) (fun c_44 => ?_)
      ·
        have i_44 : z38.toInt = 0 := g5_eq (a := z38.toInt) (b := 0) rfl (by decide +kernel) c_44
        refine lv_iinc (v := (k_i + 1)) (lv' := [(4, .int (k_i + 1)), (5, .int z38), (2, .int k_b), (3, .ref a_w), (0, .ref a_ha), (1, .int p_u)]) hx hb dX0_lacking_106 hl (k := 2) rfl rfl (by decide +kernel) rfl ?_
        clear hl
        intro ls hl
        have t_45 : (k_i + 1).toInt = k_i.toInt + 1 := g5_iadd (a := k_i.toInt) (b := 1) rfl (by decide +kernel) (by omega) (by omega)
        refine lv_goto (tgt := 13) hx hb dX0_lacking_109 (by decide +kernel) ?_
        exact ih_13_4 ((k_i + 1), k_b, z19, z20, z21, z22, z23, z24, z25, z26, z27, z28, z29, z30, z18) ls H locs (show Int.toNat (6 - (k_i + 1).toInt) < Int.toNat (6 - k_i.toInt) from g_up (show k_i.toInt < (k_i + 1).toInt by omega) (show k_i.toInt < 6 by omega)) ⟨lv_sub hl [2, 0, 3, 4, 5] rfl, hP.sub [17, 1, 2, 3, 4, 5, 6, 7, 19, 20, 8, 9, 10, 11, 12, 13, 14, 15, 16, 18, 0] rfl, hD.sub [17, 1, 2, 3, 4, 5, 6, 7, 19, 20, 8, 9, 10, 11, 12, 13, 14, 15, 16, 18, 0] (by decide +kernel) rfl, hS, ⟨by omega, by omega⟩, i_16, by omega⟩
      ·
        have n_44 : gNe (z38.toInt) (0) := g5_eqN (a := z38.toInt) (b := 0) rfl (by decide +kernel) c_44
        have i_44 : z38.toInt ≥ 1 := by have z := g5_eqN (a := z38.toInt) (b := 0) (by rfl) (by decide +kernel) c_44; omega
        refine lv_iload_n hx hb dX0_lacking_99 rfl (lv_at hl 1 rfl) ?_
        refine lv_iconst (v := 1) hx hb dX0_lacking_100 (by decide +kernel) ?_
        refine lv_iload hx hb dX0_lacking_101 (lv_at hl 2 rfl) ?_
        refine lv_ishl hx hb dX0_lacking_103 ?_
        refine W.eq (g2 := F0 m 104 ls [.int (1 <<< (k_i &&& 31)), .int k_b]) rfl ?_
        refine lv_ior hx hb dX0_lacking_104 ?_
        refine lv_istore_n (lv' := [(2, .int (k_b ||| (1 <<< (k_i &&& 31)))), (5, .int z38), (4, .int k_i), (3, .ref a_w), (0, .ref a_ha), (1, .int p_u)]) hx hb dX0_lacking_105 rfl hl (by decide +kernel) rfl ?_
        clear hl
        intro ls hl
        refine lv_iinc (v := (k_i + 1)) (lv' := [(4, .int (k_i + 1)), (2, .int (k_b ||| (1 <<< (k_i &&& 31)))), (5, .int z38), (3, .ref a_w), (0, .ref a_ha), (1, .int p_u)]) hx hb dX0_lacking_106 hl (k := 2) rfl rfl (by decide +kernel) rfl ?_
        clear hl
        intro ls hl
        have t_46 : (k_i + 1).toInt = k_i.toInt + 1 := g5_iadd (a := k_i.toInt) (b := 1) rfl (by decide +kernel) (by omega) (by omega)
        refine lv_goto (tgt := 13) hx hb dX0_lacking_109 (by decide +kernel) ?_
        exact ih_13_4 ((k_i + 1), (k_b ||| (1 <<< (k_i &&& 31))), z19, z20, z21, z22, z23, z24, z25, z26, z27, z28, z29, z30, z18) ls H locs (show Int.toNat (6 - (k_i + 1).toInt) < Int.toNat (6 - k_i.toInt) from g_up (show k_i.toInt < (k_i + 1).toInt by omega) (show k_i.toInt < 6 by omega)) ⟨lv_sub hl [1, 0, 3, 4, 5] rfl, hP.sub [17, 1, 2, 3, 4, 5, 6, 7, 19, 20, 8, 9, 10, 11, 12, 13, 14, 15, 16, 18, 0] rfl, hD.sub [17, 1, 2, 3, 4, 5, 6, 7, 19, 20, 8, 9, 10, 11, 12, 13, 14, 15, 16, 18, 0] (by decide +kernel) rfl, hS, ⟨by omega, by omega⟩, i_16, by omega⟩
    ·
      have i_43 : z41.toInt = 1 := g5_neN (a := z41.toInt) (b := 1) rfl (by decide +kernel) c_43
      refine lv_iconst (v := 1) hx hb dX0_lacking_91 (by decide +kernel) ?_
      refine lv_goto (tgt := 96) hx hb dX0_lacking_92 (by decide +kernel) ?_
      refine lv_icmp_eq (tgt := 106) hx hb dX0_lacking_96 (by decide +kernel) (fun c_47 => ?_) (fun c_47 => ?_)
      ·
        have i_47 : z38.toInt = 1 := g5_eq (a := z38.toInt) (b := 1) rfl (by decide +kernel) c_47
        refine lv_iinc (v := (k_i + 1)) (lv' := [(4, .int (k_i + 1)), (5, .int z38), (2, .int k_b), (3, .ref a_w), (0, .ref a_ha), (1, .int p_u)]) hx hb dX0_lacking_106 hl (k := 2) rfl rfl (by decide +kernel) rfl ?_
        clear hl
        intro ls hl
        have t_48 : (k_i + 1).toInt = k_i.toInt + 1 := g5_iadd (a := k_i.toInt) (b := 1) rfl (by decide +kernel) (by omega) (by omega)
        refine lv_goto (tgt := 13) hx hb dX0_lacking_109 (by decide +kernel) ?_
        exact ih_13_4 ((k_i + 1), k_b, z19, z20, z21, z22, z23, z24, z25, z26, z27, z28, z29, z30, z18) ls H locs (show Int.toNat (6 - (k_i + 1).toInt) < Int.toNat (6 - k_i.toInt) from g_up (show k_i.toInt < (k_i + 1).toInt by omega) (show k_i.toInt < 6 by omega)) ⟨lv_sub hl [2, 0, 3, 4, 5] rfl, hP.sub [17, 1, 2, 3, 4, 5, 6, 7, 19, 20, 8, 9, 10, 11, 12, 13, 14, 15, 16, 18, 0] rfl, hD.sub [17, 1, 2, 3, 4, 5, 6, 7, 19, 20, 8, 9, 10, 11, 12, 13, 14, 15, 16, 18, 0] (by decide +kernel) rfl, hS, ⟨by omega, by omega⟩, i_16, by omega⟩
      ·
        have n_47 : gNe (z38.toInt) (1) := g5_eqN (a := z38.toInt) (b := 1) rfl (by decide +kernel) c_47
        have i_47 : z38.toInt ≤ 0 := by have z := g5_eqN (a := z38.toInt) (b := 1) (by rfl) (by decide +kernel) c_47; omega
        refine lv_iload_n hx hb dX0_lacking_99 rfl (lv_at hl 1 rfl) ?_
        refine lv_iconst (v := 1) hx hb dX0_lacking_100 (by decide +kernel) ?_
        refine lv_iload hx hb dX0_lacking_101 (lv_at hl 2 rfl) ?_
        refine lv_ishl hx hb dX0_lacking_103 ?_
        refine W.eq (g2 := F0 m 104 ls [.int (1 <<< (k_i &&& 31)), .int k_b]) rfl ?_
        refine lv_ior hx hb dX0_lacking_104 ?_
        refine lv_istore_n (lv' := [(2, .int (k_b ||| (1 <<< (k_i &&& 31)))), (5, .int z38), (4, .int k_i), (3, .ref a_w), (0, .ref a_ha), (1, .int p_u)]) hx hb dX0_lacking_105 rfl hl (by decide +kernel) rfl ?_
        clear hl
        intro ls hl
        refine lv_iinc (v := (k_i + 1)) (lv' := [(4, .int (k_i + 1)), (2, .int (k_b ||| (1 <<< (k_i &&& 31)))), (5, .int z38), (3, .ref a_w), (0, .ref a_ha), (1, .int p_u)]) hx hb dX0_lacking_106 hl (k := 2) rfl rfl (by decide +kernel) rfl ?_
        clear hl
        intro ls hl
        have t_49 : (k_i + 1).toInt = k_i.toInt + 1 := g5_iadd (a := k_i.toInt) (b := 1) rfl (by decide +kernel) (by omega) (by omega)
        refine lv_goto (tgt := 13) hx hb dX0_lacking_109 (by decide +kernel) ?_
        exact ih_13_4 ((k_i + 1), (k_b ||| (1 <<< (k_i &&& 31))), z19, z20, z21, z22, z23, z24, z25, z26, z27, z28, z29, z30, z18) ls H locs (show Int.toNat (6 - (k_i + 1).toInt) < Int.toNat (6 - k_i.toInt) from g_up (show k_i.toInt < (k_i + 1).toInt by omega) (show k_i.toInt < 6 by omega)) ⟨lv_sub hl [1, 0, 3, 4, 5] rfl, hP.sub [17, 1, 2, 3, 4, 5, 6, 7, 19, 20, 8, 9, 10, 11, 12, 13, 14, 15, 16, 18, 0] rfl, hD.sub [17, 1, 2, 3, 4, 5, 6, 7, 19, 20, 8, 9, 10, 11, 12, 13, 14, 15, 16, 18, 0] (by decide +kernel) rfl, hS, ⟨by omega, by omega⟩, i_16, by omega⟩
theorem dgJ6_bitCount_0f7a4_0 : ∀ r ∈ ([(0, (.iload_n 0, 1)), (1, (.iload_n 0, 1)), (2, (.iconst 1, 1)), (3, (.iushr, 1)), (4, (.ldc_w 265, 3)), (7, (.iand, 1)), (8, (.isub, 1)), (9, (.istore_n 0, 1)), (10, (.iload_n 0, 1)), (11, (.ldc_w 266, 3)), (14, (.iand, 1)), (15, (.iload_n 0, 1)), (16, (.iconst 2, 1)), (17, (.iushr, 1)), (18, (.ldc_w 266, 3)), (21, (.iand, 1)), (22, (.iadd, 1)), (23, (.istore_n 0, 1)), (24, (.iload_n 0, 1)), (25, (.iload_n 0, 1)), (26, (.iconst 4, 1)), (27, (.iushr, 1)), (28, (.iadd, 1)), (29, (.ldc_w 267, 3)), (32, (.iand, 1)), (33, (.istore_n 0, 1)), (34, (.iload_n 0, 1)), (35, (.iload_n 0, 1)), (36, (.bipush 8, 2)), (38, (.iushr, 1)), (39, (.iadd, 1)), (40, (.istore_n 0, 1)), (41, (.iload_n 0, 1)), (42, (.iload_n 0, 1)), (43, (.bipush 16, 2)), (45, (.iushr, 1)), (46, (.iadd, 1)), (47, (.istore_n 0, 1)), (48, (.iload_n 0, 1)), (49, (.bipush 63, 2))] : List (Nat × (Instr × Nat))), decode cJ6_bitCount_0f7a4 r.1 = .ok r.2 := by decide +kernel
theorem dJ6_bitCount_0f7a4_0 : decode cJ6_bitCount_0f7a4 0 = .ok (.iload_n 0, 1) := dgJ6_bitCount_0f7a4_0 (0, (.iload_n 0, 1)) (List.mem_of_getElem? (i := 0) rfl)
theorem dJ6_bitCount_0f7a4_1 : decode cJ6_bitCount_0f7a4 1 = .ok (.iload_n 0, 1) := dgJ6_bitCount_0f7a4_0 (1, (.iload_n 0, 1)) (List.mem_of_getElem? (i := 1) rfl)
theorem dJ6_bitCount_0f7a4_2 : decode cJ6_bitCount_0f7a4 2 = .ok (.iconst 1, 1) := dgJ6_bitCount_0f7a4_0 (2, (.iconst 1, 1)) (List.mem_of_getElem? (i := 2) rfl)
theorem dJ6_bitCount_0f7a4_3 : decode cJ6_bitCount_0f7a4 3 = .ok (.iushr, 1) := dgJ6_bitCount_0f7a4_0 (3, (.iushr, 1)) (List.mem_of_getElem? (i := 3) rfl)
theorem dJ6_bitCount_0f7a4_4 : decode cJ6_bitCount_0f7a4 4 = .ok (.ldc_w 265, 3) := dgJ6_bitCount_0f7a4_0 (4, (.ldc_w 265, 3)) (List.mem_of_getElem? (i := 4) rfl)
theorem dJ6_bitCount_0f7a4_7 : decode cJ6_bitCount_0f7a4 7 = .ok (.iand, 1) := dgJ6_bitCount_0f7a4_0 (7, (.iand, 1)) (List.mem_of_getElem? (i := 5) rfl)
theorem dJ6_bitCount_0f7a4_8 : decode cJ6_bitCount_0f7a4 8 = .ok (.isub, 1) := dgJ6_bitCount_0f7a4_0 (8, (.isub, 1)) (List.mem_of_getElem? (i := 6) rfl)
theorem dJ6_bitCount_0f7a4_9 : decode cJ6_bitCount_0f7a4 9 = .ok (.istore_n 0, 1) := dgJ6_bitCount_0f7a4_0 (9, (.istore_n 0, 1)) (List.mem_of_getElem? (i := 7) rfl)
theorem dJ6_bitCount_0f7a4_10 : decode cJ6_bitCount_0f7a4 10 = .ok (.iload_n 0, 1) := dgJ6_bitCount_0f7a4_0 (10, (.iload_n 0, 1)) (List.mem_of_getElem? (i := 8) rfl)
theorem dJ6_bitCount_0f7a4_11 : decode cJ6_bitCount_0f7a4 11 = .ok (.ldc_w 266, 3) := dgJ6_bitCount_0f7a4_0 (11, (.ldc_w 266, 3)) (List.mem_of_getElem? (i := 9) rfl)
theorem dJ6_bitCount_0f7a4_14 : decode cJ6_bitCount_0f7a4 14 = .ok (.iand, 1) := dgJ6_bitCount_0f7a4_0 (14, (.iand, 1)) (List.mem_of_getElem? (i := 10) rfl)
theorem dJ6_bitCount_0f7a4_15 : decode cJ6_bitCount_0f7a4 15 = .ok (.iload_n 0, 1) := dgJ6_bitCount_0f7a4_0 (15, (.iload_n 0, 1)) (List.mem_of_getElem? (i := 11) rfl)
theorem dJ6_bitCount_0f7a4_16 : decode cJ6_bitCount_0f7a4 16 = .ok (.iconst 2, 1) := dgJ6_bitCount_0f7a4_0 (16, (.iconst 2, 1)) (List.mem_of_getElem? (i := 12) rfl)
theorem dJ6_bitCount_0f7a4_17 : decode cJ6_bitCount_0f7a4 17 = .ok (.iushr, 1) := dgJ6_bitCount_0f7a4_0 (17, (.iushr, 1)) (List.mem_of_getElem? (i := 13) rfl)
theorem dJ6_bitCount_0f7a4_18 : decode cJ6_bitCount_0f7a4 18 = .ok (.ldc_w 266, 3) := dgJ6_bitCount_0f7a4_0 (18, (.ldc_w 266, 3)) (List.mem_of_getElem? (i := 14) rfl)
theorem dJ6_bitCount_0f7a4_21 : decode cJ6_bitCount_0f7a4 21 = .ok (.iand, 1) := dgJ6_bitCount_0f7a4_0 (21, (.iand, 1)) (List.mem_of_getElem? (i := 15) rfl)
theorem dJ6_bitCount_0f7a4_22 : decode cJ6_bitCount_0f7a4 22 = .ok (.iadd, 1) := dgJ6_bitCount_0f7a4_0 (22, (.iadd, 1)) (List.mem_of_getElem? (i := 16) rfl)
theorem dJ6_bitCount_0f7a4_23 : decode cJ6_bitCount_0f7a4 23 = .ok (.istore_n 0, 1) := dgJ6_bitCount_0f7a4_0 (23, (.istore_n 0, 1)) (List.mem_of_getElem? (i := 17) rfl)
theorem dJ6_bitCount_0f7a4_24 : decode cJ6_bitCount_0f7a4 24 = .ok (.iload_n 0, 1) := dgJ6_bitCount_0f7a4_0 (24, (.iload_n 0, 1)) (List.mem_of_getElem? (i := 18) rfl)
theorem dJ6_bitCount_0f7a4_25 : decode cJ6_bitCount_0f7a4 25 = .ok (.iload_n 0, 1) := dgJ6_bitCount_0f7a4_0 (25, (.iload_n 0, 1)) (List.mem_of_getElem? (i := 19) rfl)
theorem dJ6_bitCount_0f7a4_26 : decode cJ6_bitCount_0f7a4 26 = .ok (.iconst 4, 1) := dgJ6_bitCount_0f7a4_0 (26, (.iconst 4, 1)) (List.mem_of_getElem? (i := 20) rfl)
theorem dJ6_bitCount_0f7a4_27 : decode cJ6_bitCount_0f7a4 27 = .ok (.iushr, 1) := dgJ6_bitCount_0f7a4_0 (27, (.iushr, 1)) (List.mem_of_getElem? (i := 21) rfl)
theorem dJ6_bitCount_0f7a4_28 : decode cJ6_bitCount_0f7a4 28 = .ok (.iadd, 1) := dgJ6_bitCount_0f7a4_0 (28, (.iadd, 1)) (List.mem_of_getElem? (i := 22) rfl)
theorem dJ6_bitCount_0f7a4_29 : decode cJ6_bitCount_0f7a4 29 = .ok (.ldc_w 267, 3) := dgJ6_bitCount_0f7a4_0 (29, (.ldc_w 267, 3)) (List.mem_of_getElem? (i := 23) rfl)
theorem dJ6_bitCount_0f7a4_32 : decode cJ6_bitCount_0f7a4 32 = .ok (.iand, 1) := dgJ6_bitCount_0f7a4_0 (32, (.iand, 1)) (List.mem_of_getElem? (i := 24) rfl)
theorem dJ6_bitCount_0f7a4_33 : decode cJ6_bitCount_0f7a4 33 = .ok (.istore_n 0, 1) := dgJ6_bitCount_0f7a4_0 (33, (.istore_n 0, 1)) (List.mem_of_getElem? (i := 25) rfl)
theorem dJ6_bitCount_0f7a4_34 : decode cJ6_bitCount_0f7a4 34 = .ok (.iload_n 0, 1) := dgJ6_bitCount_0f7a4_0 (34, (.iload_n 0, 1)) (List.mem_of_getElem? (i := 26) rfl)
theorem dJ6_bitCount_0f7a4_35 : decode cJ6_bitCount_0f7a4 35 = .ok (.iload_n 0, 1) := dgJ6_bitCount_0f7a4_0 (35, (.iload_n 0, 1)) (List.mem_of_getElem? (i := 27) rfl)
theorem dJ6_bitCount_0f7a4_36 : decode cJ6_bitCount_0f7a4 36 = .ok (.bipush 8, 2) := dgJ6_bitCount_0f7a4_0 (36, (.bipush 8, 2)) (List.mem_of_getElem? (i := 28) rfl)
theorem dJ6_bitCount_0f7a4_38 : decode cJ6_bitCount_0f7a4 38 = .ok (.iushr, 1) := dgJ6_bitCount_0f7a4_0 (38, (.iushr, 1)) (List.mem_of_getElem? (i := 29) rfl)
theorem dJ6_bitCount_0f7a4_39 : decode cJ6_bitCount_0f7a4 39 = .ok (.iadd, 1) := dgJ6_bitCount_0f7a4_0 (39, (.iadd, 1)) (List.mem_of_getElem? (i := 30) rfl)
theorem dJ6_bitCount_0f7a4_40 : decode cJ6_bitCount_0f7a4 40 = .ok (.istore_n 0, 1) := dgJ6_bitCount_0f7a4_0 (40, (.istore_n 0, 1)) (List.mem_of_getElem? (i := 31) rfl)
theorem dJ6_bitCount_0f7a4_41 : decode cJ6_bitCount_0f7a4 41 = .ok (.iload_n 0, 1) := dgJ6_bitCount_0f7a4_0 (41, (.iload_n 0, 1)) (List.mem_of_getElem? (i := 32) rfl)
theorem dJ6_bitCount_0f7a4_42 : decode cJ6_bitCount_0f7a4 42 = .ok (.iload_n 0, 1) := dgJ6_bitCount_0f7a4_0 (42, (.iload_n 0, 1)) (List.mem_of_getElem? (i := 33) rfl)
theorem dJ6_bitCount_0f7a4_43 : decode cJ6_bitCount_0f7a4 43 = .ok (.bipush 16, 2) := dgJ6_bitCount_0f7a4_0 (43, (.bipush 16, 2)) (List.mem_of_getElem? (i := 34) rfl)
theorem dJ6_bitCount_0f7a4_45 : decode cJ6_bitCount_0f7a4 45 = .ok (.iushr, 1) := dgJ6_bitCount_0f7a4_0 (45, (.iushr, 1)) (List.mem_of_getElem? (i := 35) rfl)
theorem dJ6_bitCount_0f7a4_46 : decode cJ6_bitCount_0f7a4 46 = .ok (.iadd, 1) := dgJ6_bitCount_0f7a4_0 (46, (.iadd, 1)) (List.mem_of_getElem? (i := 36) rfl)
theorem dJ6_bitCount_0f7a4_47 : decode cJ6_bitCount_0f7a4 47 = .ok (.istore_n 0, 1) := dgJ6_bitCount_0f7a4_0 (47, (.istore_n 0, 1)) (List.mem_of_getElem? (i := 37) rfl)
theorem dJ6_bitCount_0f7a4_48 : decode cJ6_bitCount_0f7a4 48 = .ok (.iload_n 0, 1) := dgJ6_bitCount_0f7a4_0 (48, (.iload_n 0, 1)) (List.mem_of_getElem? (i := 38) rfl)
theorem dJ6_bitCount_0f7a4_49 : decode cJ6_bitCount_0f7a4 49 = .ok (.bipush 63, 2) := dgJ6_bitCount_0f7a4_0 (49, (.bipush 63, 2)) (List.mem_of_getElem? (i := 39) rfl)
theorem dgJ6_bitCount_0f7a4_1 : ∀ r ∈ ([(51, (.iand, 1)), (52, (.ireturn, 1))] : List (Nat × (Instr × Nat))), decode cJ6_bitCount_0f7a4 r.1 = .ok r.2 := by decide +kernel
theorem dJ6_bitCount_0f7a4_51 : decode cJ6_bitCount_0f7a4 51 = .ok (.iand, 1) := dgJ6_bitCount_0f7a4_1 (51, (.iand, 1)) (List.mem_of_getElem? (i := 0) rfl)
theorem dJ6_bitCount_0f7a4_52 : decode cJ6_bitCount_0f7a4 52 = .ok (.ireturn, 1) := dgJ6_bitCount_0f7a4_1 (52, (.ireturn, 1)) (List.mem_of_getElem? (i := 1) rfl)
theorem ki_J6_265 : Cond.constant RJ6 265 1431655765 ∈ tblG := tg 1089 (by decide +kernel) (by decide +kernel)
theorem ki_J6_266 : Cond.constant RJ6 266 858993459 ∈ tblG := tg 1090 (by decide +kernel) (by decide +kernel)
theorem ki_J6_267 : Cond.constant RJ6 267 252645135 ∈ tblG := tg 1091 (by decide +kernel) (by decide +kernel)
set_option maxHeartbeats 4000000 in
set_option maxRecDepth 100000 in
theorem j_bitCountI (l : Launch) (G : g5_G) (sz : Nat) (p_a : Int32) : Met l yJ6_bitCount_0f7a4 (wsG yJ6_bitCount_0f7a4 cJ6_bitCount_0f7a4 1 (some .int)) ({ frames := 0, cells := 0, slots := 0, locals := 0 }) (va_Pc [.int p_a] (g5_P G [] sz)) (va_Qi (fun (r : Int32) (u : va_W) => (∃ (o_r : Int32), (r = o_r) ∧ (u = []))) (g5_B G (va_A [] sz)) (va_A [] sz)) 0 0 (va_A [] sz) := by
  refine Met.ofW (cc := cJ6_bitCount_0f7a4) (maxL := 1) (ret := (some .int)) (by decide) rfl ?_
  intro p e s m args below meth c s₁ B hml hv
  obtain ⟨rfl, hsz, hP, hK, hD0, hN, hT⟩ := hv
  have hx := B.exec
  have hb := B.bytes
  have hr := B.returns
  have hts : ∀ w ∈ tblG, w.before _ s = true := fun w h => atoms_spec (ws := (wsG yJ6_bitCount_0f7a4 cJ6_bitCount_0f7a4 1 (some .int))) B.pre w (List.mem_cons_of_mem _ h)
  have hown : s.vm.findClass RJ6 = some m.cls := findClass_of_methodNamed B.named
  have hlocks := B.notSynchronized
  subst hsz
  have hD := hD0.self (sz := s.heap.size)
  generalize hAe : va_A [] s.heap.size = A at hD hT ⊢
  have hA : ∀ q : Nat, s.heap.size ≤ q → A q := fun q h => by rw [← hAe]; exact Or.inr h
  have hS : va_S A s.heap s.heap [] := va_S.rf
  have hP : va_P G.1 vwCl [] s.heap := hP
  have hl := lv_entry ([.int p_a]) (n := 1) (Nat.le_of_ble_eq_true rfl)
  rw [lg_entry_eq]
  generalize (lg_sl ([.int p_a]) ++ List.replicate (1 - (lg_sl ([.int p_a])).length) Slot.unset).toArray = ls at hl ⊢
  have hl : lv_has ls 1 [(0, .int p_a)] := hl
  refine lv_iload_n hx hb dJ6_bitCount_0f7a4_0 rfl (lv_at hl 0 rfl) ?_
  refine lv_iload_n hx hb dJ6_bitCount_0f7a4_1 rfl (lv_at hl 0 rfl) ?_
  refine lv_iconst (v := 1) hx hb dJ6_bitCount_0f7a4_2 (by decide) ?_
  refine lv_iushr (v := ((p_a.toUInt32 >>> ((1 : Int32).toUInt32 &&& Int32.toUInt32 31)).toInt32)) hx hb dJ6_bitCount_0f7a4_3 rfl ?_
  refine W.eq (g2 := F0 m 4 ls [.int ((p_a.toUInt32 >>> ((1 : Int32).toUInt32 &&& Int32.toUInt32 31)).toInt32), .int p_a]) rfl ?_
  refine lv_ldcw (v := 1431655765) hx hb hown (hts _ ki_J6_265) dJ6_bitCount_0f7a4_4 ?_
  refine lv_iand hx hb dJ6_bitCount_0f7a4_7 ?_
  refine lv_isub hx hb dJ6_bitCount_0f7a4_8 ?_
  refine lv_istore_n (lv' := [(0, .int (p_a - (((p_a.toUInt32 >>> ((1 : Int32).toUInt32 &&& Int32.toUInt32 31)).toInt32) &&& 1431655765)))]) hx hb dJ6_bitCount_0f7a4_9 rfl hl (by decide) rfl (fun ls hl => ?_)
  refine lv_iload_n hx hb dJ6_bitCount_0f7a4_10 rfl (lv_at hl 0 rfl) ?_
  refine W.eq (g2 := F0 m 11 ls [.int (p_a - (((p_a.toUInt32 >>> ((1 : Int32).toUInt32 &&& Int32.toUInt32 31)).toInt32) &&& 1431655765))]) rfl ?_
  refine lv_ldcw (v := 858993459) hx hb hown (hts _ ki_J6_266) dJ6_bitCount_0f7a4_11 ?_
  refine lv_iand hx hb dJ6_bitCount_0f7a4_14 ?_
  refine lv_iload_n hx hb dJ6_bitCount_0f7a4_15 rfl (lv_at hl 0 rfl) ?_
  refine lv_iconst (v := 2) hx hb dJ6_bitCount_0f7a4_16 (by decide) ?_
  refine lv_iushr (v := (((p_a - (((p_a.toUInt32 >>> ((1 : Int32).toUInt32 &&& Int32.toUInt32 31)).toInt32) &&& 1431655765)).toUInt32 >>> ((2 : Int32).toUInt32 &&& Int32.toUInt32 31)).toInt32)) hx hb dJ6_bitCount_0f7a4_17 rfl ?_
  refine W.eq (g2 := F0 m 18 ls [.int (((p_a - (((p_a.toUInt32 >>> ((1 : Int32).toUInt32 &&& Int32.toUInt32 31)).toInt32) &&& 1431655765)).toUInt32 >>> ((2 : Int32).toUInt32 &&& Int32.toUInt32 31)).toInt32), .int ((p_a - (((p_a.toUInt32 >>> ((1 : Int32).toUInt32 &&& Int32.toUInt32 31)).toInt32) &&& 1431655765)) &&& 858993459)]) rfl ?_
  refine lv_ldcw (v := 858993459) hx hb hown (hts _ ki_J6_266) dJ6_bitCount_0f7a4_18 ?_
  refine lv_iand hx hb dJ6_bitCount_0f7a4_21 ?_
  refine lv_iadd hx hb dJ6_bitCount_0f7a4_22 ?_
  refine lv_istore_n (lv' := [(0, .int (((p_a - (((p_a.toUInt32 >>> ((1 : Int32).toUInt32 &&& Int32.toUInt32 31)).toInt32) &&& 1431655765)) &&& 858993459) + ((((p_a - (((p_a.toUInt32 >>> ((1 : Int32).toUInt32 &&& Int32.toUInt32 31)).toInt32) &&& 1431655765)).toUInt32 >>> ((2 : Int32).toUInt32 &&& Int32.toUInt32 31)).toInt32) &&& 858993459)))]) hx hb dJ6_bitCount_0f7a4_23 rfl hl (by decide) rfl (fun ls hl => ?_)
  refine lv_iload_n hx hb dJ6_bitCount_0f7a4_24 rfl (lv_at hl 0 rfl) ?_
  refine W.eq (g2 := F0 m 25 ls [.int (((p_a - (((p_a.toUInt32 >>> ((1 : Int32).toUInt32 &&& Int32.toUInt32 31)).toInt32) &&& 1431655765)) &&& 858993459) + ((((p_a - (((p_a.toUInt32 >>> ((1 : Int32).toUInt32 &&& Int32.toUInt32 31)).toInt32) &&& 1431655765)).toUInt32 >>> ((2 : Int32).toUInt32 &&& Int32.toUInt32 31)).toInt32) &&& 858993459))]) rfl ?_
  refine lv_iload_n hx hb dJ6_bitCount_0f7a4_25 rfl (lv_at hl 0 rfl) ?_
  refine lv_iconst (v := 4) hx hb dJ6_bitCount_0f7a4_26 (by decide) ?_
  refine lv_iushr (v := (((((p_a - (((p_a.toUInt32 >>> ((1 : Int32).toUInt32 &&& Int32.toUInt32 31)).toInt32) &&& 1431655765)) &&& 858993459) + ((((p_a - (((p_a.toUInt32 >>> ((1 : Int32).toUInt32 &&& Int32.toUInt32 31)).toInt32) &&& 1431655765)).toUInt32 >>> ((2 : Int32).toUInt32 &&& Int32.toUInt32 31)).toInt32) &&& 858993459)).toUInt32 >>> ((4 : Int32).toUInt32 &&& Int32.toUInt32 31)).toInt32)) hx hb dJ6_bitCount_0f7a4_27 rfl ?_
  refine lv_iadd hx hb dJ6_bitCount_0f7a4_28 ?_
  refine lv_ldcw (v := 252645135) hx hb hown (hts _ ki_J6_267) dJ6_bitCount_0f7a4_29 ?_
  refine W.eq (g2 := F0 m 32 ls [.int 252645135, .int ((((p_a - (((p_a.toUInt32 >>> ((1 : Int32).toUInt32 &&& Int32.toUInt32 31)).toInt32) &&& 1431655765)) &&& 858993459) + ((((p_a - (((p_a.toUInt32 >>> ((1 : Int32).toUInt32 &&& Int32.toUInt32 31)).toInt32) &&& 1431655765)).toUInt32 >>> ((2 : Int32).toUInt32 &&& Int32.toUInt32 31)).toInt32) &&& 858993459)) + (((((p_a - (((p_a.toUInt32 >>> ((1 : Int32).toUInt32 &&& Int32.toUInt32 31)).toInt32) &&& 1431655765)) &&& 858993459) + ((((p_a - (((p_a.toUInt32 >>> ((1 : Int32).toUInt32 &&& Int32.toUInt32 31)).toInt32) &&& 1431655765)).toUInt32 >>> ((2 : Int32).toUInt32 &&& Int32.toUInt32 31)).toInt32) &&& 858993459)).toUInt32 >>> ((4 : Int32).toUInt32 &&& Int32.toUInt32 31)).toInt32))]) rfl ?_
  refine lv_iand hx hb dJ6_bitCount_0f7a4_32 ?_
  refine lv_istore_n (lv' := [(0, .int (((((p_a - (((p_a.toUInt32 >>> ((1 : Int32).toUInt32 &&& Int32.toUInt32 31)).toInt32) &&& 1431655765)) &&& 858993459) + ((((p_a - (((p_a.toUInt32 >>> ((1 : Int32).toUInt32 &&& Int32.toUInt32 31)).toInt32) &&& 1431655765)).toUInt32 >>> ((2 : Int32).toUInt32 &&& Int32.toUInt32 31)).toInt32) &&& 858993459)) + (((((p_a - (((p_a.toUInt32 >>> ((1 : Int32).toUInt32 &&& Int32.toUInt32 31)).toInt32) &&& 1431655765)) &&& 858993459) + ((((p_a - (((p_a.toUInt32 >>> ((1 : Int32).toUInt32 &&& Int32.toUInt32 31)).toInt32) &&& 1431655765)).toUInt32 >>> ((2 : Int32).toUInt32 &&& Int32.toUInt32 31)).toInt32) &&& 858993459)).toUInt32 >>> ((4 : Int32).toUInt32 &&& Int32.toUInt32 31)).toInt32)) &&& 252645135))]) hx hb dJ6_bitCount_0f7a4_33 rfl hl (by decide) rfl (fun ls hl => ?_)
  refine lv_iload_n hx hb dJ6_bitCount_0f7a4_34 rfl (lv_at hl 0 rfl) ?_
  refine lv_iload_n hx hb dJ6_bitCount_0f7a4_35 rfl (lv_at hl 0 rfl) ?_
  refine lv_bipush (v := 8) hx hb dJ6_bitCount_0f7a4_36 (by decide) ?_
  refine W.eq (g2 := F0 m 38 ls [.int 8, .int (((((p_a - (((p_a.toUInt32 >>> ((1 : Int32).toUInt32 &&& Int32.toUInt32 31)).toInt32) &&& 1431655765)) &&& 858993459) + ((((p_a - (((p_a.toUInt32 >>> ((1 : Int32).toUInt32 &&& Int32.toUInt32 31)).toInt32) &&& 1431655765)).toUInt32 >>> ((2 : Int32).toUInt32 &&& Int32.toUInt32 31)).toInt32) &&& 858993459)) + (((((p_a - (((p_a.toUInt32 >>> ((1 : Int32).toUInt32 &&& Int32.toUInt32 31)).toInt32) &&& 1431655765)) &&& 858993459) + ((((p_a - (((p_a.toUInt32 >>> ((1 : Int32).toUInt32 &&& Int32.toUInt32 31)).toInt32) &&& 1431655765)).toUInt32 >>> ((2 : Int32).toUInt32 &&& Int32.toUInt32 31)).toInt32) &&& 858993459)).toUInt32 >>> ((4 : Int32).toUInt32 &&& Int32.toUInt32 31)).toInt32)) &&& 252645135), .int (((((p_a - (((p_a.toUInt32 >>> ((1 : Int32).toUInt32 &&& Int32.toUInt32 31)).toInt32) &&& 1431655765)) &&& 858993459) + ((((p_a - (((p_a.toUInt32 >>> ((1 : Int32).toUInt32 &&& Int32.toUInt32 31)).toInt32) &&& 1431655765)).toUInt32 >>> ((2 : Int32).toUInt32 &&& Int32.toUInt32 31)).toInt32) &&& 858993459)) + (((((p_a - (((p_a.toUInt32 >>> ((1 : Int32).toUInt32 &&& Int32.toUInt32 31)).toInt32) &&& 1431655765)) &&& 858993459) + ((((p_a - (((p_a.toUInt32 >>> ((1 : Int32).toUInt32 &&& Int32.toUInt32 31)).toInt32) &&& 1431655765)).toUInt32 >>> ((2 : Int32).toUInt32 &&& Int32.toUInt32 31)).toInt32) &&& 858993459)).toUInt32 >>> ((4 : Int32).toUInt32 &&& Int32.toUInt32 31)).toInt32)) &&& 252645135)]) rfl ?_
  refine lv_iushr (v := (((((((p_a - (((p_a.toUInt32 >>> ((1 : Int32).toUInt32 &&& Int32.toUInt32 31)).toInt32) &&& 1431655765)) &&& 858993459) + ((((p_a - (((p_a.toUInt32 >>> ((1 : Int32).toUInt32 &&& Int32.toUInt32 31)).toInt32) &&& 1431655765)).toUInt32 >>> ((2 : Int32).toUInt32 &&& Int32.toUInt32 31)).toInt32) &&& 858993459)) + (((((p_a - (((p_a.toUInt32 >>> ((1 : Int32).toUInt32 &&& Int32.toUInt32 31)).toInt32) &&& 1431655765)) &&& 858993459) + ((((p_a - (((p_a.toUInt32 >>> ((1 : Int32).toUInt32 &&& Int32.toUInt32 31)).toInt32) &&& 1431655765)).toUInt32 >>> ((2 : Int32).toUInt32 &&& Int32.toUInt32 31)).toInt32) &&& 858993459)).toUInt32 >>> ((4 : Int32).toUInt32 &&& Int32.toUInt32 31)).toInt32)) &&& 252645135).toUInt32 >>> ((8 : Int32).toUInt32 &&& Int32.toUInt32 31)).toInt32)) hx hb dJ6_bitCount_0f7a4_38 rfl ?_
  refine lv_iadd hx hb dJ6_bitCount_0f7a4_39 ?_
  refine lv_istore_n (lv' := [(0, .int ((((((p_a - (((p_a.toUInt32 >>> ((1 : Int32).toUInt32 &&& Int32.toUInt32 31)).toInt32) &&& 1431655765)) &&& 858993459) + ((((p_a - (((p_a.toUInt32 >>> ((1 : Int32).toUInt32 &&& Int32.toUInt32 31)).toInt32) &&& 1431655765)).toUInt32 >>> ((2 : Int32).toUInt32 &&& Int32.toUInt32 31)).toInt32) &&& 858993459)) + (((((p_a - (((p_a.toUInt32 >>> ((1 : Int32).toUInt32 &&& Int32.toUInt32 31)).toInt32) &&& 1431655765)) &&& 858993459) + ((((p_a - (((p_a.toUInt32 >>> ((1 : Int32).toUInt32 &&& Int32.toUInt32 31)).toInt32) &&& 1431655765)).toUInt32 >>> ((2 : Int32).toUInt32 &&& Int32.toUInt32 31)).toInt32) &&& 858993459)).toUInt32 >>> ((4 : Int32).toUInt32 &&& Int32.toUInt32 31)).toInt32)) &&& 252645135) + (((((((p_a - (((p_a.toUInt32 >>> ((1 : Int32).toUInt32 &&& Int32.toUInt32 31)).toInt32) &&& 1431655765)) &&& 858993459) + ((((p_a - (((p_a.toUInt32 >>> ((1 : Int32).toUInt32 &&& Int32.toUInt32 31)).toInt32) &&& 1431655765)).toUInt32 >>> ((2 : Int32).toUInt32 &&& Int32.toUInt32 31)).toInt32) &&& 858993459)) + (((((p_a - (((p_a.toUInt32 >>> ((1 : Int32).toUInt32 &&& Int32.toUInt32 31)).toInt32) &&& 1431655765)) &&& 858993459) + ((((p_a - (((p_a.toUInt32 >>> ((1 : Int32).toUInt32 &&& Int32.toUInt32 31)).toInt32) &&& 1431655765)).toUInt32 >>> ((2 : Int32).toUInt32 &&& Int32.toUInt32 31)).toInt32) &&& 858993459)).toUInt32 >>> ((4 : Int32).toUInt32 &&& Int32.toUInt32 31)).toInt32)) &&& 252645135).toUInt32 >>> ((8 : Int32).toUInt32 &&& Int32.toUInt32 31)).toInt32)))]) hx hb dJ6_bitCount_0f7a4_40 rfl hl (by decide) rfl (fun ls hl => ?_)
  refine lv_iload_n hx hb dJ6_bitCount_0f7a4_41 rfl (lv_at hl 0 rfl) ?_
  refine lv_iload_n hx hb dJ6_bitCount_0f7a4_42 rfl (lv_at hl 0 rfl) ?_
  refine W.eq (g2 := F0 m 43 ls [.int ((((((p_a - (((p_a.toUInt32 >>> ((1 : Int32).toUInt32 &&& Int32.toUInt32 31)).toInt32) &&& 1431655765)) &&& 858993459) + ((((p_a - (((p_a.toUInt32 >>> ((1 : Int32).toUInt32 &&& Int32.toUInt32 31)).toInt32) &&& 1431655765)).toUInt32 >>> ((2 : Int32).toUInt32 &&& Int32.toUInt32 31)).toInt32) &&& 858993459)) + (((((p_a - (((p_a.toUInt32 >>> ((1 : Int32).toUInt32 &&& Int32.toUInt32 31)).toInt32) &&& 1431655765)) &&& 858993459) + ((((p_a - (((p_a.toUInt32 >>> ((1 : Int32).toUInt32 &&& Int32.toUInt32 31)).toInt32) &&& 1431655765)).toUInt32 >>> ((2 : Int32).toUInt32 &&& Int32.toUInt32 31)).toInt32) &&& 858993459)).toUInt32 >>> ((4 : Int32).toUInt32 &&& Int32.toUInt32 31)).toInt32)) &&& 252645135) + (((((((p_a - (((p_a.toUInt32 >>> ((1 : Int32).toUInt32 &&& Int32.toUInt32 31)).toInt32) &&& 1431655765)) &&& 858993459) + ((((p_a - (((p_a.toUInt32 >>> ((1 : Int32).toUInt32 &&& Int32.toUInt32 31)).toInt32) &&& 1431655765)).toUInt32 >>> ((2 : Int32).toUInt32 &&& Int32.toUInt32 31)).toInt32) &&& 858993459)) + (((((p_a - (((p_a.toUInt32 >>> ((1 : Int32).toUInt32 &&& Int32.toUInt32 31)).toInt32) &&& 1431655765)) &&& 858993459) + ((((p_a - (((p_a.toUInt32 >>> ((1 : Int32).toUInt32 &&& Int32.toUInt32 31)).toInt32) &&& 1431655765)).toUInt32 >>> ((2 : Int32).toUInt32 &&& Int32.toUInt32 31)).toInt32) &&& 858993459)).toUInt32 >>> ((4 : Int32).toUInt32 &&& Int32.toUInt32 31)).toInt32)) &&& 252645135).toUInt32 >>> ((8 : Int32).toUInt32 &&& Int32.toUInt32 31)).toInt32)), .int ((((((p_a - (((p_a.toUInt32 >>> ((1 : Int32).toUInt32 &&& Int32.toUInt32 31)).toInt32) &&& 1431655765)) &&& 858993459) + ((((p_a - (((p_a.toUInt32 >>> ((1 : Int32).toUInt32 &&& Int32.toUInt32 31)).toInt32) &&& 1431655765)).toUInt32 >>> ((2 : Int32).toUInt32 &&& Int32.toUInt32 31)).toInt32) &&& 858993459)) + (((((p_a - (((p_a.toUInt32 >>> ((1 : Int32).toUInt32 &&& Int32.toUInt32 31)).toInt32) &&& 1431655765)) &&& 858993459) + ((((p_a - (((p_a.toUInt32 >>> ((1 : Int32).toUInt32 &&& Int32.toUInt32 31)).toInt32) &&& 1431655765)).toUInt32 >>> ((2 : Int32).toUInt32 &&& Int32.toUInt32 31)).toInt32) &&& 858993459)).toUInt32 >>> ((4 : Int32).toUInt32 &&& Int32.toUInt32 31)).toInt32)) &&& 252645135) + (((((((p_a - (((p_a.toUInt32 >>> ((1 : Int32).toUInt32 &&& Int32.toUInt32 31)).toInt32) &&& 1431655765)) &&& 858993459) + ((((p_a - (((p_a.toUInt32 >>> ((1 : Int32).toUInt32 &&& Int32.toUInt32 31)).toInt32) &&& 1431655765)).toUInt32 >>> ((2 : Int32).toUInt32 &&& Int32.toUInt32 31)).toInt32) &&& 858993459)) + (((((p_a - (((p_a.toUInt32 >>> ((1 : Int32).toUInt32 &&& Int32.toUInt32 31)).toInt32) &&& 1431655765)) &&& 858993459) + ((((p_a - (((p_a.toUInt32 >>> ((1 : Int32).toUInt32 &&& Int32.toUInt32 31)).toInt32) &&& 1431655765)).toUInt32 >>> ((2 : Int32).toUInt32 &&& Int32.toUInt32 31)).toInt32) &&& 858993459)).toUInt32 >>> ((4 : Int32).toUInt32 &&& Int32.toUInt32 31)).toInt32)) &&& 252645135).toUInt32 >>> ((8 : Int32).toUInt32 &&& Int32.toUInt32 31)).toInt32))]) rfl ?_
  refine lv_bipush (v := 16) hx hb dJ6_bitCount_0f7a4_43 (by decide) ?_
  refine lv_iushr (v := ((((((((p_a - (((p_a.toUInt32 >>> ((1 : Int32).toUInt32 &&& Int32.toUInt32 31)).toInt32) &&& 1431655765)) &&& 858993459) + ((((p_a - (((p_a.toUInt32 >>> ((1 : Int32).toUInt32 &&& Int32.toUInt32 31)).toInt32) &&& 1431655765)).toUInt32 >>> ((2 : Int32).toUInt32 &&& Int32.toUInt32 31)).toInt32) &&& 858993459)) + (((((p_a - (((p_a.toUInt32 >>> ((1 : Int32).toUInt32 &&& Int32.toUInt32 31)).toInt32) &&& 1431655765)) &&& 858993459) + ((((p_a - (((p_a.toUInt32 >>> ((1 : Int32).toUInt32 &&& Int32.toUInt32 31)).toInt32) &&& 1431655765)).toUInt32 >>> ((2 : Int32).toUInt32 &&& Int32.toUInt32 31)).toInt32) &&& 858993459)).toUInt32 >>> ((4 : Int32).toUInt32 &&& Int32.toUInt32 31)).toInt32)) &&& 252645135) + (((((((p_a - (((p_a.toUInt32 >>> ((1 : Int32).toUInt32 &&& Int32.toUInt32 31)).toInt32) &&& 1431655765)) &&& 858993459) + ((((p_a - (((p_a.toUInt32 >>> ((1 : Int32).toUInt32 &&& Int32.toUInt32 31)).toInt32) &&& 1431655765)).toUInt32 >>> ((2 : Int32).toUInt32 &&& Int32.toUInt32 31)).toInt32) &&& 858993459)) + (((((p_a - (((p_a.toUInt32 >>> ((1 : Int32).toUInt32 &&& Int32.toUInt32 31)).toInt32) &&& 1431655765)) &&& 858993459) + ((((p_a - (((p_a.toUInt32 >>> ((1 : Int32).toUInt32 &&& Int32.toUInt32 31)).toInt32) &&& 1431655765)).toUInt32 >>> ((2 : Int32).toUInt32 &&& Int32.toUInt32 31)).toInt32) &&& 858993459)).toUInt32 >>> ((4 : Int32).toUInt32 &&& Int32.toUInt32 31)).toInt32)) &&& 252645135).toUInt32 >>> ((8 : Int32).toUInt32 &&& Int32.toUInt32 31)).toInt32)).toUInt32 >>> ((16 : Int32).toUInt32 &&& Int32.toUInt32 31)).toInt32)) hx hb dJ6_bitCount_0f7a4_45 rfl ?_
  refine lv_iadd hx hb dJ6_bitCount_0f7a4_46 ?_
  refine lv_istore_n (lv' := [(0, .int (((((((p_a - (((p_a.toUInt32 >>> ((1 : Int32).toUInt32 &&& Int32.toUInt32 31)).toInt32) &&& 1431655765)) &&& 858993459) + ((((p_a - (((p_a.toUInt32 >>> ((1 : Int32).toUInt32 &&& Int32.toUInt32 31)).toInt32) &&& 1431655765)).toUInt32 >>> ((2 : Int32).toUInt32 &&& Int32.toUInt32 31)).toInt32) &&& 858993459)) + (((((p_a - (((p_a.toUInt32 >>> ((1 : Int32).toUInt32 &&& Int32.toUInt32 31)).toInt32) &&& 1431655765)) &&& 858993459) + ((((p_a - (((p_a.toUInt32 >>> ((1 : Int32).toUInt32 &&& Int32.toUInt32 31)).toInt32) &&& 1431655765)).toUInt32 >>> ((2 : Int32).toUInt32 &&& Int32.toUInt32 31)).toInt32) &&& 858993459)).toUInt32 >>> ((4 : Int32).toUInt32 &&& Int32.toUInt32 31)).toInt32)) &&& 252645135) + (((((((p_a - (((p_a.toUInt32 >>> ((1 : Int32).toUInt32 &&& Int32.toUInt32 31)).toInt32) &&& 1431655765)) &&& 858993459) + ((((p_a - (((p_a.toUInt32 >>> ((1 : Int32).toUInt32 &&& Int32.toUInt32 31)).toInt32) &&& 1431655765)).toUInt32 >>> ((2 : Int32).toUInt32 &&& Int32.toUInt32 31)).toInt32) &&& 858993459)) + (((((p_a - (((p_a.toUInt32 >>> ((1 : Int32).toUInt32 &&& Int32.toUInt32 31)).toInt32) &&& 1431655765)) &&& 858993459) + ((((p_a - (((p_a.toUInt32 >>> ((1 : Int32).toUInt32 &&& Int32.toUInt32 31)).toInt32) &&& 1431655765)).toUInt32 >>> ((2 : Int32).toUInt32 &&& Int32.toUInt32 31)).toInt32) &&& 858993459)).toUInt32 >>> ((4 : Int32).toUInt32 &&& Int32.toUInt32 31)).toInt32)) &&& 252645135).toUInt32 >>> ((8 : Int32).toUInt32 &&& Int32.toUInt32 31)).toInt32)) + ((((((((p_a - (((p_a.toUInt32 >>> ((1 : Int32).toUInt32 &&& Int32.toUInt32 31)).toInt32) &&& 1431655765)) &&& 858993459) + ((((p_a - (((p_a.toUInt32 >>> ((1 : Int32).toUInt32 &&& Int32.toUInt32 31)).toInt32) &&& 1431655765)).toUInt32 >>> ((2 : Int32).toUInt32 &&& Int32.toUInt32 31)).toInt32) &&& 858993459)) + (((((p_a - (((p_a.toUInt32 >>> ((1 : Int32).toUInt32 &&& Int32.toUInt32 31)).toInt32) &&& 1431655765)) &&& 858993459) + ((((p_a - (((p_a.toUInt32 >>> ((1 : Int32).toUInt32 &&& Int32.toUInt32 31)).toInt32) &&& 1431655765)).toUInt32 >>> ((2 : Int32).toUInt32 &&& Int32.toUInt32 31)).toInt32) &&& 858993459)).toUInt32 >>> ((4 : Int32).toUInt32 &&& Int32.toUInt32 31)).toInt32)) &&& 252645135) + (((((((p_a - (((p_a.toUInt32 >>> ((1 : Int32).toUInt32 &&& Int32.toUInt32 31)).toInt32) &&& 1431655765)) &&& 858993459) + ((((p_a - (((p_a.toUInt32 >>> ((1 : Int32).toUInt32 &&& Int32.toUInt32 31)).toInt32) &&& 1431655765)).toUInt32 >>> ((2 : Int32).toUInt32 &&& Int32.toUInt32 31)).toInt32) &&& 858993459)) + (((((p_a - (((p_a.toUInt32 >>> ((1 : Int32).toUInt32 &&& Int32.toUInt32 31)).toInt32) &&& 1431655765)) &&& 858993459) + ((((p_a - (((p_a.toUInt32 >>> ((1 : Int32).toUInt32 &&& Int32.toUInt32 31)).toInt32) &&& 1431655765)).toUInt32 >>> ((2 : Int32).toUInt32 &&& Int32.toUInt32 31)).toInt32) &&& 858993459)).toUInt32 >>> ((4 : Int32).toUInt32 &&& Int32.toUInt32 31)).toInt32)) &&& 252645135).toUInt32 >>> ((8 : Int32).toUInt32 &&& Int32.toUInt32 31)).toInt32)).toUInt32 >>> ((16 : Int32).toUInt32 &&& Int32.toUInt32 31)).toInt32)))]) hx hb dJ6_bitCount_0f7a4_47 rfl hl (by decide) rfl (fun ls hl => ?_)
  refine lv_iload_n hx hb dJ6_bitCount_0f7a4_48 rfl (lv_at hl 0 rfl) ?_
  refine W.eq (g2 := F0 m 49 ls [.int (((((((p_a - (((p_a.toUInt32 >>> ((1 : Int32).toUInt32 &&& Int32.toUInt32 31)).toInt32) &&& 1431655765)) &&& 858993459) + ((((p_a - (((p_a.toUInt32 >>> ((1 : Int32).toUInt32 &&& Int32.toUInt32 31)).toInt32) &&& 1431655765)).toUInt32 >>> ((2 : Int32).toUInt32 &&& Int32.toUInt32 31)).toInt32) &&& 858993459)) + (((((p_a - (((p_a.toUInt32 >>> ((1 : Int32).toUInt32 &&& Int32.toUInt32 31)).toInt32) &&& 1431655765)) &&& 858993459) + ((((p_a - (((p_a.toUInt32 >>> ((1 : Int32).toUInt32 &&& Int32.toUInt32 31)).toInt32) &&& 1431655765)).toUInt32 >>> ((2 : Int32).toUInt32 &&& Int32.toUInt32 31)).toInt32) &&& 858993459)).toUInt32 >>> ((4 : Int32).toUInt32 &&& Int32.toUInt32 31)).toInt32)) &&& 252645135) + (((((((p_a - (((p_a.toUInt32 >>> ((1 : Int32).toUInt32 &&& Int32.toUInt32 31)).toInt32) &&& 1431655765)) &&& 858993459) + ((((p_a - (((p_a.toUInt32 >>> ((1 : Int32).toUInt32 &&& Int32.toUInt32 31)).toInt32) &&& 1431655765)).toUInt32 >>> ((2 : Int32).toUInt32 &&& Int32.toUInt32 31)).toInt32) &&& 858993459)) + (((((p_a - (((p_a.toUInt32 >>> ((1 : Int32).toUInt32 &&& Int32.toUInt32 31)).toInt32) &&& 1431655765)) &&& 858993459) + ((((p_a - (((p_a.toUInt32 >>> ((1 : Int32).toUInt32 &&& Int32.toUInt32 31)).toInt32) &&& 1431655765)).toUInt32 >>> ((2 : Int32).toUInt32 &&& Int32.toUInt32 31)).toInt32) &&& 858993459)).toUInt32 >>> ((4 : Int32).toUInt32 &&& Int32.toUInt32 31)).toInt32)) &&& 252645135).toUInt32 >>> ((8 : Int32).toUInt32 &&& Int32.toUInt32 31)).toInt32)) + ((((((((p_a - (((p_a.toUInt32 >>> ((1 : Int32).toUInt32 &&& Int32.toUInt32 31)).toInt32) &&& 1431655765)) &&& 858993459) + ((((p_a - (((p_a.toUInt32 >>> ((1 : Int32).toUInt32 &&& Int32.toUInt32 31)).toInt32) &&& 1431655765)).toUInt32 >>> ((2 : Int32).toUInt32 &&& Int32.toUInt32 31)).toInt32) &&& 858993459)) + (((((p_a - (((p_a.toUInt32 >>> ((1 : Int32).toUInt32 &&& Int32.toUInt32 31)).toInt32) &&& 1431655765)) &&& 858993459) + ((((p_a - (((p_a.toUInt32 >>> ((1 : Int32).toUInt32 &&& Int32.toUInt32 31)).toInt32) &&& 1431655765)).toUInt32 >>> ((2 : Int32).toUInt32 &&& Int32.toUInt32 31)).toInt32) &&& 858993459)).toUInt32 >>> ((4 : Int32).toUInt32 &&& Int32.toUInt32 31)).toInt32)) &&& 252645135) + (((((((p_a - (((p_a.toUInt32 >>> ((1 : Int32).toUInt32 &&& Int32.toUInt32 31)).toInt32) &&& 1431655765)) &&& 858993459) + ((((p_a - (((p_a.toUInt32 >>> ((1 : Int32).toUInt32 &&& Int32.toUInt32 31)).toInt32) &&& 1431655765)).toUInt32 >>> ((2 : Int32).toUInt32 &&& Int32.toUInt32 31)).toInt32) &&& 858993459)) + (((((p_a - (((p_a.toUInt32 >>> ((1 : Int32).toUInt32 &&& Int32.toUInt32 31)).toInt32) &&& 1431655765)) &&& 858993459) + ((((p_a - (((p_a.toUInt32 >>> ((1 : Int32).toUInt32 &&& Int32.toUInt32 31)).toInt32) &&& 1431655765)).toUInt32 >>> ((2 : Int32).toUInt32 &&& Int32.toUInt32 31)).toInt32) &&& 858993459)).toUInt32 >>> ((4 : Int32).toUInt32 &&& Int32.toUInt32 31)).toInt32)) &&& 252645135).toUInt32 >>> ((8 : Int32).toUInt32 &&& Int32.toUInt32 31)).toInt32)).toUInt32 >>> ((16 : Int32).toUInt32 &&& Int32.toUInt32 31)).toInt32))]) rfl ?_
  refine lv_bipush (v := 63) hx hb dJ6_bitCount_0f7a4_49 (by decide) ?_
  refine lv_iand hx hb dJ6_bitCount_0f7a4_51 ?_
  exact W.iret (v := ((((((((p_a - (((p_a.toUInt32 >>> ((1 : Int32).toUInt32 &&& Int32.toUInt32 31)).toInt32) &&& 1431655765)) &&& 858993459) + ((((p_a - (((p_a.toUInt32 >>> ((1 : Int32).toUInt32 &&& Int32.toUInt32 31)).toInt32) &&& 1431655765)).toUInt32 >>> ((2 : Int32).toUInt32 &&& Int32.toUInt32 31)).toInt32) &&& 858993459)) + (((((p_a - (((p_a.toUInt32 >>> ((1 : Int32).toUInt32 &&& Int32.toUInt32 31)).toInt32) &&& 1431655765)) &&& 858993459) + ((((p_a - (((p_a.toUInt32 >>> ((1 : Int32).toUInt32 &&& Int32.toUInt32 31)).toInt32) &&& 1431655765)).toUInt32 >>> ((2 : Int32).toUInt32 &&& Int32.toUInt32 31)).toInt32) &&& 858993459)).toUInt32 >>> ((4 : Int32).toUInt32 &&& Int32.toUInt32 31)).toInt32)) &&& 252645135) + (((((((p_a - (((p_a.toUInt32 >>> ((1 : Int32).toUInt32 &&& Int32.toUInt32 31)).toInt32) &&& 1431655765)) &&& 858993459) + ((((p_a - (((p_a.toUInt32 >>> ((1 : Int32).toUInt32 &&& Int32.toUInt32 31)).toInt32) &&& 1431655765)).toUInt32 >>> ((2 : Int32).toUInt32 &&& Int32.toUInt32 31)).toInt32) &&& 858993459)) + (((((p_a - (((p_a.toUInt32 >>> ((1 : Int32).toUInt32 &&& Int32.toUInt32 31)).toInt32) &&& 1431655765)) &&& 858993459) + ((((p_a - (((p_a.toUInt32 >>> ((1 : Int32).toUInt32 &&& Int32.toUInt32 31)).toInt32) &&& 1431655765)).toUInt32 >>> ((2 : Int32).toUInt32 &&& Int32.toUInt32 31)).toInt32) &&& 858993459)).toUInt32 >>> ((4 : Int32).toUInt32 &&& Int32.toUInt32 31)).toInt32)) &&& 252645135).toUInt32 >>> ((8 : Int32).toUInt32 &&& Int32.toUInt32 31)).toInt32)) + ((((((((p_a - (((p_a.toUInt32 >>> ((1 : Int32).toUInt32 &&& Int32.toUInt32 31)).toInt32) &&& 1431655765)) &&& 858993459) + ((((p_a - (((p_a.toUInt32 >>> ((1 : Int32).toUInt32 &&& Int32.toUInt32 31)).toInt32) &&& 1431655765)).toUInt32 >>> ((2 : Int32).toUInt32 &&& Int32.toUInt32 31)).toInt32) &&& 858993459)) + (((((p_a - (((p_a.toUInt32 >>> ((1 : Int32).toUInt32 &&& Int32.toUInt32 31)).toInt32) &&& 1431655765)) &&& 858993459) + ((((p_a - (((p_a.toUInt32 >>> ((1 : Int32).toUInt32 &&& Int32.toUInt32 31)).toInt32) &&& 1431655765)).toUInt32 >>> ((2 : Int32).toUInt32 &&& Int32.toUInt32 31)).toInt32) &&& 858993459)).toUInt32 >>> ((4 : Int32).toUInt32 &&& Int32.toUInt32 31)).toInt32)) &&& 252645135) + (((((((p_a - (((p_a.toUInt32 >>> ((1 : Int32).toUInt32 &&& Int32.toUInt32 31)).toInt32) &&& 1431655765)) &&& 858993459) + ((((p_a - (((p_a.toUInt32 >>> ((1 : Int32).toUInt32 &&& Int32.toUInt32 31)).toInt32) &&& 1431655765)).toUInt32 >>> ((2 : Int32).toUInt32 &&& Int32.toUInt32 31)).toInt32) &&& 858993459)) + (((((p_a - (((p_a.toUInt32 >>> ((1 : Int32).toUInt32 &&& Int32.toUInt32 31)).toInt32) &&& 1431655765)) &&& 858993459) + ((((p_a - (((p_a.toUInt32 >>> ((1 : Int32).toUInt32 &&& Int32.toUInt32 31)).toInt32) &&& 1431655765)).toUInt32 >>> ((2 : Int32).toUInt32 &&& Int32.toUInt32 31)).toInt32) &&& 858993459)).toUInt32 >>> ((4 : Int32).toUInt32 &&& Int32.toUInt32 31)).toInt32)) &&& 252645135).toUInt32 >>> ((8 : Int32).toUInt32 &&& Int32.toUInt32 31)).toInt32)).toUInt32 >>> ((16 : Int32).toUInt32 &&& Int32.toUInt32 31)).toInt32)) &&& 63)) hx hb hr (fun t ht hW => ⟨⟨((((((((p_a - (((p_a.toUInt32 >>> ((1 : Int32).toUInt32 &&& Int32.toUInt32 31)).toInt32) &&& 1431655765)) &&& 858993459) + ((((p_a - (((p_a.toUInt32 >>> ((1 : Int32).toUInt32 &&& Int32.toUInt32 31)).toInt32) &&& 1431655765)).toUInt32 >>> ((2 : Int32).toUInt32 &&& Int32.toUInt32 31)).toInt32) &&& 858993459)) + (((((p_a - (((p_a.toUInt32 >>> ((1 : Int32).toUInt32 &&& Int32.toUInt32 31)).toInt32) &&& 1431655765)) &&& 858993459) + ((((p_a - (((p_a.toUInt32 >>> ((1 : Int32).toUInt32 &&& Int32.toUInt32 31)).toInt32) &&& 1431655765)).toUInt32 >>> ((2 : Int32).toUInt32 &&& Int32.toUInt32 31)).toInt32) &&& 858993459)).toUInt32 >>> ((4 : Int32).toUInt32 &&& Int32.toUInt32 31)).toInt32)) &&& 252645135) + (((((((p_a - (((p_a.toUInt32 >>> ((1 : Int32).toUInt32 &&& Int32.toUInt32 31)).toInt32) &&& 1431655765)) &&& 858993459) + ((((p_a - (((p_a.toUInt32 >>> ((1 : Int32).toUInt32 &&& Int32.toUInt32 31)).toInt32) &&& 1431655765)).toUInt32 >>> ((2 : Int32).toUInt32 &&& Int32.toUInt32 31)).toInt32) &&& 858993459)) + (((((p_a - (((p_a.toUInt32 >>> ((1 : Int32).toUInt32 &&& Int32.toUInt32 31)).toInt32) &&& 1431655765)) &&& 858993459) + ((((p_a - (((p_a.toUInt32 >>> ((1 : Int32).toUInt32 &&& Int32.toUInt32 31)).toInt32) &&& 1431655765)).toUInt32 >>> ((2 : Int32).toUInt32 &&& Int32.toUInt32 31)).toInt32) &&& 858993459)).toUInt32 >>> ((4 : Int32).toUInt32 &&& Int32.toUInt32 31)).toInt32)) &&& 252645135).toUInt32 >>> ((8 : Int32).toUInt32 &&& Int32.toUInt32 31)).toInt32)) + ((((((((p_a - (((p_a.toUInt32 >>> ((1 : Int32).toUInt32 &&& Int32.toUInt32 31)).toInt32) &&& 1431655765)) &&& 858993459) + ((((p_a - (((p_a.toUInt32 >>> ((1 : Int32).toUInt32 &&& Int32.toUInt32 31)).toInt32) &&& 1431655765)).toUInt32 >>> ((2 : Int32).toUInt32 &&& Int32.toUInt32 31)).toInt32) &&& 858993459)) + (((((p_a - (((p_a.toUInt32 >>> ((1 : Int32).toUInt32 &&& Int32.toUInt32 31)).toInt32) &&& 1431655765)) &&& 858993459) + ((((p_a - (((p_a.toUInt32 >>> ((1 : Int32).toUInt32 &&& Int32.toUInt32 31)).toInt32) &&& 1431655765)).toUInt32 >>> ((2 : Int32).toUInt32 &&& Int32.toUInt32 31)).toInt32) &&& 858993459)).toUInt32 >>> ((4 : Int32).toUInt32 &&& Int32.toUInt32 31)).toInt32)) &&& 252645135) + (((((((p_a - (((p_a.toUInt32 >>> ((1 : Int32).toUInt32 &&& Int32.toUInt32 31)).toInt32) &&& 1431655765)) &&& 858993459) + ((((p_a - (((p_a.toUInt32 >>> ((1 : Int32).toUInt32 &&& Int32.toUInt32 31)).toInt32) &&& 1431655765)).toUInt32 >>> ((2 : Int32).toUInt32 &&& Int32.toUInt32 31)).toInt32) &&& 858993459)) + (((((p_a - (((p_a.toUInt32 >>> ((1 : Int32).toUInt32 &&& Int32.toUInt32 31)).toInt32) &&& 1431655765)) &&& 858993459) + ((((p_a - (((p_a.toUInt32 >>> ((1 : Int32).toUInt32 &&& Int32.toUInt32 31)).toInt32) &&& 1431655765)).toUInt32 >>> ((2 : Int32).toUInt32 &&& Int32.toUInt32 31)).toInt32) &&& 858993459)).toUInt32 >>> ((4 : Int32).toUInt32 &&& Int32.toUInt32 31)).toInt32)) &&& 252645135).toUInt32 >>> ((8 : Int32).toUInt32 &&& Int32.toUInt32 31)).toInt32)).toUInt32 >>> ((16 : Int32).toUInt32 &&& Int32.toUInt32 31)).toInt32)) &&& 63), [], rfl, ⟨((((((((p_a - (((p_a.toUInt32 >>> ((1 : Int32).toUInt32 &&& Int32.toUInt32 31)).toInt32) &&& 1431655765)) &&& 858993459) + ((((p_a - (((p_a.toUInt32 >>> ((1 : Int32).toUInt32 &&& Int32.toUInt32 31)).toInt32) &&& 1431655765)).toUInt32 >>> ((2 : Int32).toUInt32 &&& Int32.toUInt32 31)).toInt32) &&& 858993459)) + (((((p_a - (((p_a.toUInt32 >>> ((1 : Int32).toUInt32 &&& Int32.toUInt32 31)).toInt32) &&& 1431655765)) &&& 858993459) + ((((p_a - (((p_a.toUInt32 >>> ((1 : Int32).toUInt32 &&& Int32.toUInt32 31)).toInt32) &&& 1431655765)).toUInt32 >>> ((2 : Int32).toUInt32 &&& Int32.toUInt32 31)).toInt32) &&& 858993459)).toUInt32 >>> ((4 : Int32).toUInt32 &&& Int32.toUInt32 31)).toInt32)) &&& 252645135) + (((((((p_a - (((p_a.toUInt32 >>> ((1 : Int32).toUInt32 &&& Int32.toUInt32 31)).toInt32) &&& 1431655765)) &&& 858993459) + ((((p_a - (((p_a.toUInt32 >>> ((1 : Int32).toUInt32 &&& Int32.toUInt32 31)).toInt32) &&& 1431655765)).toUInt32 >>> ((2 : Int32).toUInt32 &&& Int32.toUInt32 31)).toInt32) &&& 858993459)) + (((((p_a - (((p_a.toUInt32 >>> ((1 : Int32).toUInt32 &&& Int32.toUInt32 31)).toInt32) &&& 1431655765)) &&& 858993459) + ((((p_a - (((p_a.toUInt32 >>> ((1 : Int32).toUInt32 &&& Int32.toUInt32 31)).toInt32) &&& 1431655765)).toUInt32 >>> ((2 : Int32).toUInt32 &&& Int32.toUInt32 31)).toInt32) &&& 858993459)).toUInt32 >>> ((4 : Int32).toUInt32 &&& Int32.toUInt32 31)).toInt32)) &&& 252645135).toUInt32 >>> ((8 : Int32).toUInt32 &&& Int32.toUInt32 31)).toInt32)) + ((((((((p_a - (((p_a.toUInt32 >>> ((1 : Int32).toUInt32 &&& Int32.toUInt32 31)).toInt32) &&& 1431655765)) &&& 858993459) + ((((p_a - (((p_a.toUInt32 >>> ((1 : Int32).toUInt32 &&& Int32.toUInt32 31)).toInt32) &&& 1431655765)).toUInt32 >>> ((2 : Int32).toUInt32 &&& Int32.toUInt32 31)).toInt32) &&& 858993459)) + (((((p_a - (((p_a.toUInt32 >>> ((1 : Int32).toUInt32 &&& Int32.toUInt32 31)).toInt32) &&& 1431655765)) &&& 858993459) + ((((p_a - (((p_a.toUInt32 >>> ((1 : Int32).toUInt32 &&& Int32.toUInt32 31)).toInt32) &&& 1431655765)).toUInt32 >>> ((2 : Int32).toUInt32 &&& Int32.toUInt32 31)).toInt32) &&& 858993459)).toUInt32 >>> ((4 : Int32).toUInt32 &&& Int32.toUInt32 31)).toInt32)) &&& 252645135) + (((((((p_a - (((p_a.toUInt32 >>> ((1 : Int32).toUInt32 &&& Int32.toUInt32 31)).toInt32) &&& 1431655765)) &&& 858993459) + ((((p_a - (((p_a.toUInt32 >>> ((1 : Int32).toUInt32 &&& Int32.toUInt32 31)).toInt32) &&& 1431655765)).toUInt32 >>> ((2 : Int32).toUInt32 &&& Int32.toUInt32 31)).toInt32) &&& 858993459)) + (((((p_a - (((p_a.toUInt32 >>> ((1 : Int32).toUInt32 &&& Int32.toUInt32 31)).toInt32) &&& 1431655765)) &&& 858993459) + ((((p_a - (((p_a.toUInt32 >>> ((1 : Int32).toUInt32 &&& Int32.toUInt32 31)).toInt32) &&& 1431655765)).toUInt32 >>> ((2 : Int32).toUInt32 &&& Int32.toUInt32 31)).toInt32) &&& 858993459)).toUInt32 >>> ((4 : Int32).toUInt32 &&& Int32.toUInt32 31)).toInt32)) &&& 252645135).toUInt32 >>> ((8 : Int32).toUInt32 &&& Int32.toUInt32 31)).toInt32)).toUInt32 >>> ((16 : Int32).toUInt32 &&& Int32.toUInt32 31)).toInt32)) &&& 63), rfl, rfl⟩, by rw [ht]; exact hP.sub [] rfl, hD.sub [] (by decide) rfl⟩, hS.F ht⟩) hS.2.2 dJ6_bitCount_0f7a4_52
theorem dgX0_search_0 : ∀ r ∈ ([(0, (.aload_n 0, 1)), (1, (.iconst (-1), 1)), (2, (.putfield 45, 3)), (5, (.aload_n 0, 1)), (6, (.iconst 0, 1)), (7, (.putfield 48, 3)), (10, (.aload_n 0, 1)), (11, (.iconst (-1), 1)), (12, (.putfield 51, 3)), (15, (.iconst 0, 1)), (16, (.istore_n 1, 1)), (17, (.iload_n 1, 1)), (18, (.iconst 1, 1)), (19, (.aload_n 0, 1)), (20, (.getfield 9, 3)), (23, (.getfield 54, 3)), (26, (.getfield 25, 3)), (29, (.ishl, 1)), (30, (.if_icmp .ge 81, 3)), (33, (.iload_n 1, 1)), (34, (.invokestatic 57, 3)), (37, (.istore_n 2, 1)), (38, (.aload_n 0, 1)), (39, (.getfield 45, 3)), (42, (.iconst (-1), 1)), (43, (.if_icmp .eq 11, 3)), (46, (.iload_n 2, 1)), (47, (.aload_n 0, 1)), (48, (.getfield 45, 3)), (51, (.if_icmp .gt 7, 3)), (54, (.iconst 1, 1)), (55, (.goto 4, 3)), (58, (.iconst 0, 1)), (59, (.istore_n 3, 1)), (60, (.iload_n 3, 1)), (61, (.ifCond .eq 44, 3)), (64, (.aload_n 0, 1)), (65, (.iload_n 1, 1)), (66, (.invokevirtual 63, 3)), (69, (.ifCond .ne 36, 3))] : List (Nat × (Instr × Nat))), decode cX0_search r.1 = .ok r.2 := by decide +kernel
theorem dX0_search_0 : decode cX0_search 0 = .ok (.aload_n 0, 1) := dgX0_search_0 (0, (.aload_n 0, 1)) (List.mem_of_getElem? (i := 0) rfl)
theorem dX0_search_1 : decode cX0_search 1 = .ok (.iconst (-1), 1) := dgX0_search_0 (1, (.iconst (-1), 1)) (List.mem_of_getElem? (i := 1) rfl)
theorem dX0_search_2 : decode cX0_search 2 = .ok (.putfield 45, 3) := dgX0_search_0 (2, (.putfield 45, 3)) (List.mem_of_getElem? (i := 2) rfl)
theorem dX0_search_5 : decode cX0_search 5 = .ok (.aload_n 0, 1) := dgX0_search_0 (5, (.aload_n 0, 1)) (List.mem_of_getElem? (i := 3) rfl)
theorem dX0_search_6 : decode cX0_search 6 = .ok (.iconst 0, 1) := dgX0_search_0 (6, (.iconst 0, 1)) (List.mem_of_getElem? (i := 4) rfl)
theorem dX0_search_7 : decode cX0_search 7 = .ok (.putfield 48, 3) := dgX0_search_0 (7, (.putfield 48, 3)) (List.mem_of_getElem? (i := 5) rfl)
theorem dX0_search_10 : decode cX0_search 10 = .ok (.aload_n 0, 1) := dgX0_search_0 (10, (.aload_n 0, 1)) (List.mem_of_getElem? (i := 6) rfl)
theorem dX0_search_11 : decode cX0_search 11 = .ok (.iconst (-1), 1) := dgX0_search_0 (11, (.iconst (-1), 1)) (List.mem_of_getElem? (i := 7) rfl)
theorem dX0_search_12 : decode cX0_search 12 = .ok (.putfield 51, 3) := dgX0_search_0 (12, (.putfield 51, 3)) (List.mem_of_getElem? (i := 8) rfl)
theorem dX0_search_15 : decode cX0_search 15 = .ok (.iconst 0, 1) := dgX0_search_0 (15, (.iconst 0, 1)) (List.mem_of_getElem? (i := 9) rfl)
theorem dX0_search_16 : decode cX0_search 16 = .ok (.istore_n 1, 1) := dgX0_search_0 (16, (.istore_n 1, 1)) (List.mem_of_getElem? (i := 10) rfl)
theorem dX0_search_17 : decode cX0_search 17 = .ok (.iload_n 1, 1) := dgX0_search_0 (17, (.iload_n 1, 1)) (List.mem_of_getElem? (i := 11) rfl)
theorem dX0_search_18 : decode cX0_search 18 = .ok (.iconst 1, 1) := dgX0_search_0 (18, (.iconst 1, 1)) (List.mem_of_getElem? (i := 12) rfl)
theorem dX0_search_19 : decode cX0_search 19 = .ok (.aload_n 0, 1) := dgX0_search_0 (19, (.aload_n 0, 1)) (List.mem_of_getElem? (i := 13) rfl)
theorem dX0_search_20 : decode cX0_search 20 = .ok (.getfield 9, 3) := dgX0_search_0 (20, (.getfield 9, 3)) (List.mem_of_getElem? (i := 14) rfl)
theorem dX0_search_23 : decode cX0_search 23 = .ok (.getfield 54, 3) := dgX0_search_0 (23, (.getfield 54, 3)) (List.mem_of_getElem? (i := 15) rfl)
theorem dX0_search_26 : decode cX0_search 26 = .ok (.getfield 25, 3) := dgX0_search_0 (26, (.getfield 25, 3)) (List.mem_of_getElem? (i := 16) rfl)
theorem dX0_search_29 : decode cX0_search 29 = .ok (.ishl, 1) := dgX0_search_0 (29, (.ishl, 1)) (List.mem_of_getElem? (i := 17) rfl)
theorem dX0_search_30 : decode cX0_search 30 = .ok (.if_icmp .ge 81, 3) := dgX0_search_0 (30, (.if_icmp .ge 81, 3)) (List.mem_of_getElem? (i := 18) rfl)
theorem dX0_search_33 : decode cX0_search 33 = .ok (.iload_n 1, 1) := dgX0_search_0 (33, (.iload_n 1, 1)) (List.mem_of_getElem? (i := 19) rfl)
theorem dX0_search_34 : decode cX0_search 34 = .ok (.invokestatic 57, 3) := dgX0_search_0 (34, (.invokestatic 57, 3)) (List.mem_of_getElem? (i := 20) rfl)
theorem dX0_search_37 : decode cX0_search 37 = .ok (.istore_n 2, 1) := dgX0_search_0 (37, (.istore_n 2, 1)) (List.mem_of_getElem? (i := 21) rfl)
theorem dX0_search_38 : decode cX0_search 38 = .ok (.aload_n 0, 1) := dgX0_search_0 (38, (.aload_n 0, 1)) (List.mem_of_getElem? (i := 22) rfl)
theorem dX0_search_39 : decode cX0_search 39 = .ok (.getfield 45, 3) := dgX0_search_0 (39, (.getfield 45, 3)) (List.mem_of_getElem? (i := 23) rfl)
theorem dX0_search_42 : decode cX0_search 42 = .ok (.iconst (-1), 1) := dgX0_search_0 (42, (.iconst (-1), 1)) (List.mem_of_getElem? (i := 24) rfl)
theorem dX0_search_43 : decode cX0_search 43 = .ok (.if_icmp .eq 11, 3) := dgX0_search_0 (43, (.if_icmp .eq 11, 3)) (List.mem_of_getElem? (i := 25) rfl)
theorem dX0_search_46 : decode cX0_search 46 = .ok (.iload_n 2, 1) := dgX0_search_0 (46, (.iload_n 2, 1)) (List.mem_of_getElem? (i := 26) rfl)
theorem dX0_search_47 : decode cX0_search 47 = .ok (.aload_n 0, 1) := dgX0_search_0 (47, (.aload_n 0, 1)) (List.mem_of_getElem? (i := 27) rfl)
theorem dX0_search_48 : decode cX0_search 48 = .ok (.getfield 45, 3) := dgX0_search_0 (48, (.getfield 45, 3)) (List.mem_of_getElem? (i := 28) rfl)
theorem dX0_search_51 : decode cX0_search 51 = .ok (.if_icmp .gt 7, 3) := dgX0_search_0 (51, (.if_icmp .gt 7, 3)) (List.mem_of_getElem? (i := 29) rfl)
theorem dX0_search_54 : decode cX0_search 54 = .ok (.iconst 1, 1) := dgX0_search_0 (54, (.iconst 1, 1)) (List.mem_of_getElem? (i := 30) rfl)
theorem dX0_search_55 : decode cX0_search 55 = .ok (.goto 4, 3) := dgX0_search_0 (55, (.goto 4, 3)) (List.mem_of_getElem? (i := 31) rfl)
theorem dX0_search_58 : decode cX0_search 58 = .ok (.iconst 0, 1) := dgX0_search_0 (58, (.iconst 0, 1)) (List.mem_of_getElem? (i := 32) rfl)
theorem dX0_search_59 : decode cX0_search 59 = .ok (.istore_n 3, 1) := dgX0_search_0 (59, (.istore_n 3, 1)) (List.mem_of_getElem? (i := 33) rfl)
theorem dX0_search_60 : decode cX0_search 60 = .ok (.iload_n 3, 1) := dgX0_search_0 (60, (.iload_n 3, 1)) (List.mem_of_getElem? (i := 34) rfl)
theorem dX0_search_61 : decode cX0_search 61 = .ok (.ifCond .eq 44, 3) := dgX0_search_0 (61, (.ifCond .eq 44, 3)) (List.mem_of_getElem? (i := 35) rfl)
theorem dX0_search_64 : decode cX0_search 64 = .ok (.aload_n 0, 1) := dgX0_search_0 (64, (.aload_n 0, 1)) (List.mem_of_getElem? (i := 36) rfl)
theorem dX0_search_65 : decode cX0_search 65 = .ok (.iload_n 1, 1) := dgX0_search_0 (65, (.iload_n 1, 1)) (List.mem_of_getElem? (i := 37) rfl)
theorem dX0_search_66 : decode cX0_search 66 = .ok (.invokevirtual 63, 3) := dgX0_search_0 (66, (.invokevirtual 63, 3)) (List.mem_of_getElem? (i := 38) rfl)
theorem dX0_search_69 : decode cX0_search 69 = .ok (.ifCond .ne 36, 3) := dgX0_search_0 (69, (.ifCond .ne 36, 3)) (List.mem_of_getElem? (i := 39) rfl)
theorem dgX0_search_1 : ∀ r ∈ ([(72, (.iload_n 2, 1)), (73, (.aload_n 0, 1)), (74, (.getfield 45, 3)), (77, (.if_icmp .eq 18, 3)), (80, (.aload_n 0, 1)), (81, (.iload_n 2, 1)), (82, (.putfield 45, 3)), (85, (.aload_n 0, 1)), (86, (.iconst 0, 1)), (87, (.putfield 48, 3)), (90, (.aload_n 0, 1)), (91, (.iload_n 1, 1)), (92, (.putfield 51, 3)), (95, (.aload_n 0, 1)), (96, (.dup, 1)), (97, (.getfield 48, 3)), (100, (.iconst 1, 1)), (101, (.iadd, 1)), (102, (.putfield 48, 3)), (105, (.iinc 1 1, 3)), (108, (.goto (-91), 3)), (111, (.return_, 1))] : List (Nat × (Instr × Nat))), decode cX0_search r.1 = .ok r.2 := by decide +kernel
theorem dX0_search_72 : decode cX0_search 72 = .ok (.iload_n 2, 1) := dgX0_search_1 (72, (.iload_n 2, 1)) (List.mem_of_getElem? (i := 0) rfl)
theorem dX0_search_73 : decode cX0_search 73 = .ok (.aload_n 0, 1) := dgX0_search_1 (73, (.aload_n 0, 1)) (List.mem_of_getElem? (i := 1) rfl)
theorem dX0_search_74 : decode cX0_search 74 = .ok (.getfield 45, 3) := dgX0_search_1 (74, (.getfield 45, 3)) (List.mem_of_getElem? (i := 2) rfl)
theorem dX0_search_77 : decode cX0_search 77 = .ok (.if_icmp .eq 18, 3) := dgX0_search_1 (77, (.if_icmp .eq 18, 3)) (List.mem_of_getElem? (i := 3) rfl)
theorem dX0_search_80 : decode cX0_search 80 = .ok (.aload_n 0, 1) := dgX0_search_1 (80, (.aload_n 0, 1)) (List.mem_of_getElem? (i := 4) rfl)
theorem dX0_search_81 : decode cX0_search 81 = .ok (.iload_n 2, 1) := dgX0_search_1 (81, (.iload_n 2, 1)) (List.mem_of_getElem? (i := 5) rfl)
theorem dX0_search_82 : decode cX0_search 82 = .ok (.putfield 45, 3) := dgX0_search_1 (82, (.putfield 45, 3)) (List.mem_of_getElem? (i := 6) rfl)
theorem dX0_search_85 : decode cX0_search 85 = .ok (.aload_n 0, 1) := dgX0_search_1 (85, (.aload_n 0, 1)) (List.mem_of_getElem? (i := 7) rfl)
theorem dX0_search_86 : decode cX0_search 86 = .ok (.iconst 0, 1) := dgX0_search_1 (86, (.iconst 0, 1)) (List.mem_of_getElem? (i := 8) rfl)
theorem dX0_search_87 : decode cX0_search 87 = .ok (.putfield 48, 3) := dgX0_search_1 (87, (.putfield 48, 3)) (List.mem_of_getElem? (i := 9) rfl)
theorem dX0_search_90 : decode cX0_search 90 = .ok (.aload_n 0, 1) := dgX0_search_1 (90, (.aload_n 0, 1)) (List.mem_of_getElem? (i := 10) rfl)
theorem dX0_search_91 : decode cX0_search 91 = .ok (.iload_n 1, 1) := dgX0_search_1 (91, (.iload_n 1, 1)) (List.mem_of_getElem? (i := 11) rfl)
theorem dX0_search_92 : decode cX0_search 92 = .ok (.putfield 51, 3) := dgX0_search_1 (92, (.putfield 51, 3)) (List.mem_of_getElem? (i := 12) rfl)
theorem dX0_search_95 : decode cX0_search 95 = .ok (.aload_n 0, 1) := dgX0_search_1 (95, (.aload_n 0, 1)) (List.mem_of_getElem? (i := 13) rfl)
theorem dX0_search_96 : decode cX0_search 96 = .ok (.dup, 1) := dgX0_search_1 (96, (.dup, 1)) (List.mem_of_getElem? (i := 14) rfl)
theorem dX0_search_97 : decode cX0_search 97 = .ok (.getfield 48, 3) := dgX0_search_1 (97, (.getfield 48, 3)) (List.mem_of_getElem? (i := 15) rfl)
theorem dX0_search_100 : decode cX0_search 100 = .ok (.iconst 1, 1) := dgX0_search_1 (100, (.iconst 1, 1)) (List.mem_of_getElem? (i := 16) rfl)
theorem dX0_search_101 : decode cX0_search 101 = .ok (.iadd, 1) := dgX0_search_1 (101, (.iadd, 1)) (List.mem_of_getElem? (i := 17) rfl)
theorem dX0_search_102 : decode cX0_search 102 = .ok (.putfield 48, 3) := dgX0_search_1 (102, (.putfield 48, 3)) (List.mem_of_getElem? (i := 18) rfl)
theorem dX0_search_105 : decode cX0_search 105 = .ok (.iinc 1 1, 3) := dgX0_search_1 (105, (.iinc 1 1, 3)) (List.mem_of_getElem? (i := 19) rfl)
theorem dX0_search_108 : decode cX0_search 108 = .ok (.goto (-91), 3) := dgX0_search_1 (108, (.goto (-91), 3)) (List.mem_of_getElem? (i := 20) rfl)
theorem dX0_search_111 : decode cX0_search 111 = .ok (.return_, 1) := dgX0_search_1 (111, (.return_, 1)) (List.mem_of_getElem? (i := 21) rfl)
theorem fl_X0_45 : Cond.fieldLink RX0 45 "LateGlass$Hanger" "fewest" "I" ∈ tblG := tg 357 (by decide +kernel) (by decide +kernel)
theorem fl_X0_48 : Cond.fieldLink RX0 48 "LateGlass$Hanger" "choices" "I" ∈ tblG := tg 359 (by decide +kernel) (by decide +kernel)
theorem fl_X0_51 : Cond.fieldLink RX0 51 "LateGlass$Hanger" "lowest" "I" ∈ tblG := tg 361 (by decide +kernel) (by decide +kernel)
theorem fl_X0_54 : Cond.fieldLink RX0 54 "LateGlass$House" "spots" "LLateGlass$Table;" ∈ tblG := tg 182 (by decide +kernel) (by decide +kernel)
theorem ml_X0_57 : Cond.methodLink RX0 57 yJ6_bitCount_0f7a4 ∈ tblG := tg 1086 (by decide +kernel) (by decide +kernel)
theorem st_J6_bitCount_0f7a4 : Cond.static yJ6_bitCount_0f7a4 ∈ tblG := tg 1087 (by decide +kernel) (by decide +kernel)
theorem ini_J6 : Cond.initialized RJ6 ∈ tblG := tg 110 (by decide +kernel) (by decide +kernel)
theorem cd_J6_bitCount_0f7a4 : Cond.code yJ6_bitCount_0f7a4 cJ6_bitCount_0f7a4 1 (some .int) ∈ tblG := tg 1088 (by decide +kernel) (by decide +kernel)
theorem gW_J6_bitCount_0f7a4 : GoodIn tblG (wsG yJ6_bitCount_0f7a4 cJ6_bitCount_0f7a4 1 (some .int)) := tgi cd_J6_bitCount_0f7a4
theorem gS_X0_57 : GoodIn tblG (va_wsS RX0 57 yJ6_bitCount_0f7a4 (wsG yJ6_bitCount_0f7a4 cJ6_bitCount_0f7a4 1 (some .int))) := tgS ml_X0_57 st_J6_bitCount_0f7a4 ini_J6 gW_J6_bitCount_0f7a4
theorem hs_J6_bitCount_0f7a4 : yJ6_bitCount_0f7a4.cls ≠ "java/lang/invoke/MethodHandle" ∧ yJ6_bitCount_0f7a4.cls ≠ "java/lang/invoke/VarHandle" ∧ (parseMethodDescriptor yJ6_bitCount_0f7a4.desc).map (fun d => d.parameters.length) = some 1 := by decide +kernel
theorem ml_X0_63 : Cond.methodLink RX0 63 yX0_lacking ∈ tblG := tg 1092 (by decide +kernel) (by decide +kernel)
theorem im_X0_lacking : Cond.instanceMethod yX0_lacking ∈ tblG := tg 1069 (by decide +kernel) (by decide +kernel)
theorem se_X0_lacking : Cond.selects RX0 yX0_lacking yX0_lacking ∈ tblG := tg 1070 (by decide +kernel) (by decide +kernel)
theorem ini_X0 : Cond.initialized RX0 ∈ tblG := tg 95 (by decide +kernel) (by decide +kernel)
theorem cd_X0_lacking : Cond.code yX0_lacking cX0_lacking 6 (some .int) ∈ tblG := tg 1071 (by decide +kernel) (by decide +kernel)
theorem gW_X0_lacking : GoodIn tblG (wsG yX0_lacking cX0_lacking 6 (some .int)) := tgi cd_X0_lacking
theorem gV_X0_63 : GoodIn tblG (wsV RX0 63 RX0 yX0_lacking (wsG yX0_lacking cX0_lacking 6 (some .int))) := tgV ml_X0_63 im_X0_lacking se_X0_lacking ini_X0 gW_X0_lacking
theorem hv_X0_lacking : yX0_lacking.cls = RX0 ∧ yX0_lacking.cls ≠ "java/lang/invoke/MethodHandle" ∧ yX0_lacking.cls ≠ "java/lang/invoke/VarHandle" ∧ (parseMethodDescriptor yX0_lacking.desc).map (fun d => d.parameters.length) = some 1 := by decide +kernel
set_option maxHeartbeats 4000000 in
set_option maxRecDepth 100000 in
theorem g_searchN (l : Launch) (G : g5_G) (a_k a_h a_g a_gn a_b a_bn a_p a_pn a_w a_wn a_bb a_j a_as a_sk a_l a_pt a_ha a_s : Nat) (sz : Nat) (e_le : Int32) (e_st : Int32) (e_fo : Int32) (e_lc : Int32) (e_g : Int32) (e_b : Int32) (e_p : Int32) (e_w : Int32) (e_ln : Int32) (e_se : Int32) (e_lh : Int32) (e_br : Int32) (e_we : Int32) (e_me : Int32) (e_ce : Int32) (e_wy : Int32) (e_ho : Int32) (e_ov : Int32) (e_f1 : Int32) (e_f2 : Int32) (e_f3 : Int32) (e_wa : Int64) (e_gb : Int64) (f_g : Nat → Int32) (f_b : Nat → Int32) (f_p : Nat → Int32) (f_w : Nat → Int32) (f_bb : Nat → Int64) (f_as : Nat → Int32) (f_sk : Nat → Int64) (f_l : Nat → Option Nat) (f_pt : Nat → Int32) (h_e_g : 0 ≤ e_g.toInt ∧ e_g.toInt ≤ 6) (h_e_b : 0 ≤ e_b.toInt ∧ e_b.toInt ≤ 5) (h_e_p : 0 ≤ e_p.toInt ∧ e_p.toInt ≤ 8) (h_e_w : 0 ≤ e_w.toInt ∧ e_w.toInt ≤ 6) (h_e_ov : 0 ≤ e_ov.toInt ∧ e_ov.toInt ≤ 1) (e_gk : gOK f_g e_g.toInt) (e_pk : gOK f_p e_p.toInt) (e_gi : inT e_gb f_g e_g.toInt) (e_f : e_fo.toInt < 0 ∨ e_lc.toInt ≤ e_fo.toInt) : Met l yX0_search (wsG yX0_search cX0_search 4 none) ({ frames := 15, cells := 0, slots := 0, locals := 581 }) (va_Pc [.ref a_ha] (g5_P G [(a_k, (oc5 a_h a_j a_pt e_ln e_se e_lh e_br e_we e_me e_ce e_wy e_ho e_ov)), (a_h, (oc1 e_wa e_le e_st e_fo e_lc a_l a_g a_b a_s a_p a_w e_gb a_bb)), (a_g, (oc6 6 5 a_gn e_g)), (a_gn, (arI G 30 f_g)), (a_b, (oc6 5 24 a_bn e_b)), (a_bn, (arI G 120 f_b)), (a_p, (oc6 8 5 a_pn e_p)), (a_pn, (arI G 40 f_p)), (a_w, (oc6 6 6 a_wn e_w)), (a_wn, (arI G 36 f_w)), (a_bb, (arJ G 24 f_bb)), (a_j, (oc2 a_as a_sk)), (a_as, (arI G 8 f_as)), (a_sk, (arJ G 50 f_sk)), (a_l, (arW G 6 f_l)), (a_pt, (arI G 200 f_pt)), (a_ha, (oc0 a_h a_k e_f1 e_f2 e_f3))] sz)) (va_Qv (fun (u : va_W) => (∃ (o_ln : Int32) (o_se : Int32) (o_lh : Int32) (o_br : Int32) (o_we : Int32) (o_me : Int32) (o_ce : Int32) (o_wy : Int32) (o_ho : Int32) (o_ov : Int32) (o_pt : Nat → Int32) (o_as : Nat → Int32) (o_sk : Nat → Int64) (o_f1 : Int32) (o_f2 : Int32) (o_f3 : Int32), (0 ≤ o_ov.toInt ∧ o_ov.toInt ≤ 1) ∧ (u = [(a_k, (oc5 a_h a_j a_pt o_ln o_se o_lh o_br o_we o_me o_ce o_wy o_ho o_ov)), (a_h, (oc1 e_wa e_le e_st e_fo e_lc a_l a_g a_b a_s a_p a_w e_gb a_bb)), (a_g, (oc6 6 5 a_gn e_g)), (a_gn, (arI G 30 f_g)), (a_b, (oc6 5 24 a_bn e_b)), (a_bn, (arI G 120 f_b)), (a_p, (oc6 8 5 a_pn e_p)), (a_pn, (arI G 40 f_p)), (a_w, (oc6 6 6 a_wn e_w)), (a_wn, (arI G 36 f_w)), (a_bb, (arJ G 24 f_bb)), (a_j, (oc2 a_as a_sk)), (a_as, (arI G 8 o_as)), (a_sk, (arJ G 50 o_sk)), (a_l, (arW G 6 f_l)), (a_pt, (arI G 200 o_pt)), (a_ha, (oc0 a_h a_k o_f1 o_f2 o_f3))]))) (g5_B G (va_A [(a_k, (oc5 a_h a_j a_pt e_ln e_se e_lh e_br e_we e_me e_ce e_wy e_ho e_ov)), (a_h, (oc1 e_wa e_le e_st e_fo e_lc a_l a_g a_b a_s a_p a_w e_gb a_bb)), (a_g, (oc6 6 5 a_gn e_g)), (a_gn, (arI G 30 f_g)), (a_b, (oc6 5 24 a_bn e_b)), (a_bn, (arI G 120 f_b)), (a_p, (oc6 8 5 a_pn e_p)), (a_pn, (arI G 40 f_p)), (a_w, (oc6 6 6 a_wn e_w)), (a_wn, (arI G 36 f_w)), (a_bb, (arJ G 24 f_bb)), (a_j, (oc2 a_as a_sk)), (a_as, (arI G 8 f_as)), (a_sk, (arJ G 50 f_sk)), (a_l, (arW G 6 f_l)), (a_pt, (arI G 200 f_pt)), (a_ha, (oc0 a_h a_k e_f1 e_f2 e_f3))] sz)) (va_A [(a_k, (oc5 a_h a_j a_pt e_ln e_se e_lh e_br e_we e_me e_ce e_wy e_ho e_ov)), (a_h, (oc1 e_wa e_le e_st e_fo e_lc a_l a_g a_b a_s a_p a_w e_gb a_bb)), (a_g, (oc6 6 5 a_gn e_g)), (a_gn, (arI G 30 f_g)), (a_b, (oc6 5 24 a_bn e_b)), (a_bn, (arI G 120 f_b)), (a_p, (oc6 8 5 a_pn e_p)), (a_pn, (arI G 40 f_p)), (a_w, (oc6 6 6 a_wn e_w)), (a_wn, (arI G 36 f_w)), (a_bb, (arJ G 24 f_bb)), (a_j, (oc2 a_as a_sk)), (a_as, (arI G 8 f_as)), (a_sk, (arJ G 50 f_sk)), (a_l, (arW G 6 f_l)), (a_pt, (arI G 200 f_pt)), (a_ha, (oc0 a_h a_k e_f1 e_f2 e_f3))] sz)) 0 0 (va_A [(a_k, (oc5 a_h a_j a_pt e_ln e_se e_lh e_br e_we e_me e_ce e_wy e_ho e_ov)), (a_h, (oc1 e_wa e_le e_st e_fo e_lc a_l a_g a_b a_s a_p a_w e_gb a_bb)), (a_g, (oc6 6 5 a_gn e_g)), (a_gn, (arI G 30 f_g)), (a_b, (oc6 5 24 a_bn e_b)), (a_bn, (arI G 120 f_b)), (a_p, (oc6 8 5 a_pn e_p)), (a_pn, (arI G 40 f_p)), (a_w, (oc6 6 6 a_wn e_w)), (a_wn, (arI G 36 f_w)), (a_bb, (arJ G 24 f_bb)), (a_j, (oc2 a_as a_sk)), (a_as, (arI G 8 f_as)), (a_sk, (arJ G 50 f_sk)), (a_l, (arW G 6 f_l)), (a_pt, (arI G 200 f_pt)), (a_ha, (oc0 a_h a_k e_f1 e_f2 e_f3))] sz) := by
  refine Met.ofW (cc := cX0_search) (maxL := 4) (ret := none) (by decide +kernel) rfl ?_
  intro p e s m args below meth c s₁ B hml hv
  obtain ⟨rfl, hsz, hP, hK, hD0, hN, hT⟩ := hv
  have hx := B.exec
  have hb := B.bytes
  have hr := B.returns
  have hts : ∀ w ∈ tblG, w.before _ s = true := fun w h => atoms_spec (ws := (wsG yX0_search cX0_search 4 none)) B.pre w (List.mem_cons_of_mem _ h)
  have hown : s.vm.findClass RX0 = some m.cls := findClass_of_methodNamed B.named
  have hlocks := B.notSynchronized
  subst hsz
  have hD := hD0.self (sz := s.heap.size)
  generalize hAe : va_A [(a_k, (oc5 a_h a_j a_pt e_ln e_se e_lh e_br e_we e_me e_ce e_wy e_ho e_ov)), (a_h, (oc1 e_wa e_le e_st e_fo e_lc a_l a_g a_b a_s a_p a_w e_gb a_bb)), (a_g, (oc6 6 5 a_gn e_g)), (a_gn, (arI G 30 f_g)), (a_b, (oc6 5 24 a_bn e_b)), (a_bn, (arI G 120 f_b)), (a_p, (oc6 8 5 a_pn e_p)), (a_pn, (arI G 40 f_p)), (a_w, (oc6 6 6 a_wn e_w)), (a_wn, (arI G 36 f_w)), (a_bb, (arJ G 24 f_bb)), (a_j, (oc2 a_as a_sk)), (a_as, (arI G 8 f_as)), (a_sk, (arJ G 50 f_sk)), (a_l, (arW G 6 f_l)), (a_pt, (arI G 200 f_pt)), (a_ha, (oc0 a_h a_k e_f1 e_f2 e_f3))] s.heap.size = A at hD hT ⊢
  have hA : ∀ q : Nat, s.heap.size ≤ q → A q := fun q h => by rw [← hAe]; exact Or.inr h
  have hS : va_S A s.heap s.heap [] := va_S.rf
  replace hP : va_P G.1 vwCl [(a_k, (oc5 a_h a_j a_pt e_ln e_se e_lh e_br e_we e_me e_ce e_wy e_ho e_ov)), (a_h, (oc1 e_wa e_le e_st e_fo e_lc a_l a_g a_b a_s a_p a_w e_gb a_bb)), (a_g, (oc6 6 5 a_gn e_g)), (a_gn, (arI G 30 f_g)), (a_b, (oc6 5 24 a_bn e_b)), (a_bn, (arI G 120 f_b)), (a_p, (oc6 8 5 a_pn e_p)), (a_pn, (arI G 40 f_p)), (a_w, (oc6 6 6 a_wn e_w)), (a_wn, (arI G 36 f_w)), (a_bb, (arJ G 24 f_bb)), (a_j, (oc2 a_as a_sk)), (a_as, (arI G 8 f_as)), (a_sk, (arJ G 50 f_sk)), (a_l, (arW G 6 f_l)), (a_pt, (arI G 200 f_pt)), (a_ha, (oc0 a_h a_k e_f1 e_f2 e_f3))] s.heap := hP
  have hl := lv_entry ([.ref a_ha]) (n := 4) (Nat.le_of_ble_eq_true rfl)
  rw [lg_entry_eq]
  generalize (lg_sl ([.ref a_ha]) ++ List.replicate (4 - (lg_sl ([.ref a_ha])).length) Slot.unset).toArray = ls at hl ⊢
  replace hl : lv_has ls 4 [(0, .ref a_ha)] := hl
  refine lv_aload_n hx hb dX0_search_0 rfl (lv_at hl 0 rfl) ?_
  refine lv_iconst (v := (-1)) hx hb dX0_search_1 (by decide +kernel) ?_
  refine va_put (D := G.1) (ci := 0) (v := .int (-1)) (ty := .int) (C := RX0) (T := TX0) (N := 5) hx hb hts inG_X0 tyX0 tyX0_ok nmX0 hown hK hP hD hS 16 rfl rfl 2 (by decide +kernel) (hts _ fl_X0_45) (fun _ h9 => h9) rfl (by decide +kernel) rfl rfl (Nat.le_of_ble_eq_true rfl) dX0_search_2 ?_
  clear hP hD hS
  intro H locs hP hD hS
  refine g5_rs [(a_k, (oc5 a_h a_j a_pt e_ln e_se e_lh e_br e_we e_me e_ce e_wy e_ho e_ov)), (a_h, (oc1 e_wa e_le e_st e_fo e_lc a_l a_g a_b a_s a_p a_w e_gb a_bb)), (a_g, (oc6 6 5 a_gn e_g)), (a_gn, (arI G 30 f_g)), (a_b, (oc6 5 24 a_bn e_b)), (a_bn, (arI G 120 f_b)), (a_p, (oc6 8 5 a_pn e_p)), (a_pn, (arI G 40 f_p)), (a_w, (oc6 6 6 a_wn e_w)), (a_wn, (arI G 36 f_w)), (a_bb, (arJ G 24 f_bb)), (a_j, (oc2 a_as a_sk)), (a_as, (arI G 8 f_as)), (a_sk, (arJ G 50 f_sk)), (a_l, (arW G 6 f_l)), (a_pt, (arI G 200 f_pt)), (a_ha, (oc0 a_h a_k (-1) e_f2 e_f3))] hP hD ?_
  clear hP hD
  intro hP hD
  refine lv_aload_n hx hb dX0_search_5 rfl (lv_at hl 0 rfl) ?_
  refine W.eq (g2 := F0 m 6 ls [.ref a_ha]) rfl ?_
  refine lv_iconst (v := 0) hx hb dX0_search_6 (by decide +kernel) ?_
  refine va_put (D := G.1) (ci := 0) (v := .int 0) (ty := .int) (C := RX0) (T := TX0) (N := 5) hx hb hts inG_X0 tyX0 tyX0_ok nmX0 hown hK hP hD hS 16 rfl rfl 3 (by decide +kernel) (hts _ fl_X0_48) (fun _ h9 => h9) rfl (by decide +kernel) rfl rfl (Nat.le_of_ble_eq_true rfl) dX0_search_7 ?_
  clear hP hD hS
  intro H locs hP hD hS
  refine g5_rs [(a_k, (oc5 a_h a_j a_pt e_ln e_se e_lh e_br e_we e_me e_ce e_wy e_ho e_ov)), (a_h, (oc1 e_wa e_le e_st e_fo e_lc a_l a_g a_b a_s a_p a_w e_gb a_bb)), (a_g, (oc6 6 5 a_gn e_g)), (a_gn, (arI G 30 f_g)), (a_b, (oc6 5 24 a_bn e_b)), (a_bn, (arI G 120 f_b)), (a_p, (oc6 8 5 a_pn e_p)), (a_pn, (arI G 40 f_p)), (a_w, (oc6 6 6 a_wn e_w)), (a_wn, (arI G 36 f_w)), (a_bb, (arJ G 24 f_bb)), (a_j, (oc2 a_as a_sk)), (a_as, (arI G 8 f_as)), (a_sk, (arJ G 50 f_sk)), (a_l, (arW G 6 f_l)), (a_pt, (arI G 200 f_pt)), (a_ha, (oc0 a_h a_k (-1) 0 e_f3))] hP hD ?_
  clear hP hD
  intro hP hD
  refine lv_aload_n hx hb dX0_search_10 rfl (lv_at hl 0 rfl) ?_
  refine lv_iconst (v := (-1)) hx hb dX0_search_11 (by decide +kernel) ?_
  refine va_put (D := G.1) (ci := 0) (v := .int (-1)) (ty := .int) (C := RX0) (T := TX0) (N := 5) hx hb hts inG_X0 tyX0 tyX0_ok nmX0 hown hK hP hD hS 16 rfl rfl 4 (by decide +kernel) (hts _ fl_X0_51) (fun _ h9 => h9) rfl (by decide +kernel) rfl rfl (Nat.le_of_ble_eq_true rfl) dX0_search_12 ?_
  clear hP hD hS
  intro H locs hP hD hS
  refine g5_rs [(a_k, (oc5 a_h a_j a_pt e_ln e_se e_lh e_br e_we e_me e_ce e_wy e_ho e_ov)), (a_h, (oc1 e_wa e_le e_st e_fo e_lc a_l a_g a_b a_s a_p a_w e_gb a_bb)), (a_g, (oc6 6 5 a_gn e_g)), (a_gn, (arI G 30 f_g)), (a_b, (oc6 5 24 a_bn e_b)), (a_bn, (arI G 120 f_b)), (a_p, (oc6 8 5 a_pn e_p)), (a_pn, (arI G 40 f_p)), (a_w, (oc6 6 6 a_wn e_w)), (a_wn, (arI G 36 f_w)), (a_bb, (arJ G 24 f_bb)), (a_j, (oc2 a_as a_sk)), (a_as, (arI G 8 f_as)), (a_sk, (arJ G 50 f_sk)), (a_l, (arW G 6 f_l)), (a_pt, (arI G 200 f_pt)), (a_ha, (oc0 a_h a_k (-1) 0 (-1)))] hP hD ?_
  clear hP hD
  intro hP hD
  refine W.eq (g2 := F0 m 15 ls []) rfl ?_
  refine lv_iconst (v := 0) hx hb dX0_search_15 (by decide +kernel) ?_
  refine lv_istore_n (lv' := [(1, .int 0), (0, .ref a_ha)]) hx hb dX0_search_16 rfl hl (by decide +kernel) rfl ?_
  clear hl
  intro ls hl
  refine g5_loop (α := (Int32) × (Int32) × (Int32) × (Int32) × (Int32) × (Int32) × (Int32) × (Int32) × (Int32) × (Int32) × (Nat → Int32) × (Nat → Int32) × (Nat → Int64) × (Int32) × (Int32) × (Int32) × (Int32)) (fun (q : (Int32) × (Int32) × (Int32) × (Int32) × (Int32) × (Int32) × (Int32) × (Int32) × (Int32) × (Int32) × (Nat → Int32) × (Nat → Int32) × (Nat → Int64) × (Int32) × (Int32) × (Int32) × (Int32)) (ls : Array Slot) (H : Heap) (locs : List Loc) => match q with | (k_u, k_se, k_lh, k_br, k_we, k_me, k_ce, k_wy, k_ho, k_ov, k_pt, k_as, k_sk, k_ln, k_f1, k_f2, k_f3) => lv_has ls 4 [(1, .int k_u), (0, .ref a_ha)] ∧ va_P G.1 vwCl [(a_k, (oc5 a_h a_j a_pt k_ln k_se k_lh k_br k_we k_me k_ce k_wy k_ho k_ov)), (a_h, (oc1 e_wa e_le e_st e_fo e_lc a_l a_g a_b a_s a_p a_w e_gb a_bb)), (a_g, (oc6 6 5 a_gn e_g)), (a_gn, (arI G 30 f_g)), (a_b, (oc6 5 24 a_bn e_b)), (a_bn, (arI G 120 f_b)), (a_p, (oc6 8 5 a_pn e_p)), (a_pn, (arI G 40 f_p)), (a_w, (oc6 6 6 a_wn e_w)), (a_wn, (arI G 36 f_w)), (a_bb, (arJ G 24 f_bb)), (a_j, (oc2 a_as a_sk)), (a_as, (arI G 8 k_as)), (a_sk, (arJ G 50 k_sk)), (a_l, (arW G 6 f_l)), (a_pt, (arI G 200 k_pt)), (a_ha, (oc0 a_h a_k k_f1 k_f2 k_f3))] H ∧ va_D A [(a_k, (oc5 a_h a_j a_pt k_ln k_se k_lh k_br k_we k_me k_ce k_wy k_ho k_ov)), (a_h, (oc1 e_wa e_le e_st e_fo e_lc a_l a_g a_b a_s a_p a_w e_gb a_bb)), (a_g, (oc6 6 5 a_gn e_g)), (a_gn, (arI G 30 f_g)), (a_b, (oc6 5 24 a_bn e_b)), (a_bn, (arI G 120 f_b)), (a_p, (oc6 8 5 a_pn e_p)), (a_pn, (arI G 40 f_p)), (a_w, (oc6 6 6 a_wn e_w)), (a_wn, (arI G 36 f_w)), (a_bb, (arJ G 24 f_bb)), (a_j, (oc2 a_as a_sk)), (a_as, (arI G 8 k_as)), (a_sk, (arJ G 50 k_sk)), (a_l, (arW G 6 f_l)), (a_pt, (arI G 200 k_pt)), (a_ha, (oc0 a_h a_k k_f1 k_f2 k_f3))] ∧ va_S A s.heap H locs ∧ (0 ≤ k_u.toInt ∧ k_u.toInt ≤ 256) ∧ (0 ≤ k_ov.toInt ∧ k_ov.toInt ≤ 1)) (fun (q : (Int32) × (Int32) × (Int32) × (Int32) × (Int32) × (Int32) × (Int32) × (Int32) × (Int32) × (Int32) × (Nat → Int32) × (Nat → Int32) × (Nat → Int64) × (Int32) × (Int32) × (Int32) × (Int32)) => match q with | (k_u, k_se, k_lh, k_br, k_we, k_me, k_ce, k_wy, k_ho, k_ov, k_pt, k_as, k_sk, k_ln, k_f1, k_f2, k_f3) => Int.toNat (256 - k_u.toInt)) (0, e_se, e_lh, e_br, e_we, e_me, e_ce, e_wy, e_ho, e_ov, f_pt, f_as, f_sk, e_ln, (-1), 0, (-1)) ⟨lv_sub hl [0, 1] rfl, hP, hD, hS, ⟨by decide, by decide⟩, h_e_ov⟩ ?_
  rintro ⟨k_u, k_se, k_lh, k_br, k_we, k_me, k_ce, k_wy, k_ho, k_ov, k_pt, k_as, k_sk, k_ln, k_f1, k_f2, k_f3⟩ ls H locs ⟨hl, hP, hD, hS, (i_1 : 0 ≤ k_u.toInt ∧ k_u.toInt ≤ 256), (i_2 : 0 ≤ k_ov.toInt ∧ k_ov.toInt ≤ 1)⟩ ih_17_3
  replace hl : lv_has ls 4 [(1, .int k_u), (0, .ref a_ha)] := hl
  refine g5_rs [(a_k, (oc5 a_h a_j a_pt k_ln k_se k_lh k_br k_we k_me k_ce k_wy k_ho k_ov)), (a_h, (oc1 e_wa e_le e_st e_fo e_lc a_l a_g a_b a_s a_p a_w e_gb a_bb)), (a_g, (oc6 6 5 a_gn e_g)), (a_gn, (arI G 30 f_g)), (a_b, (oc6 5 24 a_bn e_b)), (a_bn, (arI G 120 f_b)), (a_p, (oc6 8 5 a_pn e_p)), (a_pn, (arI G 40 f_p)), (a_w, (oc6 6 6 a_wn e_w)), (a_wn, (arI G 36 f_w)), (a_bb, (arJ G 24 f_bb)), (a_j, (oc2 a_as a_sk)), (a_as, (arI G 8 k_as)), (a_sk, (arJ G 50 k_sk)), (a_l, (arW G 6 f_l)), (a_pt, (arI G 200 k_pt)), (a_ha, (oc0 a_h a_k k_f1 k_f2 k_f3))] hP hD ?_
  clear hP hD
  intro hP hD
  refine lv_iload_n hx hb dX0_search_17 rfl (lv_at hl 0 rfl) ?_
  refine lv_iconst (v := 1) hx hb dX0_search_18 (by decide +kernel) ?_
  refine lv_aload_n hx hb dX0_search_19 rfl (lv_at hl 1 rfl) ?_
  refine va_get (D := G.1) (ci := 0) (v := .ref a_h) (C := RX0) (T := TX0) (N := 5) hx hb hts inG_X0 hown hK hP 16 rfl rfl 0 (by decide +kernel) (hts _ fl_X0_9) (fun _ h9 => h9) rfl dX0_search_20 ?_
  refine W.eq (g2 := F0 m 23 ls [.ref a_h, .int 1, .int k_u]) rfl ?_
  refine va_get (D := G.1) (ci := 1) (v := .ref a_p) (C := RX1) (T := TX1) (N := 13) hx hb hts inG_X1 hown hK hP 1 rfl rfl 9 (by decide +kernel) (hts _ fl_X0_54) (fun _ h9 => h9) rfl dX0_search_23 ?_
  refine va_get (D := G.1) (ci := 6) (v := .int e_p) (C := RX6) (T := TX6) (N := 4) hx hb hts inG_X6 hown hK hP 6 rfl rfl 3 (by decide +kernel) (hts _ fl_X0_25) (fun _ h9 => h9) rfl dX0_search_26 ?_
  refine lv_ishl hx hb dX0_search_29 ?_
  have hs_4 := g_shl8 (e := e_p) (by omega) (by omega)
  refine lv_icmp_ge (tgt := 111) hx hb dX0_search_30 (by decide +kernel) (fun c_5 => ?_) (fun c_5 => ?_)
  ·
    have i_5 : k_u.toInt ≥ (1 <<< (e_p &&& 31)).toInt := g5_ge (a := k_u.toInt) (b := (1 <<< (e_p &&& 31)).toInt) rfl rfl c_5
    exact W.vret hx hb hr (fun t ht hW => ⟨⟨[(a_k, (oc5 a_h a_j a_pt k_ln k_se k_lh k_br k_we k_me k_ce k_wy k_ho k_ov)), (a_h, (oc1 e_wa e_le e_st e_fo e_lc a_l a_g a_b a_s a_p a_w e_gb a_bb)), (a_g, (oc6 6 5 a_gn e_g)), (a_gn, (arI G 30 f_g)), (a_b, (oc6 5 24 a_bn e_b)), (a_bn, (arI G 120 f_b)), (a_p, (oc6 8 5 a_pn e_p)), (a_pn, (arI G 40 f_p)), (a_w, (oc6 6 6 a_wn e_w)), (a_wn, (arI G 36 f_w)), (a_bb, (arJ G 24 f_bb)), (a_j, (oc2 a_as a_sk)), (a_as, (arI G 8 k_as)), (a_sk, (arJ G 50 k_sk)), (a_l, (arW G 6 f_l)), (a_pt, (arI G 200 k_pt)), (a_ha, (oc0 a_h a_k k_f1 k_f2 k_f3))], rfl, ⟨k_ln, k_se, k_lh, k_br, k_we, k_me, k_ce, k_wy, k_ho, k_ov, k_pt, k_as, k_sk, k_f1, k_f2, k_f3, i_2, rfl⟩, by rw [ht]; exact hP.sub [0, 1, 2, 3, 4, 5, 6, 7, 8, 9, 10, 11, 12, 13, 14, 15, 16] rfl, hD.sub [0, 1, 2, 3, 4, 5, 6, 7, 8, 9, 10, 11, 12, 13, 14, 15, 16] (by decide +kernel) rfl⟩, hS.F ht⟩) hS.2.2 dX0_search_111
  ·
    have i_5 : k_u.toInt < (1 <<< (e_p &&& 31)).toInt := g5_geN (a := k_u.toInt) (b := (1 <<< (e_p &&& 31)).toInt) rfl rfl c_5
    refine lv_iload_n hx hb dX0_search_33 rfl (lv_at hl 0 rfl) ?_
    obtain ⟨hPc, hDc, hFc⟩ := g5_sub3 (wc := []) hP hD hS hA [] (by decide +kernel) rfl
    refine va_calli (va_runS (As := [.int k_u]) (rest := []) ⟨hx, hb, hml, hown, hts⟩ (j_bitCountI l G H.size k_u) (va_cwS 1 hts gS_X0_57 rfl rfl rfl hs_J6_bitCount_0f7a4 ⟨Nat.le_of_ble_eq_true rfl, Nat.le_of_ble_eq_true rfl⟩) (g5_preS hPc hK hDc hN hT hS hFc) rfl rfl hl.1 rfl (lv_room (Nat.le_of_ble_eq_true rfl)) dX0_search_34 ⟨Nat.le_of_ble_eq_true rfl, Nat.le_of_ble_eq_true rfl⟩) hS (fun q _ h => hFc q h) hFc (fun r u t H locs ht hvm hw hB hz1 hk1 hS => ?_)
    obtain ⟨hP1, hD1⟩ := hB
    have hP1 := g5_ht ht hP1
    obtain ⟨z6, y7, rfl⟩ := hw
    have hJ9 := g5_same hP hk1
    clear hP hPc hDc hFc ht hvm hz1 hk1 hP1 hD1
    have hP := hJ9
    clear hJ9
    refine g5_ti (v := z6) y7 ?_
    refine lv_istore_n (lv' := [(2, .int z6), (1, .int k_u), (0, .ref a_ha)]) hx hb dX0_search_37 rfl hl (by decide +kernel) rfl ?_
    clear hl
    intro ls hl
    refine lv_aload_n hx hb dX0_search_38 rfl (lv_at hl 2 rfl) ?_
    refine W.eq (g2 := F0 m 39 ls [.ref a_ha]) rfl ?_
    refine va_get (D := G.1) (ci := 0) (v := .int k_f1) (C := RX0) (T := TX0) (N := 5) hx hb hts inG_X0 hown hK hP 16 rfl rfl 2 (by decide +kernel) (hts _ fl_X0_45) (fun _ h9 => h9) rfl dX0_search_39 ?_
    refine lv_iconst (v := (-1)) hx hb dX0_search_42 (by decide +kernel) ?_
    refine lv_icmp_eq (tgt := 54) hx hb dX0_search_43 (by decide +kernel) (fun c_8 => ?_) (fun c_8 => ?_)
    ·
      have i_8 : k_f1.toInt = (-1) := g5_eq (a := k_f1.toInt) (b := (-1)) rfl (by decide +kernel) c_8
      refine lv_iconst (v := 1) hx hb dX0_search_54 (by decide +kernel) ?_
      refine lv_goto (tgt := 59) hx hb dX0_search_55 (by decide +kernel) ?_
      refine lv_istore_n (lv' := [(3, .int 1), (2, .int z6), (1, .int k_u), (0, .ref a_ha)]) hx hb dX0_search_59 rfl hl (by decide +kernel) rfl ?_
      clear hl
      intro ls hl
      refine lv_iload_n hx hb dX0_search_60 rfl (lv_at hl 0 rfl) ?_
      refine W.eq (g2 := F0 m 61 ls [.int 1]) rfl ?_
      refine lv_if_eq (tgt := 105) hx hb dX0_search_61 (by decide +kernel) (fun c_9 => ?_) (fun c_9 => ?_)
      ·
        exact absurd c_9 (by decide +kernel)
      ·
        refine lv_aload_n hx hb dX0_search_64 rfl (lv_at hl 3 rfl) ?_
        refine lv_iload_n hx hb dX0_search_65 rfl (lv_at hl 2 rfl) ?_
        obtain ⟨hPc, hDc, hFc⟩ := g5_sub3 (wc := [(a_k, (oc5 a_h a_j a_pt k_ln k_se k_lh k_br k_we k_me k_ce k_wy k_ho k_ov)), (a_h, (oc1 e_wa e_le e_st e_fo e_lc a_l a_g a_b a_s a_p a_w e_gb a_bb)), (a_g, (oc6 6 5 a_gn e_g)), (a_gn, (arI G 30 f_g)), (a_b, (oc6 5 24 a_bn e_b)), (a_bn, (arI G 120 f_b)), (a_p, (oc6 8 5 a_pn e_p)), (a_pn, (arI G 40 f_p)), (a_w, (oc6 6 6 a_wn e_w)), (a_wn, (arI G 36 f_w)), (a_bb, (arJ G 24 f_bb)), (a_j, (oc2 a_as a_sk)), (a_as, (arI G 8 k_as)), (a_sk, (arJ G 50 k_sk)), (a_l, (arW G 6 f_l)), (a_pt, (arI G 200 k_pt)), (a_ha, (oc0 a_h a_k k_f1 k_f2 k_f3))]) hP hD hS hA [0, 1, 2, 3, 4, 5, 6, 7, 8, 9, 10, 11, 12, 13, 14, 15, 16] (by decide +kernel) rfl
        refine va_calli (va_runV (As := [.int k_u]) (rest := []) ⟨hx, hb, hml, hown, hts⟩ (g_lackingN l G a_k a_h a_g a_gn a_b a_bn a_p a_pn a_w a_wn a_bb a_j a_as a_sk a_l a_pt a_ha a_s H.size e_le e_st e_fo e_lc e_g e_b e_p e_w k_ln k_se k_lh k_br k_we k_me k_ce k_wy k_ho k_ov k_f1 k_f2 k_f3 k_u e_wa e_gb f_g f_b f_p f_w f_bb k_as k_sk f_l k_pt h_e_g h_e_b h_e_p h_e_w i_2 (e_gk) (e_pk) (e_gi) (e_f)) (cwV 1 hts gV_X0_63 rfl rfl rfl hv_X0_lacking ⟨Nat.le_of_ble_eq_true rfl, Nat.le_of_ble_eq_true rfl⟩) (g5_preV hPc hK hDc hN hT hS hFc (ci := 0) (q0 := 16) rfl rfl) rfl rfl hl.1 rfl (lv_room (Nat.le_of_ble_eq_true rfl)) dX0_search_66 ⟨Nat.le_of_ble_eq_true rfl, Nat.le_of_ble_eq_true rfl⟩) hS (fun q _ h => hFc q h) hFc (fun r u t H locs ht hvm hw hB hz1 hk1 hS => ?_)
        obtain ⟨hP1, hD1⟩ := hB
        have hP1 := g5_ht ht hP1
        obtain ⟨z11, z12, z13, z14, z15, z16, z17, z18, z19, z20, z21, z22, z23, z24, (i_10 : 0 ≤ z21.toInt ∧ z21.toInt ≤ 1), y25, rfl⟩ := hw
        have hJ9 := va_join (wr := []) hP hD [0, 1, 2, 3, 4, 5, 6, 7, 8, 9, 10, 11, 12, 13, 14, 15, 16] [] rfl rfl (by decide +kernel) (by decide +kernel) hk1 hFc hP1 hD1
        clear hP hD hPc hDc hFc ht hvm hz1 hk1 hP1 hD1
        obtain ⟨hP, hD⟩ := hJ9
        refine g5_rs [(a_k, (oc5 a_h a_j a_pt z12 z13 z14 z15 z16 z17 z18 z19 z20 z21)), (a_h, (oc1 e_wa e_le e_st e_fo e_lc a_l a_g a_b a_s a_p a_w e_gb a_bb)), (a_g, (oc6 6 5 a_gn e_g)), (a_gn, (arI G 30 f_g)), (a_b, (oc6 5 24 a_bn e_b)), (a_bn, (arI G 120 f_b)), (a_p, (oc6 8 5 a_pn e_p)), (a_pn, (arI G 40 f_p)), (a_w, (oc6 6 6 a_wn e_w)), (a_wn, (arI G 36 f_w)), (a_bb, (arJ G 24 f_bb)), (a_j, (oc2 a_as a_sk)), (a_as, (arI G 8 z23)), (a_sk, (arJ G 50 z24)), (a_l, (arW G 6 f_l)), (a_pt, (arI G 200 z22)), (a_ha, (oc0 a_h a_k k_f1 k_f2 k_f3))] hP hD ?_
        clear hP hD
        intro hP hD
        refine g5_ti (v := z11) y25 ?_
        refine lv_if_ne (tgt := 105) hx hb dX0_search_69 (by decide +kernel) (fun c_26 => ?_) (fun c_26 => ?_)
        ·
          have n_26 : gNe (z11.toInt) (0) := g5_ne (a := z11.toInt) (b := 0) rfl (by decide +kernel) c_26
          refine lv_iinc (v := (k_u + 1)) (lv' := [(1, .int (k_u + 1)), (3, .int 1), (2, .int z6), (0, .ref a_ha)]) hx hb dX0_search_105 hl (k := 2) rfl rfl (by decide +kernel) rfl ?_
          clear hl
          intro ls hl
          have t_27 : (k_u + 1).toInt = k_u.toInt + 1 := g5_iadd (a := k_u.toInt) (b := 1) rfl (by decide +kernel) (by omega) (by omega)
          refine lv_goto (tgt := 17) hx hb dX0_search_108 (by decide +kernel) ?_
          exact ih_17_3 ((k_u + 1), z13, z14, z15, z16, z17, z18, z19, z20, z21, z22, z23, z24, z12, k_f1, k_f2, k_f3) ls H locs (show Int.toNat (256 - (k_u + 1).toInt) < Int.toNat (256 - k_u.toInt) from g_up (show k_u.toInt < (k_u + 1).toInt by omega) (show k_u.toInt < 256 by omega)) ⟨lv_sub hl [0, 3] rfl, hP, hD, hS, ⟨by omega, by omega⟩, i_10⟩
        ·
          have i_26 : z11.toInt = 0 := g5_neN (a := z11.toInt) (b := 0) rfl (by decide +kernel) c_26
          refine lv_iload_n hx hb dX0_search_72 rfl (lv_at hl 1 rfl) ?_
          refine lv_aload_n hx hb dX0_search_73 rfl (lv_at hl 3 rfl) ?_
          refine va_get (D := G.1) (ci := 0) (v := .int k_f1) (C := RX0) (T := TX0) (N := 5) hx hb hts inG_X0 hown hK hP 16 rfl rfl 2 (by decide +kernel) (hts _ fl_X0_45) (fun _ h9 => h9) rfl dX0_search_74 ?_
          refine lv_icmp_eq (tgt := 95) hx hb dX0_search_77 (by decide +kernel) (fun c_28 => ?_) (fun c_28 => ?_)
          ·
            have i_28 : z6.toInt = k_f1.toInt := g5_eq (a := z6.toInt) (b := k_f1.toInt) rfl rfl c_28
            refine lv_aload_n hx hb dX0_search_95 rfl (lv_at hl 3 rfl) ?_
            refine lv_dup hx hb dX0_search_96 rfl ?_
            refine va_get (D := G.1) (ci := 0) (v := .int k_f2) (C := RX0) (T := TX0) (N := 5) hx hb hts inG_X0 hown hK hP 16 rfl rfl 3 (by decide +kernel) (hts _ fl_X0_48) (fun _ h9 => h9) rfl dX0_search_97 ?_
            refine lv_iconst (v := 1) hx hb dX0_search_100 (by decide +kernel) ?_
            refine W.eq (g2 := F0 m 101 ls [.int 1, .int k_f2, .ref a_ha]) rfl ?_
            refine lv_iadd hx hb dX0_search_101 ?_
            refine va_put (D := G.1) (ci := 0) (v := .int (k_f2 + 1)) (ty := .int) (C := RX0) (T := TX0) (N := 5) hx hb hts inG_X0 tyX0 tyX0_ok nmX0 hown hK hP hD hS 16 rfl rfl 3 (by decide +kernel) (hts _ fl_X0_48) (fun _ h9 => h9) rfl (by decide +kernel) rfl rfl (Nat.le_of_ble_eq_true rfl) dX0_search_102 ?_
            clear hP hD hS
            intro H locs hP hD hS
            refine g5_rs [(a_k, (oc5 a_h a_j a_pt z12 z13 z14 z15 z16 z17 z18 z19 z20 z21)), (a_h, (oc1 e_wa e_le e_st e_fo e_lc a_l a_g a_b a_s a_p a_w e_gb a_bb)), (a_g, (oc6 6 5 a_gn e_g)), (a_gn, (arI G 30 f_g)), (a_b, (oc6 5 24 a_bn e_b)), (a_bn, (arI G 120 f_b)), (a_p, (oc6 8 5 a_pn e_p)), (a_pn, (arI G 40 f_p)), (a_w, (oc6 6 6 a_wn e_w)), (a_wn, (arI G 36 f_w)), (a_bb, (arJ G 24 f_bb)), (a_j, (oc2 a_as a_sk)), (a_as, (arI G 8 z23)), (a_sk, (arJ G 50 z24)), (a_l, (arW G 6 f_l)), (a_pt, (arI G 200 z22)), (a_ha, (oc0 a_h a_k k_f1 (k_f2 + 1) k_f3))] hP hD ?_
            clear hP hD
            intro hP hD
            refine lv_iinc (v := (k_u + 1)) (lv' := [(1, .int (k_u + 1)), (3, .int 1), (2, .int z6), (0, .ref a_ha)]) hx hb dX0_search_105 hl (k := 2) rfl rfl (by decide +kernel) rfl ?_
            clear hl
            intro ls hl
            have t_29 : (k_u + 1).toInt = k_u.toInt + 1 := g5_iadd (a := k_u.toInt) (b := 1) rfl (by decide +kernel) (by omega) (by omega)
            refine lv_goto (tgt := 17) hx hb dX0_search_108 (by decide +kernel) ?_
            exact ih_17_3 ((k_u + 1), z13, z14, z15, z16, z17, z18, z19, z20, z21, z22, z23, z24, z12, k_f1, (k_f2 + 1), k_f3) ls H locs (show Int.toNat (256 - (k_u + 1).toInt) < Int.toNat (256 - k_u.toInt) from g_up (show k_u.toInt < (k_u + 1).toInt by omega) (show k_u.toInt < 256 by omega)) ⟨lv_sub hl [0, 3] rfl, hP, hD, hS, ⟨by omega, by omega⟩, i_10⟩
          ·
            have n_28 : gNe (z6.toInt) (k_f1.toInt) := g5_eqN (a := z6.toInt) (b := k_f1.toInt) rfl rfl c_28
            refine lv_aload_n hx hb dX0_search_80 rfl (lv_at hl 3 rfl) ?_
            refine lv_iload_n hx hb dX0_search_81 rfl (lv_at hl 1 rfl) ?_
            refine va_put (D := G.1) (ci := 0) (v := .int z6) (ty := .int) (C := RX0) (T := TX0) (N := 5) hx hb hts inG_X0 tyX0 tyX0_ok nmX0 hown hK hP hD hS 16 rfl rfl 2 (by decide +kernel) (hts _ fl_X0_45) (fun _ h9 => h9) rfl (by decide +kernel) rfl rfl (Nat.le_of_ble_eq_true rfl) dX0_search_82 ?_
            clear hP hD hS
            intro H locs hP hD hS
            refine g5_rs [(a_k, (oc5 a_h a_j a_pt z12 z13 z14 z15 z16 z17 z18 z19 z20 z21)), (a_h, (oc1 e_wa e_le e_st e_fo e_lc a_l a_g a_b a_s a_p a_w e_gb a_bb)), (a_g, (oc6 6 5 a_gn e_g)), (a_gn, (arI G 30 f_g)), (a_b, (oc6 5 24 a_bn e_b)), (a_bn, (arI G 120 f_b)), (a_p, (oc6 8 5 a_pn e_p)), (a_pn, (arI G 40 f_p)), (a_w, (oc6 6 6 a_wn e_w)), (a_wn, (arI G 36 f_w)), (a_bb, (arJ G 24 f_bb)), (a_j, (oc2 a_as a_sk)), (a_as, (arI G 8 z23)), (a_sk, (arJ G 50 z24)), (a_l, (arW G 6 f_l)), (a_pt, (arI G 200 z22)), (a_ha, (oc0 a_h a_k z6 k_f2 k_f3))] hP hD ?_
            clear hP hD
            intro hP hD
            refine lv_aload_n hx hb dX0_search_85 rfl (lv_at hl 3 rfl) ?_
            refine W.eq (g2 := F0 m 86 ls [.ref a_ha]) rfl ?_
            refine lv_iconst (v := 0) hx hb dX0_search_86 (by decide +kernel) ?_
            refine va_put (D := G.1) (ci := 0) (v := .int 0) (ty := .int) (C := RX0) (T := TX0) (N := 5) hx hb hts inG_X0 tyX0 tyX0_ok nmX0 hown hK hP hD hS 16 rfl rfl 3 (by decide +kernel) (hts _ fl_X0_48) (fun _ h9 => h9) rfl (by decide +kernel) rfl rfl (Nat.le_of_ble_eq_true rfl) dX0_search_87 ?_
            clear hP hD hS
            intro H locs hP hD hS
            refine g5_rs [(a_k, (oc5 a_h a_j a_pt z12 z13 z14 z15 z16 z17 z18 z19 z20 z21)), (a_h, (oc1 e_wa e_le e_st e_fo e_lc a_l a_g a_b a_s a_p a_w e_gb a_bb)), (a_g, (oc6 6 5 a_gn e_g)), (a_gn, (arI G 30 f_g)), (a_b, (oc6 5 24 a_bn e_b)), (a_bn, (arI G 120 f_b)), (a_p, (oc6 8 5 a_pn e_p)), (a_pn, (arI G 40 f_p)), (a_w, (oc6 6 6 a_wn e_w)), (a_wn, (arI G 36 f_w)), (a_bb, (arJ G 24 f_bb)), (a_j, (oc2 a_as a_sk)), (a_as, (arI G 8 z23)), (a_sk, (arJ G 50 z24)), (a_l, (arW G 6 f_l)), (a_pt, (arI G 200 z22)), (a_ha, (oc0 a_h a_k z6 0 k_f3))] hP hD ?_
            clear hP hD
            intro hP hD
            refine lv_aload_n hx hb dX0_search_90 rfl (lv_at hl 3 rfl) ?_
            refine lv_iload_n hx hb dX0_search_91 rfl (lv_at hl 2 rfl) ?_
            refine va_put (D := G.1) (ci := 0) (v := .int k_u) (ty := .int) (C := RX0) (T := TX0) (N := 5) hx hb hts inG_X0 tyX0 tyX0_ok nmX0 hown hK hP hD hS 16 rfl rfl 4 (by decide +kernel) (hts _ fl_X0_51) (fun _ h9 => h9) rfl (by decide +kernel) rfl rfl (Nat.le_of_ble_eq_true rfl) dX0_search_92 ?_
            clear hP hD hS
            intro H locs hP hD hS
            refine g5_rs [(a_k, (oc5 a_h a_j a_pt z12 z13 z14 z15 z16 z17 z18 z19 z20 z21)), (a_h, (oc1 e_wa e_le e_st e_fo e_lc a_l a_g a_b a_s a_p a_w e_gb a_bb)), (a_g, (oc6 6 5 a_gn e_g)), (a_gn, (arI G 30 f_g)), (a_b, (oc6 5 24 a_bn e_b)), (a_bn, (arI G 120 f_b)), (a_p, (oc6 8 5 a_pn e_p)), (a_pn, (arI G 40 f_p)), (a_w, (oc6 6 6 a_wn e_w)), (a_wn, (arI G 36 f_w)), (a_bb, (arJ G 24 f_bb)), (a_j, (oc2 a_as a_sk)), (a_as, (arI G 8 z23)), (a_sk, (arJ G 50 z24)), (a_l, (arW G 6 f_l)), (a_pt, (arI G 200 z22)), (a_ha, (oc0 a_h a_k z6 0 k_u))] hP hD ?_
            clear hP hD
            intro hP hD
            refine W.eq (g2 := F0 m 95 ls []) rfl ?_
            refine lv_aload_n hx hb dX0_search_95 rfl (lv_at hl 3 rfl) ?_
            refine lv_dup hx hb dX0_search_96 rfl ?_
            refine va_get (D := G.1) (ci := 0) (v := .int 0) (C := RX0) (T := TX0) (N := 5) hx hb hts inG_X0 hown hK hP 16 rfl rfl 3 (by decide +kernel) (hts _ fl_X0_48) (fun _ h9 => h9) rfl dX0_search_97 ?_
            refine lv_iconst (v := 1) hx hb dX0_search_100 (by decide +kernel) ?_
            refine lv_iadd hx hb dX0_search_101 ?_
            refine g5_ti (v := 1) (by decide +kernel) ?_
            refine W.eq (g2 := F0 m 102 ls [.int 1, .ref a_ha]) rfl ?_
            refine va_put (D := G.1) (ci := 0) (v := .int 1) (ty := .int) (C := RX0) (T := TX0) (N := 5) hx hb hts inG_X0 tyX0 tyX0_ok nmX0 hown hK hP hD hS 16 rfl rfl 3 (by decide +kernel) (hts _ fl_X0_48) (fun _ h9 => h9) rfl (by decide +kernel) rfl rfl (Nat.le_of_ble_eq_true rfl) dX0_search_102 ?_
            clear hP hD hS
            intro H locs hP hD hS
            refine g5_rs [(a_k, (oc5 a_h a_j a_pt z12 z13 z14 z15 z16 z17 z18 z19 z20 z21)), (a_h, (oc1 e_wa e_le e_st e_fo e_lc a_l a_g a_b a_s a_p a_w e_gb a_bb)), (a_g, (oc6 6 5 a_gn e_g)), (a_gn, (arI G 30 f_g)), (a_b, (oc6 5 24 a_bn e_b)), (a_bn, (arI G 120 f_b)), (a_p, (oc6 8 5 a_pn e_p)), (a_pn, (arI G 40 f_p)), (a_w, (oc6 6 6 a_wn e_w)), (a_wn, (arI G 36 f_w)), (a_bb, (arJ G 24 f_bb)), (a_j, (oc2 a_as a_sk)), (a_as, (arI G 8 z23)), (a_sk, (arJ G 50 z24)), (a_l, (arW G 6 f_l)), (a_pt, (arI G 200 z22)), (a_ha, (oc0 a_h a_k z6 1 k_u))] hP hD ?_
            clear hP hD
            intro hP hD
            refine lv_iinc (v := (k_u + 1)) (lv' := [(1, .int (k_u + 1)), (3, .int 1), (2, .int z6), (0, .ref a_ha)]) hx hb dX0_search_105 hl (k := 2) rfl rfl (by decide +kernel) rfl ?_
            clear hl
            intro ls hl
            have t_30 : (k_u + 1).toInt = k_u.toInt + 1 := g5_iadd (a := k_u.toInt) (b := 1) rfl (by decide +kernel) (by omega) (by omega)
            refine lv_goto (tgt := 17) hx hb dX0_search_108 (by decide +kernel) ?_
            exact ih_17_3 ((k_u + 1), z13, z14, z15, z16, z17, z18, z19, z20, z21, z22, z23, z24, z12, z6, 1, k_u) ls H locs (show Int.toNat (256 - (k_u + 1).toInt) < Int.toNat (256 - k_u.toInt) from g_up (show k_u.toInt < (k_u + 1).toInt by omega) (show k_u.toInt < 256 by omega)) ⟨lv_sub hl [0, 3] rfl, hP, hD, hS, ⟨by omega, by omega⟩, i_10⟩
    ·
      have n_8 : gNe (k_f1.toInt) ((-1)) := g5_eqN (a := k_f1.toInt) (b := (-1)) rfl (by decide +kernel) c_8
      refine lv_iload_n hx hb dX0_search_46 rfl (lv_at hl 0 rfl) ?_
      refine lv_aload_n hx hb dX0_search_47 rfl (lv_at hl 2 rfl) ?_
      refine va_get (D := G.1) (ci := 0) (v := .int k_f1) (C := RX0) (T := TX0) (N := 5) hx hb hts inG_X0 hown hK hP 16 rfl rfl 2 (by decide +kernel) (hts _ fl_X0_45) (fun _ h9 => h9) rfl dX0_search_48 ?_
      refine lv_icmp_gt (tgt := 58) hx hb dX0_search_51 (by decide +kernel) (fun c_31 => ?_) (fun c_31 => ?_)
      ·
        have i_31 : z6.toInt > k_f1.toInt := g5_gt (a := z6.toInt) (b := k_f1.toInt) rfl rfl c_31
        refine lv_iconst (v := 0) hx hb dX0_search_58 (by decide +kernel) ?_
        refine lv_istore_n (lv' := [(3, .int 0), (2, .int z6), (1, .int k_u), (0, .ref a_ha)]) hx hb dX0_search_59 rfl hl (by decide +kernel) rfl ?_
        clear hl
        intro ls hl
        refine lv_iload_n hx hb dX0_search_60 rfl (lv_at hl 0 rfl) ?_
        refine lv_if_eq (tgt := 105) hx hb dX0_search_61 (by decide +kernel) (fun c_32 => ?_) (fun c_32 => ?_)
        ·
          refine lv_iinc (v := (k_u + 1)) (lv' := [(1, .int (k_u + 1)), (3, .int 0), (2, .int z6), (0, .ref a_ha)]) hx hb dX0_search_105 hl (k := 2) rfl rfl (by decide +kernel) rfl ?_
          clear hl
          intro ls hl
          have t_33 : (k_u + 1).toInt = k_u.toInt + 1 := g5_iadd (a := k_u.toInt) (b := 1) rfl (by decide +kernel) (by omega) (by omega)
          refine lv_goto (tgt := 17) hx hb dX0_search_108 (by decide +kernel) ?_
          exact ih_17_3 ((k_u + 1), k_se, k_lh, k_br, k_we, k_me, k_ce, k_wy, k_ho, k_ov, k_pt, k_as, k_sk, k_ln, k_f1, k_f2, k_f3) ls H locs (show Int.toNat (256 - (k_u + 1).toInt) < Int.toNat (256 - k_u.toInt) from g_up (show k_u.toInt < (k_u + 1).toInt by omega) (show k_u.toInt < 256 by omega)) ⟨lv_sub hl [0, 3] rfl, hP, hD, hS, ⟨by omega, by omega⟩, i_2⟩
        ·
          exact absurd c_32 (by decide +kernel)
      ·
        have i_31 : z6.toInt ≤ k_f1.toInt := g5_gtN (a := z6.toInt) (b := k_f1.toInt) rfl rfl c_31
        refine lv_iconst (v := 1) hx hb dX0_search_54 (by decide +kernel) ?_
        refine lv_goto (tgt := 59) hx hb dX0_search_55 (by decide +kernel) ?_
        refine lv_istore_n (lv' := [(3, .int 1), (2, .int z6), (1, .int k_u), (0, .ref a_ha)]) hx hb dX0_search_59 rfl hl (by decide +kernel) rfl ?_
        clear hl
        intro ls hl
        refine lv_iload_n hx hb dX0_search_60 rfl (lv_at hl 0 rfl) ?_
        refine W.eq (g2 := F0 m 61 ls [.int 1]) rfl ?_
        refine lv_if_eq (tgt := 105) hx hb dX0_search_61 (by decide +kernel) (fun c_34 => ?_) (fun c_34 => ?_)
        ·
          exact absurd c_34 (by decide +kernel)
        ·
          refine lv_aload_n hx hb dX0_search_64 rfl (lv_at hl 3 rfl) ?_
          refine lv_iload_n hx hb dX0_search_65 rfl (lv_at hl 2 rfl) ?_
          obtain ⟨hPc, hDc, hFc⟩ := g5_sub3 (wc := [(a_k, (oc5 a_h a_j a_pt k_ln k_se k_lh k_br k_we k_me k_ce k_wy k_ho k_ov)), (a_h, (oc1 e_wa e_le e_st e_fo e_lc a_l a_g a_b a_s a_p a_w e_gb a_bb)), (a_g, (oc6 6 5 a_gn e_g)), (a_gn, (arI G 30 f_g)), (a_b, (oc6 5 24 a_bn e_b)), (a_bn, (arI G 120 f_b)), (a_p, (oc6 8 5 a_pn e_p)), (a_pn, (arI G 40 f_p)), (a_w, (oc6 6 6 a_wn e_w)), (a_wn, (arI G 36 f_w)), (a_bb, (arJ G 24 f_bb)), (a_j, (oc2 a_as a_sk)), (a_as, (arI G 8 k_as)), (a_sk, (arJ G 50 k_sk)), (a_l, (arW G 6 f_l)), (a_pt, (arI G 200 k_pt)), (a_ha, (oc0 a_h a_k k_f1 k_f2 k_f3))]) hP hD hS hA [0, 1, 2, 3, 4, 5, 6, 7, 8, 9, 10, 11, 12, 13, 14, 15, 16] (by decide +kernel) rfl
          refine va_calli (va_runV (As := [.int k_u]) (rest := []) ⟨hx, hb, hml, hown, hts⟩ (g_lackingN l G a_k a_h a_g a_gn a_b a_bn a_p a_pn a_w a_wn a_bb a_j a_as a_sk a_l a_pt a_ha a_s H.size e_le e_st e_fo e_lc e_g e_b e_p e_w k_ln k_se k_lh k_br k_we k_me k_ce k_wy k_ho k_ov k_f1 k_f2 k_f3 k_u e_wa e_gb f_g f_b f_p f_w f_bb k_as k_sk f_l k_pt h_e_g h_e_b h_e_p h_e_w i_2 (e_gk) (e_pk) (e_gi) (e_f)) (cwV 1 hts gV_X0_63 rfl rfl rfl hv_X0_lacking ⟨Nat.le_of_ble_eq_true rfl, Nat.le_of_ble_eq_true rfl⟩) (g5_preV hPc hK hDc hN hT hS hFc (ci := 0) (q0 := 16) rfl rfl) rfl rfl hl.1 rfl (lv_room (Nat.le_of_ble_eq_true rfl)) dX0_search_66 ⟨Nat.le_of_ble_eq_true rfl, Nat.le_of_ble_eq_true rfl⟩) hS (fun q _ h => hFc q h) hFc (fun r u t H locs ht hvm hw hB hz1 hk1 hS => ?_)
          obtain ⟨hP1, hD1⟩ := hB
          have hP1 := g5_ht ht hP1
          obtain ⟨z36, z37, z38, z39, z40, z41, z42, z43, z44, z45, z46, z47, z48, z49, (i_35 : 0 ≤ z46.toInt ∧ z46.toInt ≤ 1), y50, rfl⟩ := hw
          have hJ9 := va_join (wr := []) hP hD [0, 1, 2, 3, 4, 5, 6, 7, 8, 9, 10, 11, 12, 13, 14, 15, 16] [] rfl rfl (by decide +kernel) (by decide +kernel) hk1 hFc hP1 hD1
          clear hP hD hPc hDc hFc ht hvm hz1 hk1 hP1 hD1
          obtain ⟨hP, hD⟩ := hJ9
          refine g5_rs [(a_k, (oc5 a_h a_j a_pt z37 z38 z39 z40 z41 z42 z43 z44 z45 z46)), (a_h, (oc1 e_wa e_le e_st e_fo e_lc a_l a_g a_b a_s a_p a_w e_gb a_bb)), (a_g, (oc6 6 5 a_gn e_g)), (a_gn, (arI G 30 f_g)), (a_b, (oc6 5 24 a_bn e_b)), (a_bn, (arI G 120 f_b)), (a_p, (oc6 8 5 a_pn e_p)), (a_pn, (arI G 40 f_p)), (a_w, (oc6 6 6 a_wn e_w)), (a_wn, (arI G 36 f_w)), (a_bb, (arJ G 24 f_bb)), (a_j, (oc2 a_as a_sk)), (a_as, (arI G 8 z48)), (a_sk, (arJ G 50 z49)), (a_l, (arW G 6 f_l)), (a_pt, (arI G 200 z47)), (a_ha, (oc0 a_h a_k k_f1 k_f2 k_f3))] hP hD ?_
          clear hP hD
          intro hP hD
          refine g5_ti (v := z36) y50 ?_
          refine lv_if_ne (tgt := 105) hx hb dX0_search_69 (by decide +kernel) (fun c_51 => ?_) (fun c_51 => ?_)
          ·
            have n_51 : gNe (z36.toInt) (0) := g5_ne (a := z36.toInt) (b := 0) rfl (by decide +kernel) c_51
            refine lv_iinc (v := (k_u + 1)) (lv' := [(1, .int (k_u + 1)), (3, .int 1), (2, .int z6), (0, .ref a_ha)]) hx hb dX0_search_105 hl (k := 2) rfl rfl (by decide +kernel) rfl ?_
            clear hl
            intro ls hl
            have t_52 : (k_u + 1).toInt = k_u.toInt + 1 := g5_iadd (a := k_u.toInt) (b := 1) rfl (by decide +kernel) (by omega) (by omega)
            refine lv_goto (tgt := 17) hx hb dX0_search_108 (by decide +kernel) ?_
            exact ih_17_3 ((k_u + 1), z38, z39, z40, z41, z42, z43, z44, z45, z46, z47, z48, z49, z37, k_f1, k_f2, k_f3) ls H locs (show Int.toNat (256 - (k_u + 1).toInt) < Int.toNat (256 - k_u.toInt) from g_up (show k_u.toInt < (k_u + 1).toInt by omega) (show k_u.toInt < 256 by omega)) ⟨lv_sub hl [0, 3] rfl, hP, hD, hS, ⟨by omega, by omega⟩, i_35⟩
          ·
            have i_51 : z36.toInt = 0 := g5_neN (a := z36.toInt) (b := 0) rfl (by decide +kernel) c_51
            refine lv_iload_n hx hb dX0_search_72 rfl (lv_at hl 1 rfl) ?_
            refine lv_aload_n hx hb dX0_search_73 rfl (lv_at hl 3 rfl) ?_
            refine va_get (D := G.1) (ci := 0) (v := .int k_f1) (C := RX0) (T := TX0) (N := 5) hx hb hts inG_X0 hown hK hP 16 rfl rfl 2 (by decide +kernel) (hts _ fl_X0_45) (fun _ h9 => h9) rfl dX0_search_74 ?_
            refine lv_icmp_eq (tgt := 95) hx hb dX0_search_77 (by decide +kernel) (fun c_53 => ?_) (fun c_53 => ?_)
            ·
              have i_53 : z6.toInt = k_f1.toInt := g5_eq (a := z6.toInt) (b := k_f1.toInt) rfl rfl c_53
              refine lv_aload_n hx hb dX0_search_95 rfl (lv_at hl 3 rfl) ?_
              refine lv_dup hx hb dX0_search_96 rfl ?_
              refine va_get (D := G.1) (ci := 0) (v := .int k_f2) (C := RX0) (T := TX0) (N := 5) hx hb hts inG_X0 hown hK hP 16 rfl rfl 3 (by decide +kernel) (hts _ fl_X0_48) (fun _ h9 => h9) rfl dX0_search_97 ?_
              refine lv_iconst (v := 1) hx hb dX0_search_100 (by decide +kernel) ?_
              refine W.eq (g2 := F0 m 101 ls [.int 1, .int k_f2, .ref a_ha]) rfl ?_
              refine lv_iadd hx hb dX0_search_101 ?_
              refine va_put (D := G.1) (ci := 0) (v := .int (k_f2 + 1)) (ty := .int) (C := RX0) (T := TX0) (N := 5) hx hb hts inG_X0 tyX0 tyX0_ok nmX0 hown hK hP hD hS 16 rfl rfl 3 (by decide +kernel) (hts _ fl_X0_48) (fun _ h9 => h9) rfl (by decide +kernel) rfl rfl (Nat.le_of_ble_eq_true rfl) dX0_search_102 ?_
              clear hP hD hS
              intro H locs hP hD hS
              refine g5_rs [(a_k, (oc5 a_h a_j a_pt z37 z38 z39 z40 z41 z42 z43 z44 z45 z46)), (a_h, (oc1 e_wa e_le e_st e_fo e_lc a_l a_g a_b a_s a_p a_w e_gb a_bb)), (a_g, (oc6 6 5 a_gn e_g)), (a_gn, (arI G 30 f_g)), (a_b, (oc6 5 24 a_bn e_b)), (a_bn, (arI G 120 f_b)), (a_p, (oc6 8 5 a_pn e_p)), (a_pn, (arI G 40 f_p)), (a_w, (oc6 6 6 a_wn e_w)), (a_wn, (arI G 36 f_w)), (a_bb, (arJ G 24 f_bb)), (a_j, (oc2 a_as a_sk)), (a_as, (arI G 8 z48)), (a_sk, (arJ G 50 z49)), (a_l, (arW G 6 f_l)), (a_pt, (arI G 200 z47)), (a_ha, (oc0 a_h a_k k_f1 (k_f2 + 1) k_f3))] hP hD ?_
              clear hP hD
              intro hP hD
              refine lv_iinc (v := (k_u + 1)) (lv' := [(1, .int (k_u + 1)), (3, .int 1), (2, .int z6), (0, .ref a_ha)]) hx hb dX0_search_105 hl (k := 2) rfl rfl (by decide +kernel) rfl ?_
              clear hl
              intro ls hl
              have t_54 : (k_u + 1).toInt = k_u.toInt + 1 := g5_iadd (a := k_u.toInt) (b := 1) rfl (by decide +kernel) (by omega) (by omega)
              refine lv_goto (tgt := 17) hx hb dX0_search_108 (by decide +kernel) ?_
              exact ih_17_3 ((k_u + 1), z38, z39, z40, z41, z42, z43, z44, z45, z46, z47, z48, z49, z37, k_f1, (k_f2 + 1), k_f3) ls H locs (show Int.toNat (256 - (k_u + 1).toInt) < Int.toNat (256 - k_u.toInt) from g_up (show k_u.toInt < (k_u + 1).toInt by omega) (show k_u.toInt < 256 by omega)) ⟨lv_sub hl [0, 3] rfl, hP, hD, hS, ⟨by omega, by omega⟩, i_35⟩
            ·
              have n_53 : gNe (z6.toInt) (k_f1.toInt) := g5_eqN (a := z6.toInt) (b := k_f1.toInt) rfl rfl c_53
              refine lv_aload_n hx hb dX0_search_80 rfl (lv_at hl 3 rfl) ?_
              refine lv_iload_n hx hb dX0_search_81 rfl (lv_at hl 1 rfl) ?_
              refine va_put (D := G.1) (ci := 0) (v := .int z6) (ty := .int) (C := RX0) (T := TX0) (N := 5) hx hb hts inG_X0 tyX0 tyX0_ok nmX0 hown hK hP hD hS 16 rfl rfl 2 (by decide +kernel) (hts _ fl_X0_45) (fun _ h9 => h9) rfl (by decide +kernel) rfl rfl (Nat.le_of_ble_eq_true rfl) dX0_search_82 ?_
              clear hP hD hS
              intro H locs hP hD hS
              refine g5_rs [(a_k, (oc5 a_h a_j a_pt z37 z38 z39 z40 z41 z42 z43 z44 z45 z46)), (a_h, (oc1 e_wa e_le e_st e_fo e_lc a_l a_g a_b a_s a_p a_w e_gb a_bb)), (a_g, (oc6 6 5 a_gn e_g)), (a_gn, (arI G 30 f_g)), (a_b, (oc6 5 24 a_bn e_b)), (a_bn, (arI G 120 f_b)), (a_p, (oc6 8 5 a_pn e_p)), (a_pn, (arI G 40 f_p)), (a_w, (oc6 6 6 a_wn e_w)), (a_wn, (arI G 36 f_w)), (a_bb, (arJ G 24 f_bb)), (a_j, (oc2 a_as a_sk)), (a_as, (arI G 8 z48)), (a_sk, (arJ G 50 z49)), (a_l, (arW G 6 f_l)), (a_pt, (arI G 200 z47)), (a_ha, (oc0 a_h a_k z6 k_f2 k_f3))] hP hD ?_
              clear hP hD
              intro hP hD
              refine lv_aload_n hx hb dX0_search_85 rfl (lv_at hl 3 rfl) ?_
              refine W.eq (g2 := F0 m 86 ls [.ref a_ha]) rfl ?_
              refine lv_iconst (v := 0) hx hb dX0_search_86 (by decide +kernel) ?_
              refine va_put (D := G.1) (ci := 0) (v := .int 0) (ty := .int) (C := RX0) (T := TX0) (N := 5) hx hb hts inG_X0 tyX0 tyX0_ok nmX0 hown hK hP hD hS 16 rfl rfl 3 (by decide +kernel) (hts _ fl_X0_48) (fun _ h9 => h9) rfl (by decide +kernel) rfl rfl (Nat.le_of_ble_eq_true rfl) dX0_search_87 ?_
              clear hP hD hS
              intro H locs hP hD hS
              refine g5_rs [(a_k, (oc5 a_h a_j a_pt z37 z38 z39 z40 z41 z42 z43 z44 z45 z46)), (a_h, (oc1 e_wa e_le e_st e_fo e_lc a_l a_g a_b a_s a_p a_w e_gb a_bb)), (a_g, (oc6 6 5 a_gn e_g)), (a_gn, (arI G 30 f_g)), (a_b, (oc6 5 24 a_bn e_b)), (a_bn, (arI G 120 f_b)), (a_p, (oc6 8 5 a_pn e_p)), (a_pn, (arI G 40 f_p)), (a_w, (oc6 6 6 a_wn e_w)), (a_wn, (arI G 36 f_w)), (a_bb, (arJ G 24 f_bb)), (a_j, (oc2 a_as a_sk)), (a_as, (arI G 8 z48)), (a_sk, (arJ G 50 z49)), (a_l, (arW G 6 f_l)), (a_pt, (arI G 200 z47)), (a_ha, (oc0 a_h a_k z6 0 k_f3))] hP hD ?_
              clear hP hD
              intro hP hD
              refine lv_aload_n hx hb dX0_search_90 rfl (lv_at hl 3 rfl) ?_
              refine lv_iload_n hx hb dX0_search_91 rfl (lv_at hl 2 rfl) ?_
              refine va_put (D := G.1) (ci := 0) (v := .int k_u) (ty := .int) (C := RX0) (T := TX0) (N := 5) hx hb hts inG_X0 tyX0 tyX0_ok nmX0 hown hK hP hD hS 16 rfl rfl 4 (by decide +kernel) (hts _ fl_X0_51) (fun _ h9 => h9) rfl (by decide +kernel) rfl rfl (Nat.le_of_ble_eq_true rfl) dX0_search_92 ?_
              clear hP hD hS
              intro H locs hP hD hS
              refine g5_rs [(a_k, (oc5 a_h a_j a_pt z37 z38 z39 z40 z41 z42 z43 z44 z45 z46)), (a_h, (oc1 e_wa e_le e_st e_fo e_lc a_l a_g a_b a_s a_p a_w e_gb a_bb)), (a_g, (oc6 6 5 a_gn e_g)), (a_gn, (arI G 30 f_g)), (a_b, (oc6 5 24 a_bn e_b)), (a_bn, (arI G 120 f_b)), (a_p, (oc6 8 5 a_pn e_p)), (a_pn, (arI G 40 f_p)), (a_w, (oc6 6 6 a_wn e_w)), (a_wn, (arI G 36 f_w)), (a_bb, (arJ G 24 f_bb)), (a_j, (oc2 a_as a_sk)), (a_as, (arI G 8 z48)), (a_sk, (arJ G 50 z49)), (a_l, (arW G 6 f_l)), (a_pt, (arI G 200 z47)), (a_ha, (oc0 a_h a_k z6 0 k_u))] hP hD ?_
              clear hP hD
              intro hP hD
              refine W.eq (g2 := F0 m 95 ls []) rfl ?_
              refine lv_aload_n hx hb dX0_search_95 rfl (lv_at hl 3 rfl) ?_
              refine lv_dup hx hb dX0_search_96 rfl ?_
              refine va_get (D := G.1) (ci := 0) (v := .int 0) (C := RX0) (T := TX0) (N := 5) hx hb hts inG_X0 hown hK hP 16 rfl rfl 3 (by decide +kernel) (hts _ fl_X0_48) (fun _ h9 => h9) rfl dX0_search_97 ?_
              refine lv_iconst (v := 1) hx hb dX0_search_100 (by decide +kernel) ?_
              refine lv_iadd hx hb dX0_search_101 ?_
              refine g5_ti (v := 1) (by decide +kernel) ?_
              refine W.eq (g2 := F0 m 102 ls [.int 1, .ref a_ha]) rfl ?_
              refine va_put (D := G.1) (ci := 0) (v := .int 1) (ty := .int) (C := RX0) (T := TX0) (N := 5) hx hb hts inG_X0 tyX0 tyX0_ok nmX0 hown hK hP hD hS 16 rfl rfl 3 (by decide +kernel) (hts _ fl_X0_48) (fun _ h9 => h9) rfl (by decide +kernel) rfl rfl (Nat.le_of_ble_eq_true rfl) dX0_search_102 ?_
              clear hP hD hS
              intro H locs hP hD hS
              refine g5_rs [(a_k, (oc5 a_h a_j a_pt z37 z38 z39 z40 z41 z42 z43 z44 z45 z46)), (a_h, (oc1 e_wa e_le e_st e_fo e_lc a_l a_g a_b a_s a_p a_w e_gb a_bb)), (a_g, (oc6 6 5 a_gn e_g)), (a_gn, (arI G 30 f_g)), (a_b, (oc6 5 24 a_bn e_b)), (a_bn, (arI G 120 f_b)), (a_p, (oc6 8 5 a_pn e_p)), (a_pn, (arI G 40 f_p)), (a_w, (oc6 6 6 a_wn e_w)), (a_wn, (arI G 36 f_w)), (a_bb, (arJ G 24 f_bb)), (a_j, (oc2 a_as a_sk)), (a_as, (arI G 8 z48)), (a_sk, (arJ G 50 z49)), (a_l, (arW G 6 f_l)), (a_pt, (arI G 200 z47)), (a_ha, (oc0 a_h a_k z6 1 k_u))] hP hD ?_
              clear hP hD
              intro hP hD
              refine lv_iinc (v := (k_u + 1)) (lv' := [(1, .int (k_u + 1)), (3, .int 1), (2, .int z6), (0, .ref a_ha)]) hx hb dX0_search_105 hl (k := 2) rfl rfl (by decide +kernel) rfl ?_
              clear hl
              intro ls hl
              have t_55 : (k_u + 1).toInt = k_u.toInt + 1 := g5_iadd (a := k_u.toInt) (b := 1) rfl (by decide +kernel) (by omega) (by omega)
              refine lv_goto (tgt := 17) hx hb dX0_search_108 (by decide +kernel) ?_
              exact ih_17_3 ((k_u + 1), z38, z39, z40, z41, z42, z43, z44, z45, z46, z47, z48, z49, z37, z6, 1, k_u) ls H locs (show Int.toNat (256 - (k_u + 1).toInt) < Int.toNat (256 - k_u.toInt) from g_up (show k_u.toInt < (k_u + 1).toInt by omega) (show k_u.toInt < 256 by omega)) ⟨lv_sub hl [0, 3] rfl, hP, hD, hS, ⟨by omega, by omega⟩, i_35⟩
set_option maxHeartbeats 4000000 in
set_option maxRecDepth 100000 in
theorem g_searchL (l : Launch) (G : g5_G) (a_k a_h a_g a_gn a_b a_bn a_p a_pn a_w a_wn a_bb a_j a_as a_sk a_l a_lo a_sr a_cd a_hd a_pt a_ha a_s : Nat) (sz : Nat) (e_le : Int32) (e_st : Int32) (e_fo : Int32) (e_lc : Int32) (e_g : Int32) (e_b : Int32) (e_p : Int32) (e_w : Int32) (e_cl : Int32) (e_ln : Int32) (e_se : Int32) (e_lh : Int32) (e_br : Int32) (e_we : Int32) (e_me : Int32) (e_ce : Int32) (e_wy : Int32) (e_ho : Int32) (e_ov : Int32) (e_f1 : Int32) (e_f2 : Int32) (e_f3 : Int32) (e_wa : Int64) (e_gb : Int64) (f_g : Nat → Int32) (f_b : Nat → Int32) (f_p : Nat → Int32) (f_w : Nat → Int32) (f_bb : Nat → Int64) (f_as : Nat → Int32) (f_sk : Nat → Int64) (f_l : Nat → Option Nat) (f_sr : Nat → Int32) (f_cd : Nat → Int32) (f_hd : Nat → Int32) (f_pt : Nat → Int32) (n_sr : Nat) (n_cd : Nat) (n_hd : Nat) (h_e_g : 0 ≤ e_g.toInt ∧ e_g.toInt ≤ 6) (h_e_b : 0 ≤ e_b.toInt ∧ e_b.toInt ≤ 5) (h_e_p : 0 ≤ e_p.toInt ∧ e_p.toInt ≤ 8) (h_e_w : 0 ≤ e_w.toInt ∧ e_w.toInt ≤ 6) (h_e_cl : 0 ≤ e_cl.toInt ∧ e_cl.toInt ≤ 12) (h_e_ov : 0 ≤ e_ov.toInt ∧ e_ov.toInt ≤ 1) (e_gk : gOK f_g e_g.toInt) (e_pk : gOK f_p e_p.toInt) (e_gi : inT e_gb f_g e_g.toInt) (e_f : 0 ≤ e_fo.toInt ∧ e_fo.toInt < e_lc.toInt ∧ e_lc.toInt ≤ 6) (e_a : f_l e_fo.toNatClampNeg = some a_lo) (e_hn : n_cd ≤ 400) (e_hs : ∀ j : Nat, j < n_sr → 0 ≤ (f_sr j).toInt ∧ (f_sr j).toInt ≤ (n_cd : Int)) (e_hk : ∀ j : Nat, j < n_cd → (f_cd j >>> (12 &&& 31)).toInt = 1 → (f_cd j &&& 4095).toInt < 8) (e_c : (e_cl.toInt : Int) ≤ (n_hd : Int) ∧ (e_cl.toInt + 1 : Int) ≤ (n_sr : Int)) : Met l yX0_search (wsG yX0_search cX0_search 4 none) ({ frames := 15, cells := 0, slots := 0, locals := 581 }) (va_Pc [.ref a_ha] (g5_P G [(a_k, (oc5 a_h a_j a_pt e_ln e_se e_lh e_br e_we e_me e_ce e_wy e_ho e_ov)), (a_h, (oc1 e_wa e_le e_st e_fo e_lc a_l a_g a_b a_s a_p a_w e_gb a_bb)), (a_g, (oc6 6 5 a_gn e_g)), (a_gn, (arI G 30 f_g)), (a_b, (oc6 5 24 a_bn e_b)), (a_bn, (arI G 120 f_b)), (a_p, (oc6 8 5 a_pn e_p)), (a_pn, (arI G 40 f_p)), (a_w, (oc6 6 6 a_wn e_w)), (a_wn, (arI G 36 f_w)), (a_bb, (arJ G 24 f_bb)), (a_j, (oc2 a_as a_sk)), (a_as, (arI G 8 f_as)), (a_sk, (arJ G 50 f_sk)), (a_l, (arW G 6 f_l)), (a_lo, (oc3 e_cl a_hd a_sr a_cd)), (a_sr, (arI G n_sr f_sr)), (a_cd, (arI G n_cd f_cd)), (a_hd, (arI G n_hd f_hd)), (a_pt, (arI G 200 f_pt)), (a_ha, (oc0 a_h a_k e_f1 e_f2 e_f3))] sz)) (va_Qv (fun (u : va_W) => (∃ (o_ln : Int32) (o_se : Int32) (o_lh : Int32) (o_br : Int32) (o_we : Int32) (o_me : Int32) (o_ce : Int32) (o_wy : Int32) (o_ho : Int32) (o_ov : Int32) (o_pt : Nat → Int32) (o_as : Nat → Int32) (o_sk : Nat → Int64) (o_f1 : Int32) (o_f2 : Int32) (o_f3 : Int32), (0 ≤ o_ov.toInt ∧ o_ov.toInt ≤ 1) ∧ (u = [(a_k, (oc5 a_h a_j a_pt o_ln o_se o_lh o_br o_we o_me o_ce o_wy o_ho o_ov)), (a_h, (oc1 e_wa e_le e_st e_fo e_lc a_l a_g a_b a_s a_p a_w e_gb a_bb)), (a_g, (oc6 6 5 a_gn e_g)), (a_gn, (arI G 30 f_g)), (a_b, (oc6 5 24 a_bn e_b)), (a_bn, (arI G 120 f_b)), (a_p, (oc6 8 5 a_pn e_p)), (a_pn, (arI G 40 f_p)), (a_w, (oc6 6 6 a_wn e_w)), (a_wn, (arI G 36 f_w)), (a_bb, (arJ G 24 f_bb)), (a_j, (oc2 a_as a_sk)), (a_as, (arI G 8 o_as)), (a_sk, (arJ G 50 o_sk)), (a_l, (arW G 6 f_l)), (a_lo, (oc3 e_cl a_hd a_sr a_cd)), (a_sr, (arI G n_sr f_sr)), (a_cd, (arI G n_cd f_cd)), (a_hd, (arI G n_hd f_hd)), (a_pt, (arI G 200 o_pt)), (a_ha, (oc0 a_h a_k o_f1 o_f2 o_f3))]))) (g5_B G (va_A [(a_k, (oc5 a_h a_j a_pt e_ln e_se e_lh e_br e_we e_me e_ce e_wy e_ho e_ov)), (a_h, (oc1 e_wa e_le e_st e_fo e_lc a_l a_g a_b a_s a_p a_w e_gb a_bb)), (a_g, (oc6 6 5 a_gn e_g)), (a_gn, (arI G 30 f_g)), (a_b, (oc6 5 24 a_bn e_b)), (a_bn, (arI G 120 f_b)), (a_p, (oc6 8 5 a_pn e_p)), (a_pn, (arI G 40 f_p)), (a_w, (oc6 6 6 a_wn e_w)), (a_wn, (arI G 36 f_w)), (a_bb, (arJ G 24 f_bb)), (a_j, (oc2 a_as a_sk)), (a_as, (arI G 8 f_as)), (a_sk, (arJ G 50 f_sk)), (a_l, (arW G 6 f_l)), (a_lo, (oc3 e_cl a_hd a_sr a_cd)), (a_sr, (arI G n_sr f_sr)), (a_cd, (arI G n_cd f_cd)), (a_hd, (arI G n_hd f_hd)), (a_pt, (arI G 200 f_pt)), (a_ha, (oc0 a_h a_k e_f1 e_f2 e_f3))] sz)) (va_A [(a_k, (oc5 a_h a_j a_pt e_ln e_se e_lh e_br e_we e_me e_ce e_wy e_ho e_ov)), (a_h, (oc1 e_wa e_le e_st e_fo e_lc a_l a_g a_b a_s a_p a_w e_gb a_bb)), (a_g, (oc6 6 5 a_gn e_g)), (a_gn, (arI G 30 f_g)), (a_b, (oc6 5 24 a_bn e_b)), (a_bn, (arI G 120 f_b)), (a_p, (oc6 8 5 a_pn e_p)), (a_pn, (arI G 40 f_p)), (a_w, (oc6 6 6 a_wn e_w)), (a_wn, (arI G 36 f_w)), (a_bb, (arJ G 24 f_bb)), (a_j, (oc2 a_as a_sk)), (a_as, (arI G 8 f_as)), (a_sk, (arJ G 50 f_sk)), (a_l, (arW G 6 f_l)), (a_lo, (oc3 e_cl a_hd a_sr a_cd)), (a_sr, (arI G n_sr f_sr)), (a_cd, (arI G n_cd f_cd)), (a_hd, (arI G n_hd f_hd)), (a_pt, (arI G 200 f_pt)), (a_ha, (oc0 a_h a_k e_f1 e_f2 e_f3))] sz)) 0 0 (va_A [(a_k, (oc5 a_h a_j a_pt e_ln e_se e_lh e_br e_we e_me e_ce e_wy e_ho e_ov)), (a_h, (oc1 e_wa e_le e_st e_fo e_lc a_l a_g a_b a_s a_p a_w e_gb a_bb)), (a_g, (oc6 6 5 a_gn e_g)), (a_gn, (arI G 30 f_g)), (a_b, (oc6 5 24 a_bn e_b)), (a_bn, (arI G 120 f_b)), (a_p, (oc6 8 5 a_pn e_p)), (a_pn, (arI G 40 f_p)), (a_w, (oc6 6 6 a_wn e_w)), (a_wn, (arI G 36 f_w)), (a_bb, (arJ G 24 f_bb)), (a_j, (oc2 a_as a_sk)), (a_as, (arI G 8 f_as)), (a_sk, (arJ G 50 f_sk)), (a_l, (arW G 6 f_l)), (a_lo, (oc3 e_cl a_hd a_sr a_cd)), (a_sr, (arI G n_sr f_sr)), (a_cd, (arI G n_cd f_cd)), (a_hd, (arI G n_hd f_hd)), (a_pt, (arI G 200 f_pt)), (a_ha, (oc0 a_h a_k e_f1 e_f2 e_f3))] sz) := by
  refine Met.ofW (cc := cX0_search) (maxL := 4) (ret := none) (by decide +kernel) rfl ?_
  intro p e s m args below meth c s₁ B hml hv
  obtain ⟨rfl, hsz, hP, hK, hD0, hN, hT⟩ := hv
  have hx := B.exec
  have hb := B.bytes
  have hr := B.returns
  have hts : ∀ w ∈ tblG, w.before _ s = true := fun w h => atoms_spec (ws := (wsG yX0_search cX0_search 4 none)) B.pre w (List.mem_cons_of_mem _ h)
  have hown : s.vm.findClass RX0 = some m.cls := findClass_of_methodNamed B.named
  have hlocks := B.notSynchronized
  subst hsz
  have hD := hD0.self (sz := s.heap.size)
  generalize hAe : va_A [(a_k, (oc5 a_h a_j a_pt e_ln e_se e_lh e_br e_we e_me e_ce e_wy e_ho e_ov)), (a_h, (oc1 e_wa e_le e_st e_fo e_lc a_l a_g a_b a_s a_p a_w e_gb a_bb)), (a_g, (oc6 6 5 a_gn e_g)), (a_gn, (arI G 30 f_g)), (a_b, (oc6 5 24 a_bn e_b)), (a_bn, (arI G 120 f_b)), (a_p, (oc6 8 5 a_pn e_p)), (a_pn, (arI G 40 f_p)), (a_w, (oc6 6 6 a_wn e_w)), (a_wn, (arI G 36 f_w)), (a_bb, (arJ G 24 f_bb)), (a_j, (oc2 a_as a_sk)), (a_as, (arI G 8 f_as)), (a_sk, (arJ G 50 f_sk)), (a_l, (arW G 6 f_l)), (a_lo, (oc3 e_cl a_hd a_sr a_cd)), (a_sr, (arI G n_sr f_sr)), (a_cd, (arI G n_cd f_cd)), (a_hd, (arI G n_hd f_hd)), (a_pt, (arI G 200 f_pt)), (a_ha, (oc0 a_h a_k e_f1 e_f2 e_f3))] s.heap.size = A at hD hT ⊢
  have hA : ∀ q : Nat, s.heap.size ≤ q → A q := fun q h => by rw [← hAe]; exact Or.inr h
  have hS : va_S A s.heap s.heap [] := va_S.rf
  replace hP : va_P G.1 vwCl [(a_k, (oc5 a_h a_j a_pt e_ln e_se e_lh e_br e_we e_me e_ce e_wy e_ho e_ov)), (a_h, (oc1 e_wa e_le e_st e_fo e_lc a_l a_g a_b a_s a_p a_w e_gb a_bb)), (a_g, (oc6 6 5 a_gn e_g)), (a_gn, (arI G 30 f_g)), (a_b, (oc6 5 24 a_bn e_b)), (a_bn, (arI G 120 f_b)), (a_p, (oc6 8 5 a_pn e_p)), (a_pn, (arI G 40 f_p)), (a_w, (oc6 6 6 a_wn e_w)), (a_wn, (arI G 36 f_w)), (a_bb, (arJ G 24 f_bb)), (a_j, (oc2 a_as a_sk)), (a_as, (arI G 8 f_as)), (a_sk, (arJ G 50 f_sk)), (a_l, (arW G 6 f_l)), (a_lo, (oc3 e_cl a_hd a_sr a_cd)), (a_sr, (arI G n_sr f_sr)), (a_cd, (arI G n_cd f_cd)), (a_hd, (arI G n_hd f_hd)), (a_pt, (arI G 200 f_pt)), (a_ha, (oc0 a_h a_k e_f1 e_f2 e_f3))] s.heap := hP
  have hl := lv_entry ([.ref a_ha]) (n := 4) (Nat.le_of_ble_eq_true rfl)
  rw [lg_entry_eq]
  generalize (lg_sl ([.ref a_ha]) ++ List.replicate (4 - (lg_sl ([.ref a_ha])).length) Slot.unset).toArray = ls at hl ⊢
  replace hl : lv_has ls 4 [(0, .ref a_ha)] := hl
  refine lv_aload_n hx hb dX0_search_0 rfl (lv_at hl 0 rfl) ?_
  refine lv_iconst (v := (-1)) hx hb dX0_search_1 (by decide +kernel) ?_
  refine va_put (D := G.1) (ci := 0) (v := .int (-1)) (ty := .int) (C := RX0) (T := TX0) (N := 5) hx hb hts inG_X0 tyX0 tyX0_ok nmX0 hown hK hP hD hS 20 rfl rfl 2 (by decide +kernel) (hts _ fl_X0_45) (fun _ h9 => h9) rfl (by decide +kernel) rfl rfl (Nat.le_of_ble_eq_true rfl) dX0_search_2 ?_
  clear hP hD hS
  intro H locs hP hD hS
  refine g5_rs [(a_k, (oc5 a_h a_j a_pt e_ln e_se e_lh e_br e_we e_me e_ce e_wy e_ho e_ov)), (a_h, (oc1 e_wa e_le e_st e_fo e_lc a_l a_g a_b a_s a_p a_w e_gb a_bb)), (a_g, (oc6 6 5 a_gn e_g)), (a_gn, (arI G 30 f_g)), (a_b, (oc6 5 24 a_bn e_b)), (a_bn, (arI G 120 f_b)), (a_p, (oc6 8 5 a_pn e_p)), (a_pn, (arI G 40 f_p)), (a_w, (oc6 6 6 a_wn e_w)), (a_wn, (arI G 36 f_w)), (a_bb, (arJ G 24 f_bb)), (a_j, (oc2 a_as a_sk)), (a_as, (arI G 8 f_as)), (a_sk, (arJ G 50 f_sk)), (a_l, (arW G 6 f_l)), (a_lo, (oc3 e_cl a_hd a_sr a_cd)), (a_sr, (arI G n_sr f_sr)), (a_cd, (arI G n_cd f_cd)), (a_hd, (arI G n_hd f_hd)), (a_pt, (arI G 200 f_pt)), (a_ha, (oc0 a_h a_k (-1) e_f2 e_f3))] hP hD ?_
  clear hP hD
  intro hP hD
  refine lv_aload_n hx hb dX0_search_5 rfl (lv_at hl 0 rfl) ?_
  refine W.eq (g2 := F0 m 6 ls [.ref a_ha]) rfl ?_
  refine lv_iconst (v := 0) hx hb dX0_search_6 (by decide +kernel) ?_
  refine va_put (D := G.1) (ci := 0) (v := .int 0) (ty := .int) (C := RX0) (T := TX0) (N := 5) hx hb hts inG_X0 tyX0 tyX0_ok nmX0 hown hK hP hD hS 20 rfl rfl 3 (by decide +kernel) (hts _ fl_X0_48) (fun _ h9 => h9) rfl (by decide +kernel) rfl rfl (Nat.le_of_ble_eq_true rfl) dX0_search_7 ?_
  clear hP hD hS
  intro H locs hP hD hS
  refine g5_rs [(a_k, (oc5 a_h a_j a_pt e_ln e_se e_lh e_br e_we e_me e_ce e_wy e_ho e_ov)), (a_h, (oc1 e_wa e_le e_st e_fo e_lc a_l a_g a_b a_s a_p a_w e_gb a_bb)), (a_g, (oc6 6 5 a_gn e_g)), (a_gn, (arI G 30 f_g)), (a_b, (oc6 5 24 a_bn e_b)), (a_bn, (arI G 120 f_b)), (a_p, (oc6 8 5 a_pn e_p)), (a_pn, (arI G 40 f_p)), (a_w, (oc6 6 6 a_wn e_w)), (a_wn, (arI G 36 f_w)), (a_bb, (arJ G 24 f_bb)), (a_j, (oc2 a_as a_sk)), (a_as, (arI G 8 f_as)), (a_sk, (arJ G 50 f_sk)), (a_l, (arW G 6 f_l)), (a_lo, (oc3 e_cl a_hd a_sr a_cd)), (a_sr, (arI G n_sr f_sr)), (a_cd, (arI G n_cd f_cd)), (a_hd, (arI G n_hd f_hd)), (a_pt, (arI G 200 f_pt)), (a_ha, (oc0 a_h a_k (-1) 0 e_f3))] hP hD ?_
  clear hP hD
  intro hP hD
  refine lv_aload_n hx hb dX0_search_10 rfl (lv_at hl 0 rfl) ?_
  refine lv_iconst (v := (-1)) hx hb dX0_search_11 (by decide +kernel) ?_
  refine va_put (D := G.1) (ci := 0) (v := .int (-1)) (ty := .int) (C := RX0) (T := TX0) (N := 5) hx hb hts inG_X0 tyX0 tyX0_ok nmX0 hown hK hP hD hS 20 rfl rfl 4 (by decide +kernel) (hts _ fl_X0_51) (fun _ h9 => h9) rfl (by decide +kernel) rfl rfl (Nat.le_of_ble_eq_true rfl) dX0_search_12 ?_
  clear hP hD hS
  intro H locs hP hD hS
  refine g5_rs [(a_k, (oc5 a_h a_j a_pt e_ln e_se e_lh e_br e_we e_me e_ce e_wy e_ho e_ov)), (a_h, (oc1 e_wa e_le e_st e_fo e_lc a_l a_g a_b a_s a_p a_w e_gb a_bb)), (a_g, (oc6 6 5 a_gn e_g)), (a_gn, (arI G 30 f_g)), (a_b, (oc6 5 24 a_bn e_b)), (a_bn, (arI G 120 f_b)), (a_p, (oc6 8 5 a_pn e_p)), (a_pn, (arI G 40 f_p)), (a_w, (oc6 6 6 a_wn e_w)), (a_wn, (arI G 36 f_w)), (a_bb, (arJ G 24 f_bb)), (a_j, (oc2 a_as a_sk)), (a_as, (arI G 8 f_as)), (a_sk, (arJ G 50 f_sk)), (a_l, (arW G 6 f_l)), (a_lo, (oc3 e_cl a_hd a_sr a_cd)), (a_sr, (arI G n_sr f_sr)), (a_cd, (arI G n_cd f_cd)), (a_hd, (arI G n_hd f_hd)), (a_pt, (arI G 200 f_pt)), (a_ha, (oc0 a_h a_k (-1) 0 (-1)))] hP hD ?_
  clear hP hD
  intro hP hD
  refine W.eq (g2 := F0 m 15 ls []) rfl ?_
  refine lv_iconst (v := 0) hx hb dX0_search_15 (by decide +kernel) ?_
  refine lv_istore_n (lv' := [(1, .int 0), (0, .ref a_ha)]) hx hb dX0_search_16 rfl hl (by decide +kernel) rfl ?_
  clear hl
  intro ls hl
  refine g5_loop (α := (Int32) × (Int32) × (Int32) × (Int32) × (Int32) × (Int32) × (Int32) × (Int32) × (Int32) × (Int32) × (Nat → Int32) × (Nat → Int32) × (Nat → Int64) × (Int32) × (Int32) × (Int32) × (Int32)) (fun (q : (Int32) × (Int32) × (Int32) × (Int32) × (Int32) × (Int32) × (Int32) × (Int32) × (Int32) × (Int32) × (Nat → Int32) × (Nat → Int32) × (Nat → Int64) × (Int32) × (Int32) × (Int32) × (Int32)) (ls : Array Slot) (H : Heap) (locs : List Loc) => match q with | (k_u, k_se, k_lh, k_br, k_we, k_me, k_ce, k_wy, k_ho, k_ov, k_pt, k_as, k_sk, k_ln, k_f1, k_f2, k_f3) => lv_has ls 4 [(1, .int k_u), (0, .ref a_ha)] ∧ va_P G.1 vwCl [(a_k, (oc5 a_h a_j a_pt k_ln k_se k_lh k_br k_we k_me k_ce k_wy k_ho k_ov)), (a_h, (oc1 e_wa e_le e_st e_fo e_lc a_l a_g a_b a_s a_p a_w e_gb a_bb)), (a_g, (oc6 6 5 a_gn e_g)), (a_gn, (arI G 30 f_g)), (a_b, (oc6 5 24 a_bn e_b)), (a_bn, (arI G 120 f_b)), (a_p, (oc6 8 5 a_pn e_p)), (a_pn, (arI G 40 f_p)), (a_w, (oc6 6 6 a_wn e_w)), (a_wn, (arI G 36 f_w)), (a_bb, (arJ G 24 f_bb)), (a_j, (oc2 a_as a_sk)), (a_as, (arI G 8 k_as)), (a_sk, (arJ G 50 k_sk)), (a_l, (arW G 6 f_l)), (a_lo, (oc3 e_cl a_hd a_sr a_cd)), (a_sr, (arI G n_sr f_sr)), (a_cd, (arI G n_cd f_cd)), (a_hd, (arI G n_hd f_hd)), (a_pt, (arI G 200 k_pt)), (a_ha, (oc0 a_h a_k k_f1 k_f2 k_f3))] H ∧ va_D A [(a_k, (oc5 a_h a_j a_pt k_ln k_se k_lh k_br k_we k_me k_ce k_wy k_ho k_ov)), (a_h, (oc1 e_wa e_le e_st e_fo e_lc a_l a_g a_b a_s a_p a_w e_gb a_bb)), (a_g, (oc6 6 5 a_gn e_g)), (a_gn, (arI G 30 f_g)), (a_b, (oc6 5 24 a_bn e_b)), (a_bn, (arI G 120 f_b)), (a_p, (oc6 8 5 a_pn e_p)), (a_pn, (arI G 40 f_p)), (a_w, (oc6 6 6 a_wn e_w)), (a_wn, (arI G 36 f_w)), (a_bb, (arJ G 24 f_bb)), (a_j, (oc2 a_as a_sk)), (a_as, (arI G 8 k_as)), (a_sk, (arJ G 50 k_sk)), (a_l, (arW G 6 f_l)), (a_lo, (oc3 e_cl a_hd a_sr a_cd)), (a_sr, (arI G n_sr f_sr)), (a_cd, (arI G n_cd f_cd)), (a_hd, (arI G n_hd f_hd)), (a_pt, (arI G 200 k_pt)), (a_ha, (oc0 a_h a_k k_f1 k_f2 k_f3))] ∧ va_S A s.heap H locs ∧ (0 ≤ k_u.toInt ∧ k_u.toInt ≤ 256) ∧ (0 ≤ k_ov.toInt ∧ k_ov.toInt ≤ 1)) (fun (q : (Int32) × (Int32) × (Int32) × (Int32) × (Int32) × (Int32) × (Int32) × (Int32) × (Int32) × (Int32) × (Nat → Int32) × (Nat → Int32) × (Nat → Int64) × (Int32) × (Int32) × (Int32) × (Int32)) => match q with | (k_u, k_se, k_lh, k_br, k_we, k_me, k_ce, k_wy, k_ho, k_ov, k_pt, k_as, k_sk, k_ln, k_f1, k_f2, k_f3) => Int.toNat (256 - k_u.toInt)) (0, e_se, e_lh, e_br, e_we, e_me, e_ce, e_wy, e_ho, e_ov, f_pt, f_as, f_sk, e_ln, (-1), 0, (-1)) ⟨lv_sub hl [0, 1] rfl, hP, hD, hS, ⟨by decide, by decide⟩, h_e_ov⟩ ?_
  rintro ⟨k_u, k_se, k_lh, k_br, k_we, k_me, k_ce, k_wy, k_ho, k_ov, k_pt, k_as, k_sk, k_ln, k_f1, k_f2, k_f3⟩ ls H locs ⟨hl, hP, hD, hS, (i_1 : 0 ≤ k_u.toInt ∧ k_u.toInt ≤ 256), (i_2 : 0 ≤ k_ov.toInt ∧ k_ov.toInt ≤ 1)⟩ ih_17_3
  replace hl : lv_has ls 4 [(1, .int k_u), (0, .ref a_ha)] := hl
  refine g5_rs [(a_k, (oc5 a_h a_j a_pt k_ln k_se k_lh k_br k_we k_me k_ce k_wy k_ho k_ov)), (a_h, (oc1 e_wa e_le e_st e_fo e_lc a_l a_g a_b a_s a_p a_w e_gb a_bb)), (a_g, (oc6 6 5 a_gn e_g)), (a_gn, (arI G 30 f_g)), (a_b, (oc6 5 24 a_bn e_b)), (a_bn, (arI G 120 f_b)), (a_p, (oc6 8 5 a_pn e_p)), (a_pn, (arI G 40 f_p)), (a_w, (oc6 6 6 a_wn e_w)), (a_wn, (arI G 36 f_w)), (a_bb, (arJ G 24 f_bb)), (a_j, (oc2 a_as a_sk)), (a_as, (arI G 8 k_as)), (a_sk, (arJ G 50 k_sk)), (a_l, (arW G 6 f_l)), (a_lo, (oc3 e_cl a_hd a_sr a_cd)), (a_sr, (arI G n_sr f_sr)), (a_cd, (arI G n_cd f_cd)), (a_hd, (arI G n_hd f_hd)), (a_pt, (arI G 200 k_pt)), (a_ha, (oc0 a_h a_k k_f1 k_f2 k_f3))] hP hD ?_
  clear hP hD
  intro hP hD
  refine lv_iload_n hx hb dX0_search_17 rfl (lv_at hl 0 rfl) ?_
  refine lv_iconst (v := 1) hx hb dX0_search_18 (by decide +kernel) ?_
  refine lv_aload_n hx hb dX0_search_19 rfl (lv_at hl 1 rfl) ?_
  refine va_get (D := G.1) (ci := 0) (v := .ref a_h) (C := RX0) (T := TX0) (N := 5) hx hb hts inG_X0 hown hK hP 20 rfl rfl 0 (by decide +kernel) (hts _ fl_X0_9) (fun _ h9 => h9) rfl dX0_search_20 ?_
  refine W.eq (g2 := F0 m 23 ls [.ref a_h, .int 1, .int k_u]) rfl ?_
  refine va_get (D := G.1) (ci := 1) (v := .ref a_p) (C := RX1) (T := TX1) (N := 13) hx hb hts inG_X1 hown hK hP 1 rfl rfl 9 (by decide +kernel) (hts _ fl_X0_54) (fun _ h9 => h9) rfl dX0_search_23 ?_
  refine va_get (D := G.1) (ci := 6) (v := .int e_p) (C := RX6) (T := TX6) (N := 4) hx hb hts inG_X6 hown hK hP 6 rfl rfl 3 (by decide +kernel) (hts _ fl_X0_25) (fun _ h9 => h9) rfl dX0_search_26 ?_
  refine lv_ishl hx hb dX0_search_29 ?_
  have hs_4 := g_shl8 (e := e_p) (by omega) (by omega)
  refine lv_icmp_ge (tgt := 111) hx hb dX0_search_30 (by decide +kernel) (fun c_5 => ?_) (fun c_5 => ?_)
  ·
    have i_5 : k_u.toInt ≥ (1 <<< (e_p &&& 31)).toInt := g5_ge (a := k_u.toInt) (b := (1 <<< (e_p &&& 31)).toInt) rfl rfl c_5
    exact W.vret hx hb hr (fun t ht hW => ⟨⟨[(a_k, (oc5 a_h a_j a_pt k_ln k_se k_lh k_br k_we k_me k_ce k_wy k_ho k_ov)), (a_h, (oc1 e_wa e_le e_st e_fo e_lc a_l a_g a_b a_s a_p a_w e_gb a_bb)), (a_g, (oc6 6 5 a_gn e_g)), (a_gn, (arI G 30 f_g)), (a_b, (oc6 5 24 a_bn e_b)), (a_bn, (arI G 120 f_b)), (a_p, (oc6 8 5 a_pn e_p)), (a_pn, (arI G 40 f_p)), (a_w, (oc6 6 6 a_wn e_w)), (a_wn, (arI G 36 f_w)), (a_bb, (arJ G 24 f_bb)), (a_j, (oc2 a_as a_sk)), (a_as, (arI G 8 k_as)), (a_sk, (arJ G 50 k_sk)), (a_l, (arW G 6 f_l)), (a_lo, (oc3 e_cl a_hd a_sr a_cd)), (a_sr, (arI G n_sr f_sr)), (a_cd, (arI G n_cd f_cd)), (a_hd, (arI G n_hd f_hd)), (a_pt, (arI G 200 k_pt)), (a_ha, (oc0 a_h a_k k_f1 k_f2 k_f3))], rfl, ⟨k_ln, k_se, k_lh, k_br, k_we, k_me, k_ce, k_wy, k_ho, k_ov, k_pt, k_as, k_sk, k_f1, k_f2, k_f3, i_2, rfl⟩, by rw [ht]; exact hP.sub [0, 1, 2, 3, 4, 5, 6, 7, 8, 9, 10, 11, 12, 13, 14, 15, 16, 17, 18, 19, 20] rfl, hD.sub [0, 1, 2, 3, 4, 5, 6, 7, 8, 9, 10, 11, 12, 13, 14, 15, 16, 17, 18, 19, 20] (by decide +kernel) rfl⟩, hS.F ht⟩) hS.2.2 dX0_search_111
  ·
    have i_5 : k_u.toInt < (1 <<< (e_p &&& 31)).toInt := g5_geN (a := k_u.toInt) (b := (1 <<< (e_p &&& 31)).toInt) rfl rfl c_5
    refine lv_iload_n hx hb dX0_search_33 rfl (lv_at hl 0 rfl) ?_
    obtain ⟨hPc, hDc, hFc⟩ := g5_sub3 (wc := []) hP hD hS hA [] (by decide +kernel) rfl
    refine va_calli (va_runS (As := [.int k_u]) (rest := []) ⟨hx, hb, hml, hown, hts⟩ (j_bitCountI l G H.size k_u) (va_cwS 1 hts gS_X0_57 rfl rfl rfl hs_J6_bitCount_0f7a4 ⟨Nat.le_of_ble_eq_true rfl, Nat.le_of_ble_eq_true rfl⟩) (g5_preS hPc hK hDc hN hT hS hFc) rfl rfl hl.1 rfl (lv_room (Nat.le_of_ble_eq_true rfl)) dX0_search_34 ⟨Nat.le_of_ble_eq_true rfl, Nat.le_of_ble_eq_true rfl⟩) hS (fun q _ h => hFc q h) hFc (fun r u t H locs ht hvm hw hB hz1 hk1 hS => ?_)
    obtain ⟨hP1, hD1⟩ := hB
    have hP1 := g5_ht ht hP1
    obtain ⟨z6, y7, rfl⟩ := hw
    have hJ9 := g5_same hP hk1
    clear hP hPc hDc hFc ht hvm hz1 hk1 hP1 hD1
    have hP := hJ9
    clear hJ9
    refine g5_ti (v := z6) y7 ?_
    refine lv_istore_n (lv' := [(2, .int z6), (1, .int k_u), (0, .ref a_ha)]) hx hb dX0_search_37 rfl hl (by decide +kernel) rfl ?_
    clear hl
    intro ls hl
    refine lv_aload_n hx hb dX0_search_38 rfl (lv_at hl 2 rfl) ?_
    refine W.eq (g2 := F0 m 39 ls [.ref a_ha]) rfl ?_
    refine va_get (D := G.1) (ci := 0) (v := .int k_f1) (C := RX0) (T := TX0) (N := 5) hx hb hts inG_X0 hown hK hP 20 rfl rfl 2 (by decide +kernel) (hts _ fl_X0_45) (fun _ h9 => h9) rfl dX0_search_39 ?_
    refine lv_iconst (v := (-1)) hx hb dX0_search_42 (by decide +kernel) ?_
    refine lv_icmp_eq (tgt := 54) hx hb dX0_search_43 (by decide +kernel) (fun c_8 => ?_) (fun c_8 => ?_)
    ·
      have i_8 : k_f1.toInt = (-1) := g5_eq (a := k_f1.toInt) (b := (-1)) rfl (by decide +kernel) c_8
      refine lv_iconst (v := 1) hx hb dX0_search_54 (by decide +kernel) ?_
      refine lv_goto (tgt := 59) hx hb dX0_search_55 (by decide +kernel) ?_
      refine lv_istore_n (lv' := [(3, .int 1), (2, .int z6), (1, .int k_u), (0, .ref a_ha)]) hx hb dX0_search_59 rfl hl (by decide +kernel) rfl ?_
      clear hl
      intro ls hl
      refine lv_iload_n hx hb dX0_search_60 rfl (lv_at hl 0 rfl) ?_
      refine W.eq (g2 := F0 m 61 ls [.int 1]) rfl ?_
      refine lv_if_eq (tgt := 105) hx hb dX0_search_61 (by decide +kernel) (fun c_9 => ?_) (fun c_9 => ?_)
      ·
        exact absurd c_9 (by decide +kernel)
      ·
        refine lv_aload_n hx hb dX0_search_64 rfl (lv_at hl 3 rfl) ?_
        refine lv_iload_n hx hb dX0_search_65 rfl (lv_at hl 2 rfl) ?_
        obtain ⟨hPc, hDc, hFc⟩ := g5_sub3 (wc := [(a_k, (oc5 a_h a_j a_pt k_ln k_se k_lh k_br k_we k_me k_ce k_wy k_ho k_ov)), (a_h, (oc1 e_wa e_le e_st e_fo e_lc a_l a_g a_b a_s a_p a_w e_gb a_bb)), (a_g, (oc6 6 5 a_gn e_g)), (a_gn, (arI G 30 f_g)), (a_b, (oc6 5 24 a_bn e_b)), (a_bn, (arI G 120 f_b)), (a_p, (oc6 8 5 a_pn e_p)), (a_pn, (arI G 40 f_p)), (a_w, (oc6 6 6 a_wn e_w)), (a_wn, (arI G 36 f_w)), (a_bb, (arJ G 24 f_bb)), (a_j, (oc2 a_as a_sk)), (a_as, (arI G 8 k_as)), (a_sk, (arJ G 50 k_sk)), (a_l, (arW G 6 f_l)), (a_lo, (oc3 e_cl a_hd a_sr a_cd)), (a_sr, (arI G n_sr f_sr)), (a_cd, (arI G n_cd f_cd)), (a_hd, (arI G n_hd f_hd)), (a_pt, (arI G 200 k_pt)), (a_ha, (oc0 a_h a_k k_f1 k_f2 k_f3))]) hP hD hS hA [0, 1, 2, 3, 4, 5, 6, 7, 8, 9, 10, 11, 12, 13, 14, 15, 16, 17, 18, 19, 20] (by decide +kernel) rfl
        refine va_calli (va_runV (As := [.int k_u]) (rest := []) ⟨hx, hb, hml, hown, hts⟩ (g_lackingL l G a_k a_h a_g a_gn a_b a_bn a_p a_pn a_w a_wn a_bb a_j a_as a_sk a_l a_lo a_sr a_cd a_hd a_pt a_ha a_s H.size e_le e_st e_fo e_lc e_g e_b e_p e_w e_cl k_ln k_se k_lh k_br k_we k_me k_ce k_wy k_ho k_ov k_f1 k_f2 k_f3 k_u e_wa e_gb f_g f_b f_p f_w f_bb k_as k_sk f_l f_sr f_cd f_hd k_pt n_sr n_cd n_hd h_e_g h_e_b h_e_p h_e_w h_e_cl i_2 (e_gk) (e_pk) (e_gi) (e_f) (e_a) (e_hn) (e_hs) (e_hk) (e_c)) (cwV 1 hts gV_X0_63 rfl rfl rfl hv_X0_lacking ⟨Nat.le_of_ble_eq_true rfl, Nat.le_of_ble_eq_true rfl⟩) (g5_preV hPc hK hDc hN hT hS hFc (ci := 0) (q0 := 20) rfl rfl) rfl rfl hl.1 rfl (lv_room (Nat.le_of_ble_eq_true rfl)) dX0_search_66 ⟨Nat.le_of_ble_eq_true rfl, Nat.le_of_ble_eq_true rfl⟩) hS (fun q _ h => hFc q h) hFc (fun r u t H locs ht hvm hw hB hz1 hk1 hS => ?_)
        obtain ⟨hP1, hD1⟩ := hB
        have hP1 := g5_ht ht hP1
        obtain ⟨z11, z12, z13, z14, z15, z16, z17, z18, z19, z20, z21, z22, z23, z24, (i_10 : 0 ≤ z21.toInt ∧ z21.toInt ≤ 1), y25, rfl⟩ := hw
        have hJ9 := va_join (wr := []) hP hD [0, 1, 2, 3, 4, 5, 6, 7, 8, 9, 10, 11, 12, 13, 14, 15, 16, 17, 18, 19, 20] [] rfl rfl (by decide +kernel) (by decide +kernel) hk1 hFc hP1 hD1
        clear hP hD hPc hDc hFc ht hvm hz1 hk1 hP1 hD1
        obtain ⟨hP, hD⟩ := hJ9
        refine g5_rs [(a_k, (oc5 a_h a_j a_pt z12 z13 z14 z15 z16 z17 z18 z19 z20 z21)), (a_h, (oc1 e_wa e_le e_st e_fo e_lc a_l a_g a_b a_s a_p a_w e_gb a_bb)), (a_g, (oc6 6 5 a_gn e_g)), (a_gn, (arI G 30 f_g)), (a_b, (oc6 5 24 a_bn e_b)), (a_bn, (arI G 120 f_b)), (a_p, (oc6 8 5 a_pn e_p)), (a_pn, (arI G 40 f_p)), (a_w, (oc6 6 6 a_wn e_w)), (a_wn, (arI G 36 f_w)), (a_bb, (arJ G 24 f_bb)), (a_j, (oc2 a_as a_sk)), (a_as, (arI G 8 z23)), (a_sk, (arJ G 50 z24)), (a_l, (arW G 6 f_l)), (a_lo, (oc3 e_cl a_hd a_sr a_cd)), (a_sr, (arI G n_sr f_sr)), (a_cd, (arI G n_cd f_cd)), (a_hd, (arI G n_hd f_hd)), (a_pt, (arI G 200 z22)), (a_ha, (oc0 a_h a_k k_f1 k_f2 k_f3))] hP hD ?_
        clear hP hD
        intro hP hD
        refine g5_ti (v := z11) y25 ?_
        refine lv_if_ne (tgt := 105) hx hb dX0_search_69 (by decide +kernel) (fun c_26 => ?_) (fun c_26 => ?_)
        ·
          have n_26 : gNe (z11.toInt) (0) := g5_ne (a := z11.toInt) (b := 0) rfl (by decide +kernel) c_26
          refine lv_iinc (v := (k_u + 1)) (lv' := [(1, .int (k_u + 1)), (3, .int 1), (2, .int z6), (0, .ref a_ha)]) hx hb dX0_search_105 hl (k := 2) rfl rfl (by decide +kernel) rfl ?_
          clear hl
          intro ls hl
          have t_27 : (k_u + 1).toInt = k_u.toInt + 1 := g5_iadd (a := k_u.toInt) (b := 1) rfl (by decide +kernel) (by omega) (by omega)
          refine lv_goto (tgt := 17) hx hb dX0_search_108 (by decide +kernel) ?_
          exact ih_17_3 ((k_u + 1), z13, z14, z15, z16, z17, z18, z19, z20, z21, z22, z23, z24, z12, k_f1, k_f2, k_f3) ls H locs (show Int.toNat (256 - (k_u + 1).toInt) < Int.toNat (256 - k_u.toInt) from g_up (show k_u.toInt < (k_u + 1).toInt by omega) (show k_u.toInt < 256 by omega)) ⟨lv_sub hl [0, 3] rfl, hP, hD, hS, ⟨by omega, by omega⟩, i_10⟩
        ·
          have i_26 : z11.toInt = 0 := g5_neN (a := z11.toInt) (b := 0) rfl (by decide +kernel) c_26
          refine lv_iload_n hx hb dX0_search_72 rfl (lv_at hl 1 rfl) ?_
          refine lv_aload_n hx hb dX0_search_73 rfl (lv_at hl 3 rfl) ?_
          refine va_get (D := G.1) (ci := 0) (v := .int k_f1) (C := RX0) (T := TX0) (N := 5) hx hb hts inG_X0 hown hK hP 20 rfl rfl 2 (by decide +kernel) (hts _ fl_X0_45) (fun _ h9 => h9) rfl dX0_search_74 ?_
          refine lv_icmp_eq (tgt := 95) hx hb dX0_search_77 (by decide +kernel) (fun c_28 => ?_) (fun c_28 => ?_)
          ·
            have i_28 : z6.toInt = k_f1.toInt := g5_eq (a := z6.toInt) (b := k_f1.toInt) rfl rfl c_28
            refine lv_aload_n hx hb dX0_search_95 rfl (lv_at hl 3 rfl) ?_
            refine lv_dup hx hb dX0_search_96 rfl ?_
            refine va_get (D := G.1) (ci := 0) (v := .int k_f2) (C := RX0) (T := TX0) (N := 5) hx hb hts inG_X0 hown hK hP 20 rfl rfl 3 (by decide +kernel) (hts _ fl_X0_48) (fun _ h9 => h9) rfl dX0_search_97 ?_
            refine lv_iconst (v := 1) hx hb dX0_search_100 (by decide +kernel) ?_
            refine W.eq (g2 := F0 m 101 ls [.int 1, .int k_f2, .ref a_ha]) rfl ?_
            refine lv_iadd hx hb dX0_search_101 ?_
            refine va_put (D := G.1) (ci := 0) (v := .int (k_f2 + 1)) (ty := .int) (C := RX0) (T := TX0) (N := 5) hx hb hts inG_X0 tyX0 tyX0_ok nmX0 hown hK hP hD hS 20 rfl rfl 3 (by decide +kernel) (hts _ fl_X0_48) (fun _ h9 => h9) rfl (by decide +kernel) rfl rfl (Nat.le_of_ble_eq_true rfl) dX0_search_102 ?_
            clear hP hD hS
            intro H locs hP hD hS
            refine g5_rs [(a_k, (oc5 a_h a_j a_pt z12 z13 z14 z15 z16 z17 z18 z19 z20 z21)), (a_h, (oc1 e_wa e_le e_st e_fo e_lc a_l a_g a_b a_s a_p a_w e_gb a_bb)), (a_g, (oc6 6 5 a_gn e_g)), (a_gn, (arI G 30 f_g)), (a_b, (oc6 5 24 a_bn e_b)), (a_bn, (arI G 120 f_b)), (a_p, (oc6 8 5 a_pn e_p)), (a_pn, (arI G 40 f_p)), (a_w, (oc6 6 6 a_wn e_w)), (a_wn, (arI G 36 f_w)), (a_bb, (arJ G 24 f_bb)), (a_j, (oc2 a_as a_sk)), (a_as, (arI G 8 z23)), (a_sk, (arJ G 50 z24)), (a_l, (arW G 6 f_l)), (a_lo, (oc3 e_cl a_hd a_sr a_cd)), (a_sr, (arI G n_sr f_sr)), (a_cd, (arI G n_cd f_cd)), (a_hd, (arI G n_hd f_hd)), (a_pt, (arI G 200 z22)), (a_ha, (oc0 a_h a_k k_f1 (k_f2 + 1) k_f3))] hP hD ?_
            clear hP hD
            intro hP hD
            refine lv_iinc (v := (k_u + 1)) (lv' := [(1, .int (k_u + 1)), (3, .int 1), (2, .int z6), (0, .ref a_ha)]) hx hb dX0_search_105 hl (k := 2) rfl rfl (by decide +kernel) rfl ?_
            clear hl
            intro ls hl
            have t_29 : (k_u + 1).toInt = k_u.toInt + 1 := g5_iadd (a := k_u.toInt) (b := 1) rfl (by decide +kernel) (by omega) (by omega)
            refine lv_goto (tgt := 17) hx hb dX0_search_108 (by decide +kernel) ?_
            exact ih_17_3 ((k_u + 1), z13, z14, z15, z16, z17, z18, z19, z20, z21, z22, z23, z24, z12, k_f1, (k_f2 + 1), k_f3) ls H locs (show Int.toNat (256 - (k_u + 1).toInt) < Int.toNat (256 - k_u.toInt) from g_up (show k_u.toInt < (k_u + 1).toInt by omega) (show k_u.toInt < 256 by omega)) ⟨lv_sub hl [0, 3] rfl, hP, hD, hS, ⟨by omega, by omega⟩, i_10⟩
          ·
            have n_28 : gNe (z6.toInt) (k_f1.toInt) := g5_eqN (a := z6.toInt) (b := k_f1.toInt) rfl rfl c_28
            refine lv_aload_n hx hb dX0_search_80 rfl (lv_at hl 3 rfl) ?_
            refine lv_iload_n hx hb dX0_search_81 rfl (lv_at hl 1 rfl) ?_
            refine va_put (D := G.1) (ci := 0) (v := .int z6) (ty := .int) (C := RX0) (T := TX0) (N := 5) hx hb hts inG_X0 tyX0 tyX0_ok nmX0 hown hK hP hD hS 20 rfl rfl 2 (by decide +kernel) (hts _ fl_X0_45) (fun _ h9 => h9) rfl (by decide +kernel) rfl rfl (Nat.le_of_ble_eq_true rfl) dX0_search_82 ?_
            clear hP hD hS
            intro H locs hP hD hS
            refine g5_rs [(a_k, (oc5 a_h a_j a_pt z12 z13 z14 z15 z16 z17 z18 z19 z20 z21)), (a_h, (oc1 e_wa e_le e_st e_fo e_lc a_l a_g a_b a_s a_p a_w e_gb a_bb)), (a_g, (oc6 6 5 a_gn e_g)), (a_gn, (arI G 30 f_g)), (a_b, (oc6 5 24 a_bn e_b)), (a_bn, (arI G 120 f_b)), (a_p, (oc6 8 5 a_pn e_p)), (a_pn, (arI G 40 f_p)), (a_w, (oc6 6 6 a_wn e_w)), (a_wn, (arI G 36 f_w)), (a_bb, (arJ G 24 f_bb)), (a_j, (oc2 a_as a_sk)), (a_as, (arI G 8 z23)), (a_sk, (arJ G 50 z24)), (a_l, (arW G 6 f_l)), (a_lo, (oc3 e_cl a_hd a_sr a_cd)), (a_sr, (arI G n_sr f_sr)), (a_cd, (arI G n_cd f_cd)), (a_hd, (arI G n_hd f_hd)), (a_pt, (arI G 200 z22)), (a_ha, (oc0 a_h a_k z6 k_f2 k_f3))] hP hD ?_
            clear hP hD
            intro hP hD
            refine lv_aload_n hx hb dX0_search_85 rfl (lv_at hl 3 rfl) ?_
            refine W.eq (g2 := F0 m 86 ls [.ref a_ha]) rfl ?_
            refine lv_iconst (v := 0) hx hb dX0_search_86 (by decide +kernel) ?_
            refine va_put (D := G.1) (ci := 0) (v := .int 0) (ty := .int) (C := RX0) (T := TX0) (N := 5) hx hb hts inG_X0 tyX0 tyX0_ok nmX0 hown hK hP hD hS 20 rfl rfl 3 (by decide +kernel) (hts _ fl_X0_48) (fun _ h9 => h9) rfl (by decide +kernel) rfl rfl (Nat.le_of_ble_eq_true rfl) dX0_search_87 ?_
            clear hP hD hS
            intro H locs hP hD hS
            refine g5_rs [(a_k, (oc5 a_h a_j a_pt z12 z13 z14 z15 z16 z17 z18 z19 z20 z21)), (a_h, (oc1 e_wa e_le e_st e_fo e_lc a_l a_g a_b a_s a_p a_w e_gb a_bb)), (a_g, (oc6 6 5 a_gn e_g)), (a_gn, (arI G 30 f_g)), (a_b, (oc6 5 24 a_bn e_b)), (a_bn, (arI G 120 f_b)), (a_p, (oc6 8 5 a_pn e_p)), (a_pn, (arI G 40 f_p)), (a_w, (oc6 6 6 a_wn e_w)), (a_wn, (arI G 36 f_w)), (a_bb, (arJ G 24 f_bb)), (a_j, (oc2 a_as a_sk)), (a_as, (arI G 8 z23)), (a_sk, (arJ G 50 z24)), (a_l, (arW G 6 f_l)), (a_lo, (oc3 e_cl a_hd a_sr a_cd)), (a_sr, (arI G n_sr f_sr)), (a_cd, (arI G n_cd f_cd)), (a_hd, (arI G n_hd f_hd)), (a_pt, (arI G 200 z22)), (a_ha, (oc0 a_h a_k z6 0 k_f3))] hP hD ?_
            clear hP hD
            intro hP hD
            refine lv_aload_n hx hb dX0_search_90 rfl (lv_at hl 3 rfl) ?_
            refine lv_iload_n hx hb dX0_search_91 rfl (lv_at hl 2 rfl) ?_
            refine va_put (D := G.1) (ci := 0) (v := .int k_u) (ty := .int) (C := RX0) (T := TX0) (N := 5) hx hb hts inG_X0 tyX0 tyX0_ok nmX0 hown hK hP hD hS 20 rfl rfl 4 (by decide +kernel) (hts _ fl_X0_51) (fun _ h9 => h9) rfl (by decide +kernel) rfl rfl (Nat.le_of_ble_eq_true rfl) dX0_search_92 ?_
            clear hP hD hS
            intro H locs hP hD hS
            refine g5_rs [(a_k, (oc5 a_h a_j a_pt z12 z13 z14 z15 z16 z17 z18 z19 z20 z21)), (a_h, (oc1 e_wa e_le e_st e_fo e_lc a_l a_g a_b a_s a_p a_w e_gb a_bb)), (a_g, (oc6 6 5 a_gn e_g)), (a_gn, (arI G 30 f_g)), (a_b, (oc6 5 24 a_bn e_b)), (a_bn, (arI G 120 f_b)), (a_p, (oc6 8 5 a_pn e_p)), (a_pn, (arI G 40 f_p)), (a_w, (oc6 6 6 a_wn e_w)), (a_wn, (arI G 36 f_w)), (a_bb, (arJ G 24 f_bb)), (a_j, (oc2 a_as a_sk)), (a_as, (arI G 8 z23)), (a_sk, (arJ G 50 z24)), (a_l, (arW G 6 f_l)), (a_lo, (oc3 e_cl a_hd a_sr a_cd)), (a_sr, (arI G n_sr f_sr)), (a_cd, (arI G n_cd f_cd)), (a_hd, (arI G n_hd f_hd)), (a_pt, (arI G 200 z22)), (a_ha, (oc0 a_h a_k z6 0 k_u))] hP hD ?_
            clear hP hD
            intro hP hD
            refine W.eq (g2 := F0 m 95 ls []) rfl ?_
            refine lv_aload_n hx hb dX0_search_95 rfl (lv_at hl 3 rfl) ?_
            refine lv_dup hx hb dX0_search_96 rfl ?_
            refine va_get (D := G.1) (ci := 0) (v := .int 0) (C := RX0) (T := TX0) (N := 5) hx hb hts inG_X0 hown hK hP 20 rfl rfl 3 (by decide +kernel) (hts _ fl_X0_48) (fun _ h9 => h9) rfl dX0_search_97 ?_
            refine lv_iconst (v := 1) hx hb dX0_search_100 (by decide +kernel) ?_
            refine lv_iadd hx hb dX0_search_101 ?_
            refine g5_ti (v := 1) (by decide +kernel) ?_
            refine W.eq (g2 := F0 m 102 ls [.int 1, .ref a_ha]) rfl ?_
            refine va_put (D := G.1) (ci := 0) (v := .int 1) (ty := .int) (C := RX0) (T := TX0) (N := 5) hx hb hts inG_X0 tyX0 tyX0_ok nmX0 hown hK hP hD hS 20 rfl rfl 3 (by decide +kernel) (hts _ fl_X0_48) (fun _ h9 => h9) rfl (by decide +kernel) rfl rfl (Nat.le_of_ble_eq_true rfl) dX0_search_102 ?_
            clear hP hD hS
            intro H locs hP hD hS
            refine g5_rs [(a_k, (oc5 a_h a_j a_pt z12 z13 z14 z15 z16 z17 z18 z19 z20 z21)), (a_h, (oc1 e_wa e_le e_st e_fo e_lc a_l a_g a_b a_s a_p a_w e_gb a_bb)), (a_g, (oc6 6 5 a_gn e_g)), (a_gn, (arI G 30 f_g)), (a_b, (oc6 5 24 a_bn e_b)), (a_bn, (arI G 120 f_b)), (a_p, (oc6 8 5 a_pn e_p)), (a_pn, (arI G 40 f_p)), (a_w, (oc6 6 6 a_wn e_w)), (a_wn, (arI G 36 f_w)), (a_bb, (arJ G 24 f_bb)), (a_j, (oc2 a_as a_sk)), (a_as, (arI G 8 z23)), (a_sk, (arJ G 50 z24)), (a_l, (arW G 6 f_l)), (a_lo, (oc3 e_cl a_hd a_sr a_cd)), (a_sr, (arI G n_sr f_sr)), (a_cd, (arI G n_cd f_cd)), (a_hd, (arI G n_hd f_hd)), (a_pt, (arI G 200 z22)), (a_ha, (oc0 a_h a_k z6 1 k_u))] hP hD ?_
            clear hP hD
            intro hP hD
            refine lv_iinc (v := (k_u + 1)) (lv' := [(1, .int (k_u + 1)), (3, .int 1), (2, .int z6), (0, .ref a_ha)]) hx hb dX0_search_105 hl (k := 2) rfl rfl (by decide +kernel) rfl ?_
            clear hl
            intro ls hl
            have t_30 : (k_u + 1).toInt = k_u.toInt + 1 := g5_iadd (a := k_u.toInt) (b := 1) rfl (by decide +kernel) (by omega) (by omega)
            refine lv_goto (tgt := 17) hx hb dX0_search_108 (by decide +kernel) ?_
            exact ih_17_3 ((k_u + 1), z13, z14, z15, z16, z17, z18, z19, z20, z21, z22, z23, z24, z12, z6, 1, k_u) ls H locs (show Int.toNat (256 - (k_u + 1).toInt) < Int.toNat (256 - k_u.toInt) from g_up (show k_u.toInt < (k_u + 1).toInt by omega) (show k_u.toInt < 256 by omega)) ⟨lv_sub hl [0, 3] rfl, hP, hD, hS, ⟨by omega, by omega⟩, i_10⟩
    ·
      have n_8 : gNe (k_f1.toInt) ((-1)) := g5_eqN (a := k_f1.toInt) (b := (-1)) rfl (by decide +kernel) c_8
      refine lv_iload_n hx hb dX0_search_46 rfl (lv_at hl 0 rfl) ?_
      refine lv_aload_n hx hb dX0_search_47 rfl (lv_at hl 2 rfl) ?_
      refine va_get (D := G.1) (ci := 0) (v := .int k_f1) (C := RX0) (T := TX0) (N := 5) hx hb hts inG_X0 hown hK hP 20 rfl rfl 2 (by decide +kernel) (hts _ fl_X0_45) (fun _ h9 => h9) rfl dX0_search_48 ?_
      refine lv_icmp_gt (tgt := 58) hx hb dX0_search_51 (by decide +kernel) (fun c_31 => ?_) (fun c_31 => ?_)
      ·
        have i_31 : z6.toInt > k_f1.toInt := g5_gt (a := z6.toInt) (b := k_f1.toInt) rfl rfl c_31
        refine lv_iconst (v := 0) hx hb dX0_search_58 (by decide +kernel) ?_
        refine lv_istore_n (lv' := [(3, .int 0), (2, .int z6), (1, .int k_u), (0, .ref a_ha)]) hx hb dX0_search_59 rfl hl (by decide +kernel) rfl ?_
        clear hl
        intro ls hl
        refine lv_iload_n hx hb dX0_search_60 rfl (lv_at hl 0 rfl) ?_
        refine lv_if_eq (tgt := 105) hx hb dX0_search_61 (by decide +kernel) (fun c_32 => ?_) (fun c_32 => ?_)
        ·
          refine lv_iinc (v := (k_u + 1)) (lv' := [(1, .int (k_u + 1)), (3, .int 0), (2, .int z6), (0, .ref a_ha)]) hx hb dX0_search_105 hl (k := 2) rfl rfl (by decide +kernel) rfl ?_
          clear hl
          intro ls hl
          have t_33 : (k_u + 1).toInt = k_u.toInt + 1 := g5_iadd (a := k_u.toInt) (b := 1) rfl (by decide +kernel) (by omega) (by omega)
          refine lv_goto (tgt := 17) hx hb dX0_search_108 (by decide +kernel) ?_
          exact ih_17_3 ((k_u + 1), k_se, k_lh, k_br, k_we, k_me, k_ce, k_wy, k_ho, k_ov, k_pt, k_as, k_sk, k_ln, k_f1, k_f2, k_f3) ls H locs (show Int.toNat (256 - (k_u + 1).toInt) < Int.toNat (256 - k_u.toInt) from g_up (show k_u.toInt < (k_u + 1).toInt by omega) (show k_u.toInt < 256 by omega)) ⟨lv_sub hl [0, 3] rfl, hP, hD, hS, ⟨by omega, by omega⟩, i_2⟩
        ·
          exact absurd c_32 (by decide +kernel)
      ·
        have i_31 : z6.toInt ≤ k_f1.toInt := g5_gtN (a := z6.toInt) (b := k_f1.toInt) rfl rfl c_31
        refine lv_iconst (v := 1) hx hb dX0_search_54 (by decide +kernel) ?_
        refine lv_goto (tgt := 59) hx hb dX0_search_55 (by decide +kernel) ?_
        refine lv_istore_n (lv' := [(3, .int 1), (2, .int z6), (1, .int k_u), (0, .ref a_ha)]) hx hb dX0_search_59 rfl hl (by decide +kernel) rfl ?_
        clear hl
        intro ls hl
        refine lv_iload_n hx hb dX0_search_60 rfl (lv_at hl 0 rfl) ?_
        refine W.eq (g2 := F0 m 61 ls [.int 1]) rfl ?_
        refine lv_if_eq (tgt := 105) hx hb dX0_search_61 (by decide +kernel) (fun c_34 => ?_) (fun c_34 => ?_)
        ·
          exact absurd c_34 (by decide +kernel)
        ·
          refine lv_aload_n hx hb dX0_search_64 rfl (lv_at hl 3 rfl) ?_
          refine lv_iload_n hx hb dX0_search_65 rfl (lv_at hl 2 rfl) ?_
          obtain ⟨hPc, hDc, hFc⟩ := g5_sub3 (wc := [(a_k, (oc5 a_h a_j a_pt k_ln k_se k_lh k_br k_we k_me k_ce k_wy k_ho k_ov)), (a_h, (oc1 e_wa e_le e_st e_fo e_lc a_l a_g a_b a_s a_p a_w e_gb a_bb)), (a_g, (oc6 6 5 a_gn e_g)), (a_gn, (arI G 30 f_g)), (a_b, (oc6 5 24 a_bn e_b)), (a_bn, (arI G 120 f_b)), (a_p, (oc6 8 5 a_pn e_p)), (a_pn, (arI G 40 f_p)), (a_w, (oc6 6 6 a_wn e_w)), (a_wn, (arI G 36 f_w)), (a_bb, (arJ G 24 f_bb)), (a_j, (oc2 a_as a_sk)), (a_as, (arI G 8 k_as)), (a_sk, (arJ G 50 k_sk)), (a_l, (arW G 6 f_l)), (a_lo, (oc3 e_cl a_hd a_sr a_cd)), (a_sr, (arI G n_sr f_sr)), (a_cd, (arI G n_cd f_cd)), (a_hd, (arI G n_hd f_hd)), (a_pt, (arI G 200 k_pt)), (a_ha, (oc0 a_h a_k k_f1 k_f2 k_f3))]) hP hD hS hA [0, 1, 2, 3, 4, 5, 6, 7, 8, 9, 10, 11, 12, 13, 14, 15, 16, 17, 18, 19, 20] (by decide +kernel) rfl
          refine va_calli (va_runV (As := [.int k_u]) (rest := []) ⟨hx, hb, hml, hown, hts⟩ (g_lackingL l G a_k a_h a_g a_gn a_b a_bn a_p a_pn a_w a_wn a_bb a_j a_as a_sk a_l a_lo a_sr a_cd a_hd a_pt a_ha a_s H.size e_le e_st e_fo e_lc e_g e_b e_p e_w e_cl k_ln k_se k_lh k_br k_we k_me k_ce k_wy k_ho k_ov k_f1 k_f2 k_f3 k_u e_wa e_gb f_g f_b f_p f_w f_bb k_as k_sk f_l f_sr f_cd f_hd k_pt n_sr n_cd n_hd h_e_g h_e_b h_e_p h_e_w h_e_cl i_2 (e_gk) (e_pk) (e_gi) (e_f) (e_a) (e_hn) (e_hs) (e_hk) (e_c)) (cwV 1 hts gV_X0_63 rfl rfl rfl hv_X0_lacking ⟨Nat.le_of_ble_eq_true rfl, Nat.le_of_ble_eq_true rfl⟩) (g5_preV hPc hK hDc hN hT hS hFc (ci := 0) (q0 := 20) rfl rfl) rfl rfl hl.1 rfl (lv_room (Nat.le_of_ble_eq_true rfl)) dX0_search_66 ⟨Nat.le_of_ble_eq_true rfl, Nat.le_of_ble_eq_true rfl⟩) hS (fun q _ h => hFc q h) hFc (fun r u t H locs ht hvm hw hB hz1 hk1 hS => ?_)
          obtain ⟨hP1, hD1⟩ := hB
          have hP1 := g5_ht ht hP1
          obtain ⟨z36, z37, z38, z39, z40, z41, z42, z43, z44, z45, z46, z47, z48, z49, (i_35 : 0 ≤ z46.toInt ∧ z46.toInt ≤ 1), y50, rfl⟩ := hw
          have hJ9 := va_join (wr := []) hP hD [0, 1, 2, 3, 4, 5, 6, 7, 8, 9, 10, 11, 12, 13, 14, 15, 16, 17, 18, 19, 20] [] rfl rfl (by decide +kernel) (by decide +kernel) hk1 hFc hP1 hD1
          clear hP hD hPc hDc hFc ht hvm hz1 hk1 hP1 hD1
          obtain ⟨hP, hD⟩ := hJ9
          refine g5_rs [(a_k, (oc5 a_h a_j a_pt z37 z38 z39 z40 z41 z42 z43 z44 z45 z46)), (a_h, (oc1 e_wa e_le e_st e_fo e_lc a_l a_g a_b a_s a_p a_w e_gb a_bb)), (a_g, (oc6 6 5 a_gn e_g)), (a_gn, (arI G 30 f_g)), (a_b, (oc6 5 24 a_bn e_b)), (a_bn, (arI G 120 f_b)), (a_p, (oc6 8 5 a_pn e_p)), (a_pn, (arI G 40 f_p)), (a_w, (oc6 6 6 a_wn e_w)), (a_wn, (arI G 36 f_w)), (a_bb, (arJ G 24 f_bb)), (a_j, (oc2 a_as a_sk)), (a_as, (arI G 8 z48)), (a_sk, (arJ G 50 z49)), (a_l, (arW G 6 f_l)), (a_lo, (oc3 e_cl a_hd a_sr a_cd)), (a_sr, (arI G n_sr f_sr)), (a_cd, (arI G n_cd f_cd)), (a_hd, (arI G n_hd f_hd)), (a_pt, (arI G 200 z47)), (a_ha, (oc0 a_h a_k k_f1 k_f2 k_f3))] hP hD ?_
          clear hP hD
          intro hP hD
          refine g5_ti (v := z36) y50 ?_
          refine lv_if_ne (tgt := 105) hx hb dX0_search_69 (by decide +kernel) (fun c_51 => ?_) (fun c_51 => ?_)
          ·
            have n_51 : gNe (z36.toInt) (0) := g5_ne (a := z36.toInt) (b := 0) rfl (by decide +kernel) c_51
            refine lv_iinc (v := (k_u + 1)) (lv' := [(1, .int (k_u + 1)), (3, .int 1), (2, .int z6), (0, .ref a_ha)]) hx hb dX0_search_105 hl (k := 2) rfl rfl (by decide +kernel) rfl ?_
            clear hl
            intro ls hl
            have t_52 : (k_u + 1).toInt = k_u.toInt + 1 := g5_iadd (a := k_u.toInt) (b := 1) rfl (by decide +kernel) (by omega) (by omega)
            refine lv_goto (tgt := 17) hx hb dX0_search_108 (by decide +kernel) ?_
            exact ih_17_3 ((k_u + 1), z38, z39, z40, z41, z42, z43, z44, z45, z46, z47, z48, z49, z37, k_f1, k_f2, k_f3) ls H locs (show Int.toNat (256 - (k_u + 1).toInt) < Int.toNat (256 - k_u.toInt) from g_up (show k_u.toInt < (k_u + 1).toInt by omega) (show k_u.toInt < 256 by omega)) ⟨lv_sub hl [0, 3] rfl, hP, hD, hS, ⟨by omega, by omega⟩, i_35⟩
          ·
            have i_51 : z36.toInt = 0 := g5_neN (a := z36.toInt) (b := 0) rfl (by decide +kernel) c_51
            refine lv_iload_n hx hb dX0_search_72 rfl (lv_at hl 1 rfl) ?_
            refine lv_aload_n hx hb dX0_search_73 rfl (lv_at hl 3 rfl) ?_
            refine va_get (D := G.1) (ci := 0) (v := .int k_f1) (C := RX0) (T := TX0) (N := 5) hx hb hts inG_X0 hown hK hP 20 rfl rfl 2 (by decide +kernel) (hts _ fl_X0_45) (fun _ h9 => h9) rfl dX0_search_74 ?_
            refine lv_icmp_eq (tgt := 95) hx hb dX0_search_77 (by decide +kernel) (fun c_53 => ?_) (fun c_53 => ?_)
            ·
              have i_53 : z6.toInt = k_f1.toInt := g5_eq (a := z6.toInt) (b := k_f1.toInt) rfl rfl c_53
              refine lv_aload_n hx hb dX0_search_95 rfl (lv_at hl 3 rfl) ?_
              refine lv_dup hx hb dX0_search_96 rfl ?_
              refine va_get (D := G.1) (ci := 0) (v := .int k_f2) (C := RX0) (T := TX0) (N := 5) hx hb hts inG_X0 hown hK hP 20 rfl rfl 3 (by decide +kernel) (hts _ fl_X0_48) (fun _ h9 => h9) rfl dX0_search_97 ?_
              refine lv_iconst (v := 1) hx hb dX0_search_100 (by decide +kernel) ?_
              refine W.eq (g2 := F0 m 101 ls [.int 1, .int k_f2, .ref a_ha]) rfl ?_
              refine lv_iadd hx hb dX0_search_101 ?_
              refine va_put (D := G.1) (ci := 0) (v := .int (k_f2 + 1)) (ty := .int) (C := RX0) (T := TX0) (N := 5) hx hb hts inG_X0 tyX0 tyX0_ok nmX0 hown hK hP hD hS 20 rfl rfl 3 (by decide +kernel) (hts _ fl_X0_48) (fun _ h9 => h9) rfl (by decide +kernel) rfl rfl (Nat.le_of_ble_eq_true rfl) dX0_search_102 ?_
              clear hP hD hS
              intro H locs hP hD hS
              refine g5_rs [(a_k, (oc5 a_h a_j a_pt z37 z38 z39 z40 z41 z42 z43 z44 z45 z46)), (a_h, (oc1 e_wa e_le e_st e_fo e_lc a_l a_g a_b a_s a_p a_w e_gb a_bb)), (a_g, (oc6 6 5 a_gn e_g)), (a_gn, (arI G 30 f_g)), (a_b, (oc6 5 24 a_bn e_b)), (a_bn, (arI G 120 f_b)), (a_p, (oc6 8 5 a_pn e_p)), (a_pn, (arI G 40 f_p)), (a_w, (oc6 6 6 a_wn e_w)), (a_wn, (arI G 36 f_w)), (a_bb, (arJ G 24 f_bb)), (a_j, (oc2 a_as a_sk)), (a_as, (arI G 8 z48)), (a_sk, (arJ G 50 z49)), (a_l, (arW G 6 f_l)), (a_lo, (oc3 e_cl a_hd a_sr a_cd)), (a_sr, (arI G n_sr f_sr)), (a_cd, (arI G n_cd f_cd)), (a_hd, (arI G n_hd f_hd)), (a_pt, (arI G 200 z47)), (a_ha, (oc0 a_h a_k k_f1 (k_f2 + 1) k_f3))] hP hD ?_
              clear hP hD
              intro hP hD
              refine lv_iinc (v := (k_u + 1)) (lv' := [(1, .int (k_u + 1)), (3, .int 1), (2, .int z6), (0, .ref a_ha)]) hx hb dX0_search_105 hl (k := 2) rfl rfl (by decide +kernel) rfl ?_
              clear hl
              intro ls hl
              have t_54 : (k_u + 1).toInt = k_u.toInt + 1 := g5_iadd (a := k_u.toInt) (b := 1) rfl (by decide +kernel) (by omega) (by omega)
              refine lv_goto (tgt := 17) hx hb dX0_search_108 (by decide +kernel) ?_
              exact ih_17_3 ((k_u + 1), z38, z39, z40, z41, z42, z43, z44, z45, z46, z47, z48, z49, z37, k_f1, (k_f2 + 1), k_f3) ls H locs (show Int.toNat (256 - (k_u + 1).toInt) < Int.toNat (256 - k_u.toInt) from g_up (show k_u.toInt < (k_u + 1).toInt by omega) (show k_u.toInt < 256 by omega)) ⟨lv_sub hl [0, 3] rfl, hP, hD, hS, ⟨by omega, by omega⟩, i_35⟩
            ·
              have n_53 : gNe (z6.toInt) (k_f1.toInt) := g5_eqN (a := z6.toInt) (b := k_f1.toInt) rfl rfl c_53
              refine lv_aload_n hx hb dX0_search_80 rfl (lv_at hl 3 rfl) ?_
              refine lv_iload_n hx hb dX0_search_81 rfl (lv_at hl 1 rfl) ?_
              refine va_put (D := G.1) (ci := 0) (v := .int z6) (ty := .int) (C := RX0) (T := TX0) (N := 5) hx hb hts inG_X0 tyX0 tyX0_ok nmX0 hown hK hP hD hS 20 rfl rfl 2 (by decide +kernel) (hts _ fl_X0_45) (fun _ h9 => h9) rfl (by decide +kernel) rfl rfl (Nat.le_of_ble_eq_true rfl) dX0_search_82 ?_
              clear hP hD hS
              intro H locs hP hD hS
              refine g5_rs [(a_k, (oc5 a_h a_j a_pt z37 z38 z39 z40 z41 z42 z43 z44 z45 z46)), (a_h, (oc1 e_wa e_le e_st e_fo e_lc a_l a_g a_b a_s a_p a_w e_gb a_bb)), (a_g, (oc6 6 5 a_gn e_g)), (a_gn, (arI G 30 f_g)), (a_b, (oc6 5 24 a_bn e_b)), (a_bn, (arI G 120 f_b)), (a_p, (oc6 8 5 a_pn e_p)), (a_pn, (arI G 40 f_p)), (a_w, (oc6 6 6 a_wn e_w)), (a_wn, (arI G 36 f_w)), (a_bb, (arJ G 24 f_bb)), (a_j, (oc2 a_as a_sk)), (a_as, (arI G 8 z48)), (a_sk, (arJ G 50 z49)), (a_l, (arW G 6 f_l)), (a_lo, (oc3 e_cl a_hd a_sr a_cd)), (a_sr, (arI G n_sr f_sr)), (a_cd, (arI G n_cd f_cd)), (a_hd, (arI G n_hd f_hd)), (a_pt, (arI G 200 z47)), (a_ha, (oc0 a_h a_k z6 k_f2 k_f3))] hP hD ?_
              clear hP hD
              intro hP hD
              refine lv_aload_n hx hb dX0_search_85 rfl (lv_at hl 3 rfl) ?_
              refine W.eq (g2 := F0 m 86 ls [.ref a_ha]) rfl ?_
              refine lv_iconst (v := 0) hx hb dX0_search_86 (by decide +kernel) ?_
              refine va_put (D := G.1) (ci := 0) (v := .int 0) (ty := .int) (C := RX0) (T := TX0) (N := 5) hx hb hts inG_X0 tyX0 tyX0_ok nmX0 hown hK hP hD hS 20 rfl rfl 3 (by decide +kernel) (hts _ fl_X0_48) (fun _ h9 => h9) rfl (by decide +kernel) rfl rfl (Nat.le_of_ble_eq_true rfl) dX0_search_87 ?_
              clear hP hD hS
              intro H locs hP hD hS
              refine g5_rs [(a_k, (oc5 a_h a_j a_pt z37 z38 z39 z40 z41 z42 z43 z44 z45 z46)), (a_h, (oc1 e_wa e_le e_st e_fo e_lc a_l a_g a_b a_s a_p a_w e_gb a_bb)), (a_g, (oc6 6 5 a_gn e_g)), (a_gn, (arI G 30 f_g)), (a_b, (oc6 5 24 a_bn e_b)), (a_bn, (arI G 120 f_b)), (a_p, (oc6 8 5 a_pn e_p)), (a_pn, (arI G 40 f_p)), (a_w, (oc6 6 6 a_wn e_w)), (a_wn, (arI G 36 f_w)), (a_bb, (arJ G 24 f_bb)), (a_j, (oc2 a_as a_sk)), (a_as, (arI G 8 z48)), (a_sk, (arJ G 50 z49)), (a_l, (arW G 6 f_l)), (a_lo, (oc3 e_cl a_hd a_sr a_cd)), (a_sr, (arI G n_sr f_sr)), (a_cd, (arI G n_cd f_cd)), (a_hd, (arI G n_hd f_hd)), (a_pt, (arI G 200 z47)), (a_ha, (oc0 a_h a_k z6 0 k_f3))] hP hD ?_
              clear hP hD
              intro hP hD
              refine lv_aload_n hx hb dX0_search_90 rfl (lv_at hl 3 rfl) ?_
              refine lv_iload_n hx hb dX0_search_91 rfl (lv_at hl 2 rfl) ?_
              refine va_put (D := G.1) (ci := 0) (v := .int k_u) (ty := .int) (C := RX0) (T := TX0) (N := 5) hx hb hts inG_X0 tyX0 tyX0_ok nmX0 hown hK hP hD hS 20 rfl rfl 4 (by decide +kernel) (hts _ fl_X0_51) (fun _ h9 => h9) rfl (by decide +kernel) rfl rfl (Nat.le_of_ble_eq_true rfl) dX0_search_92 ?_
              clear hP hD hS
              intro H locs hP hD hS
              refine g5_rs [(a_k, (oc5 a_h a_j a_pt z37 z38 z39 z40 z41 z42 z43 z44 z45 z46)), (a_h, (oc1 e_wa e_le e_st e_fo e_lc a_l a_g a_b a_s a_p a_w e_gb a_bb)), (a_g, (oc6 6 5 a_gn e_g)), (a_gn, (arI G 30 f_g)), (a_b, (oc6 5 24 a_bn e_b)), (a_bn, (arI G 120 f_b)), (a_p, (oc6 8 5 a_pn e_p)), (a_pn, (arI G 40 f_p)), (a_w, (oc6 6 6 a_wn e_w)), (a_wn, (arI G 36 f_w)), (a_bb, (arJ G 24 f_bb)), (a_j, (oc2 a_as a_sk)), (a_as, (arI G 8 z48)), (a_sk, (arJ G 50 z49)), (a_l, (arW G 6 f_l)), (a_lo, (oc3 e_cl a_hd a_sr a_cd)), (a_sr, (arI G n_sr f_sr)), (a_cd, (arI G n_cd f_cd)), (a_hd, (arI G n_hd f_hd)), (a_pt, (arI G 200 z47)), (a_ha, (oc0 a_h a_k z6 0 k_u))] hP hD ?_
              clear hP hD
              intro hP hD
              refine W.eq (g2 := F0 m 95 ls []) rfl ?_
              refine lv_aload_n hx hb dX0_search_95 rfl (lv_at hl 3 rfl) ?_
              refine lv_dup hx hb dX0_search_96 rfl ?_
              refine va_get (D := G.1) (ci := 0) (v := .int 0) (C := RX0) (T := TX0) (N := 5) hx hb hts inG_X0 hown hK hP 20 rfl rfl 3 (by decide +kernel) (hts _ fl_X0_48) (fun _ h9 => h9) rfl dX0_search_97 ?_
              refine lv_iconst (v := 1) hx hb dX0_search_100 (by decide +kernel) ?_
              refine lv_iadd hx hb dX0_search_101 ?_
              refine g5_ti (v := 1) (by decide +kernel) ?_
              refine W.eq (g2 := F0 m 102 ls [.int 1, .ref a_ha]) rfl ?_
              refine va_put (D := G.1) (ci := 0) (v := .int 1) (ty := .int) (C := RX0) (T := TX0) (N := 5) hx hb hts inG_X0 tyX0 tyX0_ok nmX0 hown hK hP hD hS 20 rfl rfl 3 (by decide +kernel) (hts _ fl_X0_48) (fun _ h9 => h9) rfl (by decide +kernel) rfl rfl (Nat.le_of_ble_eq_true rfl) dX0_search_102 ?_
              clear hP hD hS
              intro H locs hP hD hS
              refine g5_rs [(a_k, (oc5 a_h a_j a_pt z37 z38 z39 z40 z41 z42 z43 z44 z45 z46)), (a_h, (oc1 e_wa e_le e_st e_fo e_lc a_l a_g a_b a_s a_p a_w e_gb a_bb)), (a_g, (oc6 6 5 a_gn e_g)), (a_gn, (arI G 30 f_g)), (a_b, (oc6 5 24 a_bn e_b)), (a_bn, (arI G 120 f_b)), (a_p, (oc6 8 5 a_pn e_p)), (a_pn, (arI G 40 f_p)), (a_w, (oc6 6 6 a_wn e_w)), (a_wn, (arI G 36 f_w)), (a_bb, (arJ G 24 f_bb)), (a_j, (oc2 a_as a_sk)), (a_as, (arI G 8 z48)), (a_sk, (arJ G 50 z49)), (a_l, (arW G 6 f_l)), (a_lo, (oc3 e_cl a_hd a_sr a_cd)), (a_sr, (arI G n_sr f_sr)), (a_cd, (arI G n_cd f_cd)), (a_hd, (arI G n_hd f_hd)), (a_pt, (arI G 200 z47)), (a_ha, (oc0 a_h a_k z6 1 k_u))] hP hD ?_
              clear hP hD
              intro hP hD
              refine lv_iinc (v := (k_u + 1)) (lv' := [(1, .int (k_u + 1)), (3, .int 1), (2, .int z6), (0, .ref a_ha)]) hx hb dX0_search_105 hl (k := 2) rfl rfl (by decide +kernel) rfl ?_
              clear hl
              intro ls hl
              have t_55 : (k_u + 1).toInt = k_u.toInt + 1 := g5_iadd (a := k_u.toInt) (b := 1) rfl (by decide +kernel) (by omega) (by omega)
              refine lv_goto (tgt := 17) hx hb dX0_search_108 (by decide +kernel) ?_
              exact ih_17_3 ((k_u + 1), z38, z39, z40, z41, z42, z43, z44, z45, z46, z47, z48, z49, z37, z6, 1, k_u) ls H locs (show Int.toNat (256 - (k_u + 1).toInt) < Int.toNat (256 - k_u.toInt) from g_up (show k_u.toInt < (k_u + 1).toInt by omega) (show k_u.toInt < 256 by omega)) ⟨lv_sub hl [0, 3] rfl, hP, hD, hS, ⟨by omega, by omega⟩, i_35⟩
theorem dgX9_spread_0 : ∀ r ∈ ([(0, (.lload_n 1, 1)), (1, (.lload_n 1, 1)), (2, (.bipush 8, 2)), (4, (.lshl, 1)), (5, (.lor, 1)), (6, (.lload_n 1, 1)), (7, (.bipush 8, 2)), (9, (.lushr, 1)), (10, (.lor, 1)), (11, (.lload_n 1, 1)), (12, (.ldc2_w 70, 3)), (15, (.land, 1)), (16, (.iconst 1, 1)), (17, (.lshl, 1)), (18, (.lor, 1)), (19, (.lload_n 1, 1)), (20, (.ldc2_w 72, 3)), (23, (.land, 1)), (24, (.iconst 1, 1)), (25, (.lushr, 1)), (26, (.lor, 1)), (27, (.lstore_n 3, 1)), (28, (.lload_n 3, 1)), (29, (.aload_n 0, 1)), (30, (.getfield 19, 3)), (33, (.getfield 74, 3)), (36, (.ldc2_w 78, 3)), (39, (.lxor, 1)), (40, (.land, 1)), (41, (.lreturn, 1))] : List (Nat × (Instr × Nat))), decode cX9_spread r.1 = .ok r.2 := by decide +kernel
theorem dX9_spread_0 : decode cX9_spread 0 = .ok (.lload_n 1, 1) := dgX9_spread_0 (0, (.lload_n 1, 1)) (List.mem_of_getElem? (i := 0) rfl)
theorem dX9_spread_1 : decode cX9_spread 1 = .ok (.lload_n 1, 1) := dgX9_spread_0 (1, (.lload_n 1, 1)) (List.mem_of_getElem? (i := 1) rfl)
theorem dX9_spread_2 : decode cX9_spread 2 = .ok (.bipush 8, 2) := dgX9_spread_0 (2, (.bipush 8, 2)) (List.mem_of_getElem? (i := 2) rfl)
theorem dX9_spread_4 : decode cX9_spread 4 = .ok (.lshl, 1) := dgX9_spread_0 (4, (.lshl, 1)) (List.mem_of_getElem? (i := 3) rfl)
theorem dX9_spread_5 : decode cX9_spread 5 = .ok (.lor, 1) := dgX9_spread_0 (5, (.lor, 1)) (List.mem_of_getElem? (i := 4) rfl)
theorem dX9_spread_6 : decode cX9_spread 6 = .ok (.lload_n 1, 1) := dgX9_spread_0 (6, (.lload_n 1, 1)) (List.mem_of_getElem? (i := 5) rfl)
theorem dX9_spread_7 : decode cX9_spread 7 = .ok (.bipush 8, 2) := dgX9_spread_0 (7, (.bipush 8, 2)) (List.mem_of_getElem? (i := 6) rfl)
theorem dX9_spread_9 : decode cX9_spread 9 = .ok (.lushr, 1) := dgX9_spread_0 (9, (.lushr, 1)) (List.mem_of_getElem? (i := 7) rfl)
theorem dX9_spread_10 : decode cX9_spread 10 = .ok (.lor, 1) := dgX9_spread_0 (10, (.lor, 1)) (List.mem_of_getElem? (i := 8) rfl)
theorem dX9_spread_11 : decode cX9_spread 11 = .ok (.lload_n 1, 1) := dgX9_spread_0 (11, (.lload_n 1, 1)) (List.mem_of_getElem? (i := 9) rfl)
theorem dX9_spread_12 : decode cX9_spread 12 = .ok (.ldc2_w 70, 3) := dgX9_spread_0 (12, (.ldc2_w 70, 3)) (List.mem_of_getElem? (i := 10) rfl)
theorem dX9_spread_15 : decode cX9_spread 15 = .ok (.land, 1) := dgX9_spread_0 (15, (.land, 1)) (List.mem_of_getElem? (i := 11) rfl)
theorem dX9_spread_16 : decode cX9_spread 16 = .ok (.iconst 1, 1) := dgX9_spread_0 (16, (.iconst 1, 1)) (List.mem_of_getElem? (i := 12) rfl)
theorem dX9_spread_17 : decode cX9_spread 17 = .ok (.lshl, 1) := dgX9_spread_0 (17, (.lshl, 1)) (List.mem_of_getElem? (i := 13) rfl)
theorem dX9_spread_18 : decode cX9_spread 18 = .ok (.lor, 1) := dgX9_spread_0 (18, (.lor, 1)) (List.mem_of_getElem? (i := 14) rfl)
theorem dX9_spread_19 : decode cX9_spread 19 = .ok (.lload_n 1, 1) := dgX9_spread_0 (19, (.lload_n 1, 1)) (List.mem_of_getElem? (i := 15) rfl)
theorem dX9_spread_20 : decode cX9_spread 20 = .ok (.ldc2_w 72, 3) := dgX9_spread_0 (20, (.ldc2_w 72, 3)) (List.mem_of_getElem? (i := 16) rfl)
theorem dX9_spread_23 : decode cX9_spread 23 = .ok (.land, 1) := dgX9_spread_0 (23, (.land, 1)) (List.mem_of_getElem? (i := 17) rfl)
theorem dX9_spread_24 : decode cX9_spread 24 = .ok (.iconst 1, 1) := dgX9_spread_0 (24, (.iconst 1, 1)) (List.mem_of_getElem? (i := 18) rfl)
theorem dX9_spread_25 : decode cX9_spread 25 = .ok (.lushr, 1) := dgX9_spread_0 (25, (.lushr, 1)) (List.mem_of_getElem? (i := 19) rfl)
theorem dX9_spread_26 : decode cX9_spread 26 = .ok (.lor, 1) := dgX9_spread_0 (26, (.lor, 1)) (List.mem_of_getElem? (i := 20) rfl)
theorem dX9_spread_27 : decode cX9_spread 27 = .ok (.lstore_n 3, 1) := dgX9_spread_0 (27, (.lstore_n 3, 1)) (List.mem_of_getElem? (i := 21) rfl)
theorem dX9_spread_28 : decode cX9_spread 28 = .ok (.lload_n 3, 1) := dgX9_spread_0 (28, (.lload_n 3, 1)) (List.mem_of_getElem? (i := 22) rfl)
theorem dX9_spread_29 : decode cX9_spread 29 = .ok (.aload_n 0, 1) := dgX9_spread_0 (29, (.aload_n 0, 1)) (List.mem_of_getElem? (i := 23) rfl)
theorem dX9_spread_30 : decode cX9_spread 30 = .ok (.getfield 19, 3) := dgX9_spread_0 (30, (.getfield 19, 3)) (List.mem_of_getElem? (i := 24) rfl)
theorem dX9_spread_33 : decode cX9_spread 33 = .ok (.getfield 74, 3) := dgX9_spread_0 (33, (.getfield 74, 3)) (List.mem_of_getElem? (i := 25) rfl)
theorem dX9_spread_36 : decode cX9_spread 36 = .ok (.ldc2_w 78, 3) := dgX9_spread_0 (36, (.ldc2_w 78, 3)) (List.mem_of_getElem? (i := 26) rfl)
theorem dX9_spread_39 : decode cX9_spread 39 = .ok (.lxor, 1) := dgX9_spread_0 (39, (.lxor, 1)) (List.mem_of_getElem? (i := 27) rfl)
theorem dX9_spread_40 : decode cX9_spread 40 = .ok (.land, 1) := dgX9_spread_0 (40, (.land, 1)) (List.mem_of_getElem? (i := 28) rfl)
theorem dX9_spread_41 : decode cX9_spread 41 = .ok (.lreturn, 1) := dgX9_spread_0 (41, (.lreturn, 1)) (List.mem_of_getElem? (i := 29) rfl)
theorem kl_X9_70 : Cond.constantLong RX9 70 9187201950435737471 ∈ tblG := tg 1119 (by decide +kernel) (by decide +kernel)
theorem kl_X9_72 : Cond.constantLong RX9 72 (-72340172838076674) ∈ tblG := tg 1120 (by decide +kernel) (by decide +kernel)
theorem inG_X9 : ∀ w ∈ wsX90, w ∈ tblG := tgs [384, 386, 388, 390] (by decide +kernel) (by decide +kernel)
theorem fl_X9_19 : Cond.fieldLink RX9 19 "LateGlass$Walker" "house" "LLateGlass$House;" ∈ tblG := tg 380 (by decide +kernel) (by decide +kernel)
theorem fl_X9_74 : Cond.fieldLink RX9 74 "LateGlass$House" "walls" "J" ∈ tblG := tg 157 (by decide +kernel) (by decide +kernel)
theorem kl_X9_78 : Cond.constantLong RX9 78 (-1) ∈ tblG := tg 1121 (by decide +kernel) (by decide +kernel)
set_option maxHeartbeats 4000000 in
set_option maxRecDepth 100000 in
theorem a_spread (l : Launch) (G : g5_G) (a_h a_wk a_l a_g a_b a_s a_p a_w a_bb a_k a_go a_mt : Nat) (sz : Nat) (e_le : Int32) (e_st : Int32) (e_fo : Int32) (e_lc : Int32) (e_wa : Int64) (e_gb : Int64) (p_x : Int64) : Met l yX9_spread (wsG yX9_spread cX9_spread 5 (some .long)) ({ frames := 0, cells := 0, slots := 0, locals := 0 }) (va_Pc [.ref a_wk, .long p_x] (g5_P G [(a_h, (oc1 e_wa e_le e_st e_fo e_lc a_l a_g a_b a_s a_p a_w e_gb a_bb)), (a_wk, (oc9 a_h a_k a_go a_mt))] sz)) (va_Ql (fun (r : Int64) (u : va_W) => (∃ (o_r : Int64), (r = o_r) ∧ (u = [(a_h, (oc1 e_wa e_le e_st e_fo e_lc a_l a_g a_b a_s a_p a_w e_gb a_bb)), (a_wk, (oc9 a_h a_k a_go a_mt))]))) (g5_B G (va_A [(a_h, (oc1 e_wa e_le e_st e_fo e_lc a_l a_g a_b a_s a_p a_w e_gb a_bb)), (a_wk, (oc9 a_h a_k a_go a_mt))] sz)) (va_A [(a_h, (oc1 e_wa e_le e_st e_fo e_lc a_l a_g a_b a_s a_p a_w e_gb a_bb)), (a_wk, (oc9 a_h a_k a_go a_mt))] sz)) 0 0 (va_A [(a_h, (oc1 e_wa e_le e_st e_fo e_lc a_l a_g a_b a_s a_p a_w e_gb a_bb)), (a_wk, (oc9 a_h a_k a_go a_mt))] sz) := by
  refine Met.ofW (cc := cX9_spread) (maxL := 5) (ret := (some .long)) (by decide) rfl ?_
  intro p e s m args below meth c s₁ B hml hv
  obtain ⟨rfl, hsz, hP, hK, hD0, hN, hT⟩ := hv
  have hx := B.exec
  have hb := B.bytes
  have hr := B.returns
  have hts : ∀ w ∈ tblG, w.before _ s = true := fun w h => atoms_spec (ws := (wsG yX9_spread cX9_spread 5 (some .long))) B.pre w (List.mem_cons_of_mem _ h)
  have hown : s.vm.findClass RX9 = some m.cls := findClass_of_methodNamed B.named
  have hlocks := B.notSynchronized
  subst hsz
  have hD := hD0.self (sz := s.heap.size)
  generalize hAe : va_A [(a_h, (oc1 e_wa e_le e_st e_fo e_lc a_l a_g a_b a_s a_p a_w e_gb a_bb)), (a_wk, (oc9 a_h a_k a_go a_mt))] s.heap.size = A at hD hT ⊢
  have hA : ∀ q : Nat, s.heap.size ≤ q → A q := fun q h => by rw [← hAe]; exact Or.inr h
  have hS : va_S A s.heap s.heap [] := va_S.rf
  have hP : va_P G.1 vwCl [(a_h, (oc1 e_wa e_le e_st e_fo e_lc a_l a_g a_b a_s a_p a_w e_gb a_bb)), (a_wk, (oc9 a_h a_k a_go a_mt))] s.heap := hP
  have hl := lv_entry ([.ref a_wk, .long p_x]) (n := 5) (Nat.le_of_ble_eq_true rfl)
  rw [lg_entry_eq]
  generalize (lg_sl ([.ref a_wk, .long p_x]) ++ List.replicate (5 - (lg_sl ([.ref a_wk, .long p_x])).length) Slot.unset).toArray = ls at hl ⊢
  have hl : lv_has ls 5 [(0, .ref a_wk), (1, .long p_x)] := hl
  refine lv_lload_n hx hb dX9_spread_0 rfl (lv_at hl 1 rfl) ?_
  refine lv_lload_n hx hb dX9_spread_1 rfl (lv_at hl 1 rfl) ?_
  refine lv_bipush (v := 8) hx hb dX9_spread_2 (by decide) ?_
  refine lv_lshl (v := ((p_x : Int64) <<< ((8 : Int32).toInt64 &&& 63))) hx hb dX9_spread_4 rfl ?_
  refine W.eq (g2 := F0 m 5 ls [.long ((p_x : Int64) <<< ((8 : Int32).toInt64 &&& 63)), .long p_x]) rfl ?_
  refine lv_lor hx hb dX9_spread_5 ?_
  refine lv_lload_n hx hb dX9_spread_6 rfl (lv_at hl 1 rfl) ?_
  refine lv_bipush (v := 8) hx hb dX9_spread_7 (by decide) ?_
  refine lv_lushr (v := ((p_x.toUInt64 >>> ((8 : Int32).toInt64.toUInt64 &&& Int64.toUInt64 63)).toInt64)) hx hb dX9_spread_9 rfl ?_
  refine lv_lor hx hb dX9_spread_10 ?_
  refine W.eq (g2 := F0 m 11 ls [.long ((p_x ||| ((p_x : Int64) <<< ((8 : Int32).toInt64 &&& 63))) ||| ((p_x.toUInt64 >>> ((8 : Int32).toInt64.toUInt64 &&& Int64.toUInt64 63)).toInt64))]) rfl ?_
  refine lv_lload_n hx hb dX9_spread_11 rfl (lv_at hl 1 rfl) ?_
  refine lv_ldc2 (v := 9187201950435737471) hx hb hown (hts _ kl_X9_70) dX9_spread_12 ?_
  refine lv_land hx hb dX9_spread_15 ?_
  refine lv_iconst (v := 1) hx hb dX9_spread_16 (by decide) ?_
  refine lv_lshl (v := (((p_x &&& 9187201950435737471) : Int64) <<< ((1 : Int32).toInt64 &&& 63))) hx hb dX9_spread_17 rfl ?_
  refine W.eq (g2 := F0 m 18 ls [.long (((p_x &&& 9187201950435737471) : Int64) <<< ((1 : Int32).toInt64 &&& 63)), .long ((p_x ||| ((p_x : Int64) <<< ((8 : Int32).toInt64 &&& 63))) ||| ((p_x.toUInt64 >>> ((8 : Int32).toInt64.toUInt64 &&& Int64.toUInt64 63)).toInt64))]) rfl ?_
  refine lv_lor hx hb dX9_spread_18 ?_
  refine lv_lload_n hx hb dX9_spread_19 rfl (lv_at hl 1 rfl) ?_
  refine lv_ldc2 (v := (-72340172838076674)) hx hb hown (hts _ kl_X9_72) dX9_spread_20 ?_
  refine lv_land hx hb dX9_spread_23 ?_
  refine lv_iconst (v := 1) hx hb dX9_spread_24 (by decide) ?_
  refine W.eq (g2 := F0 m 25 ls [.int 1, .long (p_x &&& (-72340172838076674)), .long (((p_x ||| ((p_x : Int64) <<< ((8 : Int32).toInt64 &&& 63))) ||| ((p_x.toUInt64 >>> ((8 : Int32).toInt64.toUInt64 &&& Int64.toUInt64 63)).toInt64)) ||| (((p_x &&& 9187201950435737471) : Int64) <<< ((1 : Int32).toInt64 &&& 63)))]) rfl ?_
  refine lv_lushr (v := (((p_x &&& (-72340172838076674)).toUInt64 >>> ((1 : Int32).toInt64.toUInt64 &&& Int64.toUInt64 63)).toInt64)) hx hb dX9_spread_25 rfl ?_
  refine lv_lor hx hb dX9_spread_26 ?_
  refine lv_lstore_n (lv' := [(3, .long ((((p_x ||| ((p_x : Int64) <<< ((8 : Int32).toInt64 &&& 63))) ||| ((p_x.toUInt64 >>> ((8 : Int32).toInt64.toUInt64 &&& Int64.toUInt64 63)).toInt64)) ||| (((p_x &&& 9187201950435737471) : Int64) <<< ((1 : Int32).toInt64 &&& 63))) ||| (((p_x &&& (-72340172838076674)).toUInt64 >>> ((1 : Int32).toInt64.toUInt64 &&& Int64.toUInt64 63)).toInt64))), (0, .ref a_wk), (1, .long p_x)]) hx hb dX9_spread_27 rfl hl (by decide) rfl (fun ls hl => ?_)
  refine lv_lload_n hx hb dX9_spread_28 rfl (lv_at hl 0 rfl) ?_
  refine lv_aload_n hx hb dX9_spread_29 rfl (lv_at hl 1 rfl) ?_
  refine W.eq (g2 := F0 m 30 ls [.ref a_wk, .long ((((p_x ||| ((p_x : Int64) <<< ((8 : Int32).toInt64 &&& 63))) ||| ((p_x.toUInt64 >>> ((8 : Int32).toInt64.toUInt64 &&& Int64.toUInt64 63)).toInt64)) ||| (((p_x &&& 9187201950435737471) : Int64) <<< ((1 : Int32).toInt64 &&& 63))) ||| (((p_x &&& (-72340172838076674)).toUInt64 >>> ((1 : Int32).toInt64.toUInt64 &&& Int64.toUInt64 63)).toInt64))]) rfl ?_
  refine va_get (D := G.1) (ci := 9) (v := .ref a_h) (C := RX9) (T := TX9) (N := 4) hx hb hts inG_X9 hown hK hP 1 rfl rfl 0 (by decide) (hts _ fl_X9_19) (fun _ h9 => h9) rfl dX9_spread_30 ?_
  refine va_get (D := G.1) (ci := 1) (v := .long e_wa) (C := RX1) (T := TX1) (N := 13) hx hb hts inG_X1 hown hK hP 0 rfl rfl 0 (by decide) (hts _ fl_X9_74) (fun _ h9 => h9) rfl dX9_spread_33 ?_
  refine lv_ldc2 (v := (-1)) hx hb hown (hts _ kl_X9_78) dX9_spread_36 ?_
  refine lv_lxor hx hb dX9_spread_39 ?_
  refine lv_land hx hb dX9_spread_40 ?_
  refine W.eq (g2 := F0 m 41 ls [.long (((((p_x ||| ((p_x : Int64) <<< ((8 : Int32).toInt64 &&& 63))) ||| ((p_x.toUInt64 >>> ((8 : Int32).toInt64.toUInt64 &&& Int64.toUInt64 63)).toInt64)) ||| (((p_x &&& 9187201950435737471) : Int64) <<< ((1 : Int32).toInt64 &&& 63))) ||| (((p_x &&& (-72340172838076674)).toUInt64 >>> ((1 : Int32).toInt64.toUInt64 &&& Int64.toUInt64 63)).toInt64)) &&& (e_wa ^^^ (-1)))]) rfl ?_
  exact W.lret (v := (((((p_x ||| ((p_x : Int64) <<< ((8 : Int32).toInt64 &&& 63))) ||| ((p_x.toUInt64 >>> ((8 : Int32).toInt64.toUInt64 &&& Int64.toUInt64 63)).toInt64)) ||| (((p_x &&& 9187201950435737471) : Int64) <<< ((1 : Int32).toInt64 &&& 63))) ||| (((p_x &&& (-72340172838076674)).toUInt64 >>> ((1 : Int32).toInt64.toUInt64 &&& Int64.toUInt64 63)).toInt64)) &&& (e_wa ^^^ (-1)))) hx hb hr (fun t ht hW => ⟨⟨(((((p_x ||| ((p_x : Int64) <<< ((8 : Int32).toInt64 &&& 63))) ||| ((p_x.toUInt64 >>> ((8 : Int32).toInt64.toUInt64 &&& Int64.toUInt64 63)).toInt64)) ||| (((p_x &&& 9187201950435737471) : Int64) <<< ((1 : Int32).toInt64 &&& 63))) ||| (((p_x &&& (-72340172838076674)).toUInt64 >>> ((1 : Int32).toInt64.toUInt64 &&& Int64.toUInt64 63)).toInt64)) &&& (e_wa ^^^ (-1))), [(a_h, (oc1 e_wa e_le e_st e_fo e_lc a_l a_g a_b a_s a_p a_w e_gb a_bb)), (a_wk, (oc9 a_h a_k a_go a_mt))], rfl, ⟨(((((p_x ||| ((p_x : Int64) <<< ((8 : Int32).toInt64 &&& 63))) ||| ((p_x.toUInt64 >>> ((8 : Int32).toInt64.toUInt64 &&& Int64.toUInt64 63)).toInt64)) ||| (((p_x &&& 9187201950435737471) : Int64) <<< ((1 : Int32).toInt64 &&& 63))) ||| (((p_x &&& (-72340172838076674)).toUInt64 >>> ((1 : Int32).toInt64.toUInt64 &&& Int64.toUInt64 63)).toInt64)) &&& (e_wa ^^^ (-1))), rfl, rfl⟩, by rw [ht]; exact hP.sub [0, 1] rfl, hD.sub [0, 1] (by decide) rfl⟩, hS.F ht⟩) hS.2.2 dX9_spread_41
theorem dgX9_isEverIn_0 : ∀ r ∈ ([(0, (.iconst 0, 1)), (1, (.istore_n 3, 1)), (2, (.iload_n 3, 1)), (3, (.iload_n 2, 1)), (4, (.if_icmp .ge 27, 3)), (7, (.aload_n 0, 1)), (8, (.getfield 19, 3)), (11, (.getfield 31, 3)), (14, (.iload_n 1, 1)), (15, (.iload_n 3, 1)), (16, (.invokevirtual 37, 3)), (19, (.iconst (-1), 1)), (20, (.if_icmp .eq 5, 3)), (23, (.iconst 1, 1)), (24, (.ireturn, 1)), (25, (.iinc 3 1, 3)), (28, (.goto (-26), 3)), (31, (.iconst 0, 1)), (32, (.ireturn, 1))] : List (Nat × (Instr × Nat))), decode cX9_isEverIn r.1 = .ok r.2 := by decide +kernel
theorem dX9_isEverIn_0 : decode cX9_isEverIn 0 = .ok (.iconst 0, 1) := dgX9_isEverIn_0 (0, (.iconst 0, 1)) (List.mem_of_getElem? (i := 0) rfl)
theorem dX9_isEverIn_1 : decode cX9_isEverIn 1 = .ok (.istore_n 3, 1) := dgX9_isEverIn_0 (1, (.istore_n 3, 1)) (List.mem_of_getElem? (i := 1) rfl)
theorem dX9_isEverIn_2 : decode cX9_isEverIn 2 = .ok (.iload_n 3, 1) := dgX9_isEverIn_0 (2, (.iload_n 3, 1)) (List.mem_of_getElem? (i := 2) rfl)
theorem dX9_isEverIn_3 : decode cX9_isEverIn 3 = .ok (.iload_n 2, 1) := dgX9_isEverIn_0 (3, (.iload_n 2, 1)) (List.mem_of_getElem? (i := 3) rfl)
theorem dX9_isEverIn_4 : decode cX9_isEverIn 4 = .ok (.if_icmp .ge 27, 3) := dgX9_isEverIn_0 (4, (.if_icmp .ge 27, 3)) (List.mem_of_getElem? (i := 4) rfl)
theorem dX9_isEverIn_7 : decode cX9_isEverIn 7 = .ok (.aload_n 0, 1) := dgX9_isEverIn_0 (7, (.aload_n 0, 1)) (List.mem_of_getElem? (i := 5) rfl)
theorem dX9_isEverIn_8 : decode cX9_isEverIn 8 = .ok (.getfield 19, 3) := dgX9_isEverIn_0 (8, (.getfield 19, 3)) (List.mem_of_getElem? (i := 6) rfl)
theorem dX9_isEverIn_11 : decode cX9_isEverIn 11 = .ok (.getfield 31, 3) := dgX9_isEverIn_0 (11, (.getfield 31, 3)) (List.mem_of_getElem? (i := 7) rfl)
theorem dX9_isEverIn_14 : decode cX9_isEverIn 14 = .ok (.iload_n 1, 1) := dgX9_isEverIn_0 (14, (.iload_n 1, 1)) (List.mem_of_getElem? (i := 8) rfl)
theorem dX9_isEverIn_15 : decode cX9_isEverIn 15 = .ok (.iload_n 3, 1) := dgX9_isEverIn_0 (15, (.iload_n 3, 1)) (List.mem_of_getElem? (i := 9) rfl)
theorem dX9_isEverIn_16 : decode cX9_isEverIn 16 = .ok (.invokevirtual 37, 3) := dgX9_isEverIn_0 (16, (.invokevirtual 37, 3)) (List.mem_of_getElem? (i := 10) rfl)
theorem dX9_isEverIn_19 : decode cX9_isEverIn 19 = .ok (.iconst (-1), 1) := dgX9_isEverIn_0 (19, (.iconst (-1), 1)) (List.mem_of_getElem? (i := 11) rfl)
theorem dX9_isEverIn_20 : decode cX9_isEverIn 20 = .ok (.if_icmp .eq 5, 3) := dgX9_isEverIn_0 (20, (.if_icmp .eq 5, 3)) (List.mem_of_getElem? (i := 12) rfl)
theorem dX9_isEverIn_23 : decode cX9_isEverIn 23 = .ok (.iconst 1, 1) := dgX9_isEverIn_0 (23, (.iconst 1, 1)) (List.mem_of_getElem? (i := 13) rfl)
theorem dX9_isEverIn_24 : decode cX9_isEverIn 24 = .ok (.ireturn, 1) := dgX9_isEverIn_0 (24, (.ireturn, 1)) (List.mem_of_getElem? (i := 14) rfl)
theorem dX9_isEverIn_25 : decode cX9_isEverIn 25 = .ok (.iinc 3 1, 3) := dgX9_isEverIn_0 (25, (.iinc 3 1, 3)) (List.mem_of_getElem? (i := 15) rfl)
theorem dX9_isEverIn_28 : decode cX9_isEverIn 28 = .ok (.goto (-26), 3) := dgX9_isEverIn_0 (28, (.goto (-26), 3)) (List.mem_of_getElem? (i := 16) rfl)
theorem dX9_isEverIn_31 : decode cX9_isEverIn 31 = .ok (.iconst 0, 1) := dgX9_isEverIn_0 (31, (.iconst 0, 1)) (List.mem_of_getElem? (i := 17) rfl)
theorem dX9_isEverIn_32 : decode cX9_isEverIn 32 = .ok (.ireturn, 1) := dgX9_isEverIn_0 (32, (.ireturn, 1)) (List.mem_of_getElem? (i := 18) rfl)
theorem fl_X9_31 : Cond.fieldLink RX9 31 "LateGlass$House" "bodies" "LLateGlass$Table;" ∈ tblG := tg 175 (by decide +kernel) (by decide +kernel)
theorem ml_X9_37 : Cond.methodLink RX9 37 yX6_get ∈ tblG := tg 1109 (by decide +kernel) (by decide +kernel)
theorem gV_X9_37 : GoodIn tblG (wsV RX9 37 RX6 yX6_get (wsG yX6_get cX6_get 3 (some .int))) := tgV ml_X9_37 im_X6_get se_X6_get ini_X6 gW_X6_get
set_option maxHeartbeats 4000000 in
set_option maxRecDepth 100000 in
theorem a_isEverIn (l : Launch) (G : g5_G) (a_h a_b a_bn a_wk a_l a_g a_s a_p a_w a_bb a_k a_go a_mt : Nat) (sz : Nat) (e_le : Int32) (e_st : Int32) (e_fo : Int32) (e_lc : Int32) (e_b : Int32) (p_b : Int32) (p_n : Int32) (e_wa : Int64) (e_gb : Int64) (f_b : Nat → Int32) (h_e_b : 0 ≤ e_b.toInt ∧ e_b.toInt ≤ 5) (h_p_n : 0 ≤ p_n.toInt ∧ p_n.toInt ≤ 24) : Met l yX9_isEverIn (wsG yX9_isEverIn cX9_isEverIn 4 (some .boolean)) ({ frames := 1, cells := 0, slots := 0, locals := 22 }) (va_Pc [.ref a_wk, .int p_b, .int p_n] (g5_P G [(a_h, (oc1 e_wa e_le e_st e_fo e_lc a_l a_g a_b a_s a_p a_w e_gb a_bb)), (a_b, (oc6 5 24 a_bn e_b)), (a_bn, (arI G 120 f_b)), (a_wk, (oc9 a_h a_k a_go a_mt))] sz)) (va_Qi (fun (r : Int32) (u : va_W) => (∃ (o_r : Int32), (0 ≤ o_r.toInt ∧ o_r.toInt ≤ 1) ∧ (r = o_r) ∧ (u = [(a_h, (oc1 e_wa e_le e_st e_fo e_lc a_l a_g a_b a_s a_p a_w e_gb a_bb)), (a_b, (oc6 5 24 a_bn e_b)), (a_bn, (arI G 120 f_b)), (a_wk, (oc9 a_h a_k a_go a_mt))]))) (g5_B G (va_A [(a_h, (oc1 e_wa e_le e_st e_fo e_lc a_l a_g a_b a_s a_p a_w e_gb a_bb)), (a_b, (oc6 5 24 a_bn e_b)), (a_bn, (arI G 120 f_b)), (a_wk, (oc9 a_h a_k a_go a_mt))] sz)) (va_A [(a_h, (oc1 e_wa e_le e_st e_fo e_lc a_l a_g a_b a_s a_p a_w e_gb a_bb)), (a_b, (oc6 5 24 a_bn e_b)), (a_bn, (arI G 120 f_b)), (a_wk, (oc9 a_h a_k a_go a_mt))] sz)) 0 0 (va_A [(a_h, (oc1 e_wa e_le e_st e_fo e_lc a_l a_g a_b a_s a_p a_w e_gb a_bb)), (a_b, (oc6 5 24 a_bn e_b)), (a_bn, (arI G 120 f_b)), (a_wk, (oc9 a_h a_k a_go a_mt))] sz) := by
  refine Met.ofW (cc := cX9_isEverIn) (maxL := 4) (ret := (some .boolean)) (by decide +kernel) rfl ?_
  intro p e s m args below meth c s₁ B hml hv
  obtain ⟨rfl, hsz, hP, hK, hD0, hN, hT⟩ := hv
  have hx := B.exec
  have hb := B.bytes
  have hr := B.returns
  have hts : ∀ w ∈ tblG, w.before _ s = true := fun w h => atoms_spec (ws := (wsG yX9_isEverIn cX9_isEverIn 4 (some .boolean))) B.pre w (List.mem_cons_of_mem _ h)
  have hown : s.vm.findClass RX9 = some m.cls := findClass_of_methodNamed B.named
  have hlocks := B.notSynchronized
  subst hsz
  have hD := hD0.self (sz := s.heap.size)
  generalize hAe : va_A [(a_h, (oc1 e_wa e_le e_st e_fo e_lc a_l a_g a_b a_s a_p a_w e_gb a_bb)), (a_b, (oc6 5 24 a_bn e_b)), (a_bn, (arI G 120 f_b)), (a_wk, (oc9 a_h a_k a_go a_mt))] s.heap.size = A at hD hT ⊢
  have hA : ∀ q : Nat, s.heap.size ≤ q → A q := fun q h => by rw [← hAe]; exact Or.inr h
  have hS : va_S A s.heap s.heap [] := va_S.rf
  replace hP : va_P G.1 vwCl [(a_h, (oc1 e_wa e_le e_st e_fo e_lc a_l a_g a_b a_s a_p a_w e_gb a_bb)), (a_b, (oc6 5 24 a_bn e_b)), (a_bn, (arI G 120 f_b)), (a_wk, (oc9 a_h a_k a_go a_mt))] s.heap := hP
  have hl := lv_entry ([.ref a_wk, .int p_b, .int p_n]) (n := 4) (Nat.le_of_ble_eq_true rfl)
  rw [lg_entry_eq]
  generalize (lg_sl ([.ref a_wk, .int p_b, .int p_n]) ++ List.replicate (4 - (lg_sl ([.ref a_wk, .int p_b, .int p_n])).length) Slot.unset).toArray = ls at hl ⊢
  replace hl : lv_has ls 4 [(0, .ref a_wk), (1, .int p_b), (2, .int p_n)] := hl
  refine lv_iconst (v := 0) hx hb dX9_isEverIn_0 (by decide +kernel) ?_
  refine lv_istore_n (lv' := [(3, .int 0), (0, .ref a_wk), (1, .int p_b), (2, .int p_n)]) hx hb dX9_isEverIn_1 rfl hl (by decide +kernel) rfl ?_
  clear hl
  intro ls hl
  refine g5_loop (α := (Int32)) (fun (k_i : (Int32)) (ls : Array Slot) (H : Heap) (locs : List Loc) => lv_has ls 4 [(3, .int k_i), (0, .ref a_wk), (1, .int p_b), (2, .int p_n)] ∧ va_P G.1 vwCl [(a_h, (oc1 e_wa e_le e_st e_fo e_lc a_l a_g a_b a_s a_p a_w e_gb a_bb)), (a_b, (oc6 5 24 a_bn e_b)), (a_bn, (arI G 120 f_b)), (a_wk, (oc9 a_h a_k a_go a_mt))] H ∧ va_D A [(a_h, (oc1 e_wa e_le e_st e_fo e_lc a_l a_g a_b a_s a_p a_w e_gb a_bb)), (a_b, (oc6 5 24 a_bn e_b)), (a_bn, (arI G 120 f_b)), (a_wk, (oc9 a_h a_k a_go a_mt))] ∧ va_S A s.heap H locs ∧ (0 ≤ k_i.toInt ∧ k_i.toInt ≤ 24)) (fun (k_i : (Int32)) => Int.toNat (24 - k_i.toInt)) 0 ⟨lv_sub hl [0, 1, 2, 3] rfl, hP, hD, hS, ⟨by decide, by decide⟩⟩ ?_
  rintro k_i ls H locs ⟨hl, hP, hD, hS, (i_1 : 0 ≤ k_i.toInt ∧ k_i.toInt ≤ 24)⟩ ih_2_2
  replace hl : lv_has ls 4 [(3, .int k_i), (0, .ref a_wk), (1, .int p_b), (2, .int p_n)] := hl
  refine g5_rs [(a_h, (oc1 e_wa e_le e_st e_fo e_lc a_l a_g a_b a_s a_p a_w e_gb a_bb)), (a_b, (oc6 5 24 a_bn e_b)), (a_bn, (arI G 120 f_b)), (a_wk, (oc9 a_h a_k a_go a_mt))] hP hD ?_
  clear hP hD
  intro hP hD
  refine lv_iload_n hx hb dX9_isEverIn_2 rfl (lv_at hl 0 rfl) ?_
  refine lv_iload_n hx hb dX9_isEverIn_3 rfl (lv_at hl 3 rfl) ?_
  refine lv_icmp_ge (tgt := 31) hx hb dX9_isEverIn_4 (by decide +kernel) (fun c_3 => ?_) (fun c_3 => ?_)
  ·
    have i_3 : k_i.toInt ≥ p_n.toInt := g5_ge (a := k_i.toInt) (b := p_n.toInt) rfl rfl c_3
    refine lv_iconst (v := 0) hx hb dX9_isEverIn_31 (by decide +kernel) ?_
    exact W.zret (v := 0) hx hb hr rfl (fun t ht hW => ⟨⟨0, [(a_h, (oc1 e_wa e_le e_st e_fo e_lc a_l a_g a_b a_s a_p a_w e_gb a_bb)), (a_b, (oc6 5 24 a_bn e_b)), (a_bn, (arI G 120 f_b)), (a_wk, (oc9 a_h a_k a_go a_mt))], rfl, ⟨0, ⟨by have zc_o_r : (0 : Int32).toInt = 0 := (by decide +kernel); omega, by have zc_o_r : (0 : Int32).toInt = 0 := (by decide +kernel); omega⟩, rfl, rfl⟩, by rw [ht]; exact hP.sub [0, 1, 2, 3] rfl, hD.sub [0, 1, 2, 3] (by decide +kernel) rfl⟩, hS.F ht⟩) hS.2.2 dX9_isEverIn_32
  ·
    have i_3 : k_i.toInt < p_n.toInt := g5_geN (a := k_i.toInt) (b := p_n.toInt) rfl rfl c_3
    refine lv_aload_n hx hb dX9_isEverIn_7 rfl (lv_at hl 1 rfl) ?_
    refine va_get (D := G.1) (ci := 9) (v := .ref a_h) (C := RX9) (T := TX9) (N := 4) hx hb hts inG_X9 hown hK hP 3 rfl rfl 0 (by decide +kernel) (hts _ fl_X9_19) (fun _ h9 => h9) rfl dX9_isEverIn_8 ?_
    refine va_get (D := G.1) (ci := 1) (v := .ref a_b) (C := RX1) (T := TX1) (N := 13) hx hb hts inG_X1 hown hK hP 0 rfl rfl 7 (by decide +kernel) (hts _ fl_X9_31) (fun _ h9 => h9) rfl dX9_isEverIn_11 ?_
    refine lv_iload_n hx hb dX9_isEverIn_14 rfl (lv_at hl 2 rfl) ?_
    refine W.eq (g2 := F0 m 15 ls [.int p_b, .ref a_b]) rfl ?_
    refine lv_iload_n hx hb dX9_isEverIn_15 rfl (lv_at hl 0 rfl) ?_
    obtain ⟨hPc, hDc, hFc⟩ := g5_sub3 (wc := [(a_b, (oc6 5 24 a_bn e_b)), (a_bn, (arI G 120 f_b))]) hP hD hS hA [1, 2] (by decide +kernel) rfl
    refine va_calli (va_runV (As := [.int p_b, .int k_i]) (rest := []) ⟨hx, hb, hml, hown, hts⟩ (t_get_B l G a_b a_bn H.size e_b p_b k_i f_b h_e_b) (cwV 2 hts gV_X9_37 rfl rfl rfl hv_X6_get ⟨Nat.le_of_ble_eq_true rfl, Nat.le_of_ble_eq_true rfl⟩) (g5_preV hPc hK hDc hN hT hS hFc (ci := 6) (q0 := 0) rfl rfl) rfl rfl hl.1 rfl (lv_room (Nat.le_of_ble_eq_true rfl)) dX9_isEverIn_16 ⟨Nat.le_of_ble_eq_true rfl, Nat.le_of_ble_eq_true rfl⟩) hS (fun q _ h => hFc q h) hFc (fun r u t H locs ht hvm hw hB hz1 hk1 hS => ?_)
    obtain ⟨hP1, hD1⟩ := hB
    have hP1 := g5_ht ht hP1
    obtain ⟨z5, (i_4 : z5 = tget f_b e_b.toInt 24 p_b.toInt k_i.toInt), y6, rfl⟩ := hw
    have hJ9 := va_join (wr := [(a_h, (oc1 e_wa e_le e_st e_fo e_lc a_l a_g a_b a_s a_p a_w e_gb a_bb)), (a_wk, (oc9 a_h a_k a_go a_mt))]) hP hD [1, 2] [0, 3] rfl rfl (by decide +kernel) (by decide +kernel) hk1 hFc hP1 hD1
    clear hP hD hPc hDc hFc ht hvm hz1 hk1 hP1 hD1
    obtain ⟨hP, hD⟩ := hJ9
    refine g5_rs [(a_h, (oc1 e_wa e_le e_st e_fo e_lc a_l a_g a_b a_s a_p a_w e_gb a_bb)), (a_wk, (oc9 a_h a_k a_go a_mt)), (a_b, (oc6 5 24 a_bn e_b)), (a_bn, (arI G 120 f_b))] hP hD ?_
    clear hP hD
    intro hP hD
    refine g5_ti (v := z5) y6 ?_
    refine lv_iconst (v := (-1)) hx hb dX9_isEverIn_19 (by decide +kernel) ?_
    refine lv_icmp_eq (tgt := 25) hx hb dX9_isEverIn_20 (by decide +kernel) (fun c_7 => ?_) (fun c_7 => ?_)
    ·
      have i_7 : z5.toInt = (-1) := g5_eq (a := z5.toInt) (b := (-1)) rfl (by decide +kernel) c_7
      refine lv_iinc (v := (k_i + 1)) (lv' := [(3, .int (k_i + 1)), (0, .ref a_wk), (1, .int p_b), (2, .int p_n)]) hx hb dX9_isEverIn_25 hl (k := 0) rfl rfl (by decide +kernel) rfl ?_
      clear hl
      intro ls hl
      have t_8 : (k_i + 1).toInt = k_i.toInt + 1 := g5_iadd (a := k_i.toInt) (b := 1) rfl (by decide +kernel) (by omega) (by omega)
      refine lv_goto (tgt := 2) hx hb dX9_isEverIn_28 (by decide +kernel) ?_
      exact ih_2_2 (k_i + 1) ls H locs (show Int.toNat (24 - (k_i + 1).toInt) < Int.toNat (24 - k_i.toInt) from g_up (show k_i.toInt < (k_i + 1).toInt by omega) (show k_i.toInt < 24 by omega)) ⟨lv_sub hl [0, 1, 2, 3] rfl, hP.sub [0, 2, 3, 1] rfl, hD.sub [0, 2, 3, 1] (by decide +kernel) rfl, hS, ⟨by omega, by omega⟩⟩
    ·
      have n_7 : gNe (z5.toInt) ((-1)) := g5_eqN (a := z5.toInt) (b := (-1)) rfl (by decide +kernel) c_7
      refine lv_iconst (v := 1) hx hb dX9_isEverIn_23 (by decide +kernel) ?_
      exact W.zret (v := 1) hx hb hr rfl (fun t ht hW => ⟨⟨1, [(a_h, (oc1 e_wa e_le e_st e_fo e_lc a_l a_g a_b a_s a_p a_w e_gb a_bb)), (a_b, (oc6 5 24 a_bn e_b)), (a_bn, (arI G 120 f_b)), (a_wk, (oc9 a_h a_k a_go a_mt))], rfl, ⟨1, ⟨by have zc_o_r : (1 : Int32).toInt = 1 := (by decide +kernel); omega, by have zc_o_r : (1 : Int32).toInt = 1 := (by decide +kernel); omega⟩, rfl, rfl⟩, by rw [ht]; exact hP.sub [0, 2, 3, 1] rfl, hD.sub [0, 2, 3, 1] (by decide +kernel) rfl⟩, hS.F ht⟩) hS.2.2 dX9_isEverIn_24
theorem dgX9_firstSight_0 : ∀ r ∈ ([(0, (.lconst 1, 1)), (1, (.iload_n 2, 1)), (2, (.lshl, 1)), (3, (.lstore 5, 2)), (5, (.aload_n 0, 1)), (6, (.iload_n 1, 1)), (7, (.iload_n 3, 1)), (8, (.invokevirtual 27, 3)), (11, (.istore 7, 2)), (13, (.iload_n 3, 1)), (14, (.istore 8, 2)), (16, (.iload 8, 2)), (18, (.iload 4, 2)), (20, (.if_icmp .ge 168, 3)), (23, (.iload 7, 2)), (25, (.ifCond .ne 20, 3)), (28, (.aload_n 0, 1)), (29, (.getfield 19, 3)), (32, (.getfield 31, 3)), (35, (.iload_n 1, 1)), (36, (.iload 8, 2)), (38, (.invokevirtual 37, 3)), (41, (.iconst (-1), 1)), (42, (.if_icmp .eq 7, 3)), (45, (.iconst 1, 1)), (46, (.goto 4, 3)), (49, (.iconst 0, 1)), (50, (.istore 7, 2)), (52, (.lconst 0, 1)), (53, (.lstore 9, 2)), (55, (.iconst 0, 1)), (56, (.istore 11, 2)), (58, (.iload 11, 2)), (60, (.bipush 64, 2)), (62, (.if_icmp .ge 93, 3)), (65, (.iload 7, 2)), (67, (.ifCond .eq 32, 3)), (70, (.lload 5, 2)), (72, (.iload 11, 2)), (74, (.invokestatic 43, 3))] : List (Nat × (Instr × Nat))), decode cX9_firstSight r.1 = .ok r.2 := by decide +kernel
theorem dX9_firstSight_0 : decode cX9_firstSight 0 = .ok (.lconst 1, 1) := dgX9_firstSight_0 (0, (.lconst 1, 1)) (List.mem_of_getElem? (i := 0) rfl)
theorem dX9_firstSight_1 : decode cX9_firstSight 1 = .ok (.iload_n 2, 1) := dgX9_firstSight_0 (1, (.iload_n 2, 1)) (List.mem_of_getElem? (i := 1) rfl)
theorem dX9_firstSight_2 : decode cX9_firstSight 2 = .ok (.lshl, 1) := dgX9_firstSight_0 (2, (.lshl, 1)) (List.mem_of_getElem? (i := 2) rfl)
theorem dX9_firstSight_3 : decode cX9_firstSight 3 = .ok (.lstore 5, 2) := dgX9_firstSight_0 (3, (.lstore 5, 2)) (List.mem_of_getElem? (i := 3) rfl)
theorem dX9_firstSight_5 : decode cX9_firstSight 5 = .ok (.aload_n 0, 1) := dgX9_firstSight_0 (5, (.aload_n 0, 1)) (List.mem_of_getElem? (i := 4) rfl)
theorem dX9_firstSight_6 : decode cX9_firstSight 6 = .ok (.iload_n 1, 1) := dgX9_firstSight_0 (6, (.iload_n 1, 1)) (List.mem_of_getElem? (i := 5) rfl)
theorem dX9_firstSight_7 : decode cX9_firstSight 7 = .ok (.iload_n 3, 1) := dgX9_firstSight_0 (7, (.iload_n 3, 1)) (List.mem_of_getElem? (i := 6) rfl)
theorem dX9_firstSight_8 : decode cX9_firstSight 8 = .ok (.invokevirtual 27, 3) := dgX9_firstSight_0 (8, (.invokevirtual 27, 3)) (List.mem_of_getElem? (i := 7) rfl)
theorem dX9_firstSight_11 : decode cX9_firstSight 11 = .ok (.istore 7, 2) := dgX9_firstSight_0 (11, (.istore 7, 2)) (List.mem_of_getElem? (i := 8) rfl)
theorem dX9_firstSight_13 : decode cX9_firstSight 13 = .ok (.iload_n 3, 1) := dgX9_firstSight_0 (13, (.iload_n 3, 1)) (List.mem_of_getElem? (i := 9) rfl)
theorem dX9_firstSight_14 : decode cX9_firstSight 14 = .ok (.istore 8, 2) := dgX9_firstSight_0 (14, (.istore 8, 2)) (List.mem_of_getElem? (i := 10) rfl)
theorem dX9_firstSight_16 : decode cX9_firstSight 16 = .ok (.iload 8, 2) := dgX9_firstSight_0 (16, (.iload 8, 2)) (List.mem_of_getElem? (i := 11) rfl)
theorem dX9_firstSight_18 : decode cX9_firstSight 18 = .ok (.iload 4, 2) := dgX9_firstSight_0 (18, (.iload 4, 2)) (List.mem_of_getElem? (i := 12) rfl)
theorem dX9_firstSight_20 : decode cX9_firstSight 20 = .ok (.if_icmp .ge 168, 3) := dgX9_firstSight_0 (20, (.if_icmp .ge 168, 3)) (List.mem_of_getElem? (i := 13) rfl)
theorem dX9_firstSight_23 : decode cX9_firstSight 23 = .ok (.iload 7, 2) := dgX9_firstSight_0 (23, (.iload 7, 2)) (List.mem_of_getElem? (i := 14) rfl)
theorem dX9_firstSight_25 : decode cX9_firstSight 25 = .ok (.ifCond .ne 20, 3) := dgX9_firstSight_0 (25, (.ifCond .ne 20, 3)) (List.mem_of_getElem? (i := 15) rfl)
theorem dX9_firstSight_28 : decode cX9_firstSight 28 = .ok (.aload_n 0, 1) := dgX9_firstSight_0 (28, (.aload_n 0, 1)) (List.mem_of_getElem? (i := 16) rfl)
theorem dX9_firstSight_29 : decode cX9_firstSight 29 = .ok (.getfield 19, 3) := dgX9_firstSight_0 (29, (.getfield 19, 3)) (List.mem_of_getElem? (i := 17) rfl)
theorem dX9_firstSight_32 : decode cX9_firstSight 32 = .ok (.getfield 31, 3) := dgX9_firstSight_0 (32, (.getfield 31, 3)) (List.mem_of_getElem? (i := 18) rfl)
theorem dX9_firstSight_35 : decode cX9_firstSight 35 = .ok (.iload_n 1, 1) := dgX9_firstSight_0 (35, (.iload_n 1, 1)) (List.mem_of_getElem? (i := 19) rfl)
theorem dX9_firstSight_36 : decode cX9_firstSight 36 = .ok (.iload 8, 2) := dgX9_firstSight_0 (36, (.iload 8, 2)) (List.mem_of_getElem? (i := 20) rfl)
theorem dX9_firstSight_38 : decode cX9_firstSight 38 = .ok (.invokevirtual 37, 3) := dgX9_firstSight_0 (38, (.invokevirtual 37, 3)) (List.mem_of_getElem? (i := 21) rfl)
theorem dX9_firstSight_41 : decode cX9_firstSight 41 = .ok (.iconst (-1), 1) := dgX9_firstSight_0 (41, (.iconst (-1), 1)) (List.mem_of_getElem? (i := 22) rfl)
theorem dX9_firstSight_42 : decode cX9_firstSight 42 = .ok (.if_icmp .eq 7, 3) := dgX9_firstSight_0 (42, (.if_icmp .eq 7, 3)) (List.mem_of_getElem? (i := 23) rfl)
theorem dX9_firstSight_45 : decode cX9_firstSight 45 = .ok (.iconst 1, 1) := dgX9_firstSight_0 (45, (.iconst 1, 1)) (List.mem_of_getElem? (i := 24) rfl)
theorem dX9_firstSight_46 : decode cX9_firstSight 46 = .ok (.goto 4, 3) := dgX9_firstSight_0 (46, (.goto 4, 3)) (List.mem_of_getElem? (i := 25) rfl)
theorem dX9_firstSight_49 : decode cX9_firstSight 49 = .ok (.iconst 0, 1) := dgX9_firstSight_0 (49, (.iconst 0, 1)) (List.mem_of_getElem? (i := 26) rfl)
theorem dX9_firstSight_50 : decode cX9_firstSight 50 = .ok (.istore 7, 2) := dgX9_firstSight_0 (50, (.istore 7, 2)) (List.mem_of_getElem? (i := 27) rfl)
theorem dX9_firstSight_52 : decode cX9_firstSight 52 = .ok (.lconst 0, 1) := dgX9_firstSight_0 (52, (.lconst 0, 1)) (List.mem_of_getElem? (i := 28) rfl)
theorem dX9_firstSight_53 : decode cX9_firstSight 53 = .ok (.lstore 9, 2) := dgX9_firstSight_0 (53, (.lstore 9, 2)) (List.mem_of_getElem? (i := 29) rfl)
theorem dX9_firstSight_55 : decode cX9_firstSight 55 = .ok (.iconst 0, 1) := dgX9_firstSight_0 (55, (.iconst 0, 1)) (List.mem_of_getElem? (i := 30) rfl)
theorem dX9_firstSight_56 : decode cX9_firstSight 56 = .ok (.istore 11, 2) := dgX9_firstSight_0 (56, (.istore 11, 2)) (List.mem_of_getElem? (i := 31) rfl)
theorem dX9_firstSight_58 : decode cX9_firstSight 58 = .ok (.iload 11, 2) := dgX9_firstSight_0 (58, (.iload 11, 2)) (List.mem_of_getElem? (i := 32) rfl)
theorem dX9_firstSight_60 : decode cX9_firstSight 60 = .ok (.bipush 64, 2) := dgX9_firstSight_0 (60, (.bipush 64, 2)) (List.mem_of_getElem? (i := 33) rfl)
theorem dX9_firstSight_62 : decode cX9_firstSight 62 = .ok (.if_icmp .ge 93, 3) := dgX9_firstSight_0 (62, (.if_icmp .ge 93, 3)) (List.mem_of_getElem? (i := 34) rfl)
theorem dX9_firstSight_65 : decode cX9_firstSight 65 = .ok (.iload 7, 2) := dgX9_firstSight_0 (65, (.iload 7, 2)) (List.mem_of_getElem? (i := 35) rfl)
theorem dX9_firstSight_67 : decode cX9_firstSight 67 = .ok (.ifCond .eq 32, 3) := dgX9_firstSight_0 (67, (.ifCond .eq 32, 3)) (List.mem_of_getElem? (i := 36) rfl)
theorem dX9_firstSight_70 : decode cX9_firstSight 70 = .ok (.lload 5, 2) := dgX9_firstSight_0 (70, (.lload 5, 2)) (List.mem_of_getElem? (i := 37) rfl)
theorem dX9_firstSight_72 : decode cX9_firstSight 72 = .ok (.iload 11, 2) := dgX9_firstSight_0 (72, (.iload 11, 2)) (List.mem_of_getElem? (i := 38) rfl)
theorem dX9_firstSight_74 : decode cX9_firstSight 74 = .ok (.invokestatic 43, 3) := dgX9_firstSight_0 (74, (.invokestatic 43, 3)) (List.mem_of_getElem? (i := 39) rfl)
theorem dgX9_firstSight_1 : ∀ r ∈ ([(77, (.ifCond .eq 22, 3)), (80, (.aload_n 0, 1)), (81, (.getfield 23, 3)), (84, (.iload_n 1, 1)), (85, (.iload 11, 2)), (87, (.iload 8, 2)), (89, (.invokevirtual 47, 3)), (92, (.ifCond .eq 7, 3)), (95, (.iconst 1, 1)), (96, (.goto 4, 3)), (99, (.iconst 0, 1)), (100, (.istore 12, 2)), (102, (.lload 9, 2)), (104, (.iload 12, 2)), (106, (.ifCond .eq 10, 3)), (109, (.lconst 1, 1)), (110, (.iload 11, 2)), (112, (.lshl, 1)), (113, (.goto 4, 3)), (116, (.lconst 0, 1)), (117, (.lor, 1)), (118, (.lstore 9, 2)), (120, (.aload_n 0, 1)), (121, (.getfield 15, 3)), (124, (.iload 8, 2)), (126, (.bipush 64, 2)), (128, (.imul, 1)), (129, (.iload 11, 2)), (131, (.iadd, 1)), (132, (.iload 7, 2)), (134, (.ifCond .eq 13, 3)), (137, (.aload_n 0, 1)), (138, (.getfield 23, 3)), (141, (.getfield 53, 3)), (144, (.goto 4, 3)), (147, (.iconst 0, 1)), (148, (.iastore, 1)), (149, (.iinc 11 1, 3)), (152, (.goto (-94), 3)), (155, (.aload_n 0, 1))] : List (Nat × (Instr × Nat))), decode cX9_firstSight r.1 = .ok r.2 := by decide +kernel
theorem dX9_firstSight_77 : decode cX9_firstSight 77 = .ok (.ifCond .eq 22, 3) := dgX9_firstSight_1 (77, (.ifCond .eq 22, 3)) (List.mem_of_getElem? (i := 0) rfl)
theorem dX9_firstSight_80 : decode cX9_firstSight 80 = .ok (.aload_n 0, 1) := dgX9_firstSight_1 (80, (.aload_n 0, 1)) (List.mem_of_getElem? (i := 1) rfl)
theorem dX9_firstSight_81 : decode cX9_firstSight 81 = .ok (.getfield 23, 3) := dgX9_firstSight_1 (81, (.getfield 23, 3)) (List.mem_of_getElem? (i := 2) rfl)
theorem dX9_firstSight_84 : decode cX9_firstSight 84 = .ok (.iload_n 1, 1) := dgX9_firstSight_1 (84, (.iload_n 1, 1)) (List.mem_of_getElem? (i := 3) rfl)
theorem dX9_firstSight_85 : decode cX9_firstSight 85 = .ok (.iload 11, 2) := dgX9_firstSight_1 (85, (.iload 11, 2)) (List.mem_of_getElem? (i := 4) rfl)
theorem dX9_firstSight_87 : decode cX9_firstSight 87 = .ok (.iload 8, 2) := dgX9_firstSight_1 (87, (.iload 8, 2)) (List.mem_of_getElem? (i := 5) rfl)
theorem dX9_firstSight_89 : decode cX9_firstSight 89 = .ok (.invokevirtual 47, 3) := dgX9_firstSight_1 (89, (.invokevirtual 47, 3)) (List.mem_of_getElem? (i := 6) rfl)
theorem dX9_firstSight_92 : decode cX9_firstSight 92 = .ok (.ifCond .eq 7, 3) := dgX9_firstSight_1 (92, (.ifCond .eq 7, 3)) (List.mem_of_getElem? (i := 7) rfl)
theorem dX9_firstSight_95 : decode cX9_firstSight 95 = .ok (.iconst 1, 1) := dgX9_firstSight_1 (95, (.iconst 1, 1)) (List.mem_of_getElem? (i := 8) rfl)
theorem dX9_firstSight_96 : decode cX9_firstSight 96 = .ok (.goto 4, 3) := dgX9_firstSight_1 (96, (.goto 4, 3)) (List.mem_of_getElem? (i := 9) rfl)
theorem dX9_firstSight_99 : decode cX9_firstSight 99 = .ok (.iconst 0, 1) := dgX9_firstSight_1 (99, (.iconst 0, 1)) (List.mem_of_getElem? (i := 10) rfl)
theorem dX9_firstSight_100 : decode cX9_firstSight 100 = .ok (.istore 12, 2) := dgX9_firstSight_1 (100, (.istore 12, 2)) (List.mem_of_getElem? (i := 11) rfl)
theorem dX9_firstSight_102 : decode cX9_firstSight 102 = .ok (.lload 9, 2) := dgX9_firstSight_1 (102, (.lload 9, 2)) (List.mem_of_getElem? (i := 12) rfl)
theorem dX9_firstSight_104 : decode cX9_firstSight 104 = .ok (.iload 12, 2) := dgX9_firstSight_1 (104, (.iload 12, 2)) (List.mem_of_getElem? (i := 13) rfl)
theorem dX9_firstSight_106 : decode cX9_firstSight 106 = .ok (.ifCond .eq 10, 3) := dgX9_firstSight_1 (106, (.ifCond .eq 10, 3)) (List.mem_of_getElem? (i := 14) rfl)
theorem dX9_firstSight_109 : decode cX9_firstSight 109 = .ok (.lconst 1, 1) := dgX9_firstSight_1 (109, (.lconst 1, 1)) (List.mem_of_getElem? (i := 15) rfl)
theorem dX9_firstSight_110 : decode cX9_firstSight 110 = .ok (.iload 11, 2) := dgX9_firstSight_1 (110, (.iload 11, 2)) (List.mem_of_getElem? (i := 16) rfl)
theorem dX9_firstSight_112 : decode cX9_firstSight 112 = .ok (.lshl, 1) := dgX9_firstSight_1 (112, (.lshl, 1)) (List.mem_of_getElem? (i := 17) rfl)
theorem dX9_firstSight_113 : decode cX9_firstSight 113 = .ok (.goto 4, 3) := dgX9_firstSight_1 (113, (.goto 4, 3)) (List.mem_of_getElem? (i := 18) rfl)
theorem dX9_firstSight_116 : decode cX9_firstSight 116 = .ok (.lconst 0, 1) := dgX9_firstSight_1 (116, (.lconst 0, 1)) (List.mem_of_getElem? (i := 19) rfl)
theorem dX9_firstSight_117 : decode cX9_firstSight 117 = .ok (.lor, 1) := dgX9_firstSight_1 (117, (.lor, 1)) (List.mem_of_getElem? (i := 20) rfl)
theorem dX9_firstSight_118 : decode cX9_firstSight 118 = .ok (.lstore 9, 2) := dgX9_firstSight_1 (118, (.lstore 9, 2)) (List.mem_of_getElem? (i := 21) rfl)
theorem dX9_firstSight_120 : decode cX9_firstSight 120 = .ok (.aload_n 0, 1) := dgX9_firstSight_1 (120, (.aload_n 0, 1)) (List.mem_of_getElem? (i := 22) rfl)
theorem dX9_firstSight_121 : decode cX9_firstSight 121 = .ok (.getfield 15, 3) := dgX9_firstSight_1 (121, (.getfield 15, 3)) (List.mem_of_getElem? (i := 23) rfl)
theorem dX9_firstSight_124 : decode cX9_firstSight 124 = .ok (.iload 8, 2) := dgX9_firstSight_1 (124, (.iload 8, 2)) (List.mem_of_getElem? (i := 24) rfl)
theorem dX9_firstSight_126 : decode cX9_firstSight 126 = .ok (.bipush 64, 2) := dgX9_firstSight_1 (126, (.bipush 64, 2)) (List.mem_of_getElem? (i := 25) rfl)
theorem dX9_firstSight_128 : decode cX9_firstSight 128 = .ok (.imul, 1) := dgX9_firstSight_1 (128, (.imul, 1)) (List.mem_of_getElem? (i := 26) rfl)
theorem dX9_firstSight_129 : decode cX9_firstSight 129 = .ok (.iload 11, 2) := dgX9_firstSight_1 (129, (.iload 11, 2)) (List.mem_of_getElem? (i := 27) rfl)
theorem dX9_firstSight_131 : decode cX9_firstSight 131 = .ok (.iadd, 1) := dgX9_firstSight_1 (131, (.iadd, 1)) (List.mem_of_getElem? (i := 28) rfl)
theorem dX9_firstSight_132 : decode cX9_firstSight 132 = .ok (.iload 7, 2) := dgX9_firstSight_1 (132, (.iload 7, 2)) (List.mem_of_getElem? (i := 29) rfl)
theorem dX9_firstSight_134 : decode cX9_firstSight 134 = .ok (.ifCond .eq 13, 3) := dgX9_firstSight_1 (134, (.ifCond .eq 13, 3)) (List.mem_of_getElem? (i := 30) rfl)
theorem dX9_firstSight_137 : decode cX9_firstSight 137 = .ok (.aload_n 0, 1) := dgX9_firstSight_1 (137, (.aload_n 0, 1)) (List.mem_of_getElem? (i := 31) rfl)
theorem dX9_firstSight_138 : decode cX9_firstSight 138 = .ok (.getfield 23, 3) := dgX9_firstSight_1 (138, (.getfield 23, 3)) (List.mem_of_getElem? (i := 32) rfl)
theorem dX9_firstSight_141 : decode cX9_firstSight 141 = .ok (.getfield 53, 3) := dgX9_firstSight_1 (141, (.getfield 53, 3)) (List.mem_of_getElem? (i := 33) rfl)
theorem dX9_firstSight_144 : decode cX9_firstSight 144 = .ok (.goto 4, 3) := dgX9_firstSight_1 (144, (.goto 4, 3)) (List.mem_of_getElem? (i := 34) rfl)
theorem dX9_firstSight_147 : decode cX9_firstSight 147 = .ok (.iconst 0, 1) := dgX9_firstSight_1 (147, (.iconst 0, 1)) (List.mem_of_getElem? (i := 35) rfl)
theorem dX9_firstSight_148 : decode cX9_firstSight 148 = .ok (.iastore, 1) := dgX9_firstSight_1 (148, (.iastore, 1)) (List.mem_of_getElem? (i := 36) rfl)
theorem dX9_firstSight_149 : decode cX9_firstSight 149 = .ok (.iinc 11 1, 3) := dgX9_firstSight_1 (149, (.iinc 11 1, 3)) (List.mem_of_getElem? (i := 37) rfl)
theorem dX9_firstSight_152 : decode cX9_firstSight 152 = .ok (.goto (-94), 3) := dgX9_firstSight_1 (152, (.goto (-94), 3)) (List.mem_of_getElem? (i := 38) rfl)
theorem dX9_firstSight_155 : decode cX9_firstSight 155 = .ok (.aload_n 0, 1) := dgX9_firstSight_1 (155, (.aload_n 0, 1)) (List.mem_of_getElem? (i := 39) rfl)
theorem dgX9_firstSight_2 : ∀ r ∈ ([(156, (.getfield 9, 3)), (159, (.iload 8, 2)), (161, (.lload 9, 2)), (163, (.lastore, 1)), (164, (.lload 9, 2)), (166, (.lconst 0, 1)), (167, (.lcmp, 1)), (168, (.ifCond .eq 6, 3)), (171, (.iload 8, 2)), (173, (.ireturn, 1)), (174, (.aload_n 0, 1)), (175, (.lload 5, 2)), (177, (.invokevirtual 56, 3)), (180, (.lstore 5, 2)), (182, (.iinc 8 1, 3)), (185, (.goto (-169), 3)), (188, (.iconst (-1), 1)), (189, (.ireturn, 1))] : List (Nat × (Instr × Nat))), decode cX9_firstSight r.1 = .ok r.2 := by decide +kernel
theorem dX9_firstSight_156 : decode cX9_firstSight 156 = .ok (.getfield 9, 3) := dgX9_firstSight_2 (156, (.getfield 9, 3)) (List.mem_of_getElem? (i := 0) rfl)
theorem dX9_firstSight_159 : decode cX9_firstSight 159 = .ok (.iload 8, 2) := dgX9_firstSight_2 (159, (.iload 8, 2)) (List.mem_of_getElem? (i := 1) rfl)
theorem dX9_firstSight_161 : decode cX9_firstSight 161 = .ok (.lload 9, 2) := dgX9_firstSight_2 (161, (.lload 9, 2)) (List.mem_of_getElem? (i := 2) rfl)
theorem dX9_firstSight_163 : decode cX9_firstSight 163 = .ok (.lastore, 1) := dgX9_firstSight_2 (163, (.lastore, 1)) (List.mem_of_getElem? (i := 3) rfl)
theorem dX9_firstSight_164 : decode cX9_firstSight 164 = .ok (.lload 9, 2) := dgX9_firstSight_2 (164, (.lload 9, 2)) (List.mem_of_getElem? (i := 4) rfl)
theorem dX9_firstSight_166 : decode cX9_firstSight 166 = .ok (.lconst 0, 1) := dgX9_firstSight_2 (166, (.lconst 0, 1)) (List.mem_of_getElem? (i := 5) rfl)
theorem dX9_firstSight_167 : decode cX9_firstSight 167 = .ok (.lcmp, 1) := dgX9_firstSight_2 (167, (.lcmp, 1)) (List.mem_of_getElem? (i := 6) rfl)
theorem dX9_firstSight_168 : decode cX9_firstSight 168 = .ok (.ifCond .eq 6, 3) := dgX9_firstSight_2 (168, (.ifCond .eq 6, 3)) (List.mem_of_getElem? (i := 7) rfl)
theorem dX9_firstSight_171 : decode cX9_firstSight 171 = .ok (.iload 8, 2) := dgX9_firstSight_2 (171, (.iload 8, 2)) (List.mem_of_getElem? (i := 8) rfl)
theorem dX9_firstSight_173 : decode cX9_firstSight 173 = .ok (.ireturn, 1) := dgX9_firstSight_2 (173, (.ireturn, 1)) (List.mem_of_getElem? (i := 9) rfl)
theorem dX9_firstSight_174 : decode cX9_firstSight 174 = .ok (.aload_n 0, 1) := dgX9_firstSight_2 (174, (.aload_n 0, 1)) (List.mem_of_getElem? (i := 10) rfl)
theorem dX9_firstSight_175 : decode cX9_firstSight 175 = .ok (.lload 5, 2) := dgX9_firstSight_2 (175, (.lload 5, 2)) (List.mem_of_getElem? (i := 11) rfl)
theorem dX9_firstSight_177 : decode cX9_firstSight 177 = .ok (.invokevirtual 56, 3) := dgX9_firstSight_2 (177, (.invokevirtual 56, 3)) (List.mem_of_getElem? (i := 12) rfl)
theorem dX9_firstSight_180 : decode cX9_firstSight 180 = .ok (.lstore 5, 2) := dgX9_firstSight_2 (180, (.lstore 5, 2)) (List.mem_of_getElem? (i := 13) rfl)
theorem dX9_firstSight_182 : decode cX9_firstSight 182 = .ok (.iinc 8 1, 3) := dgX9_firstSight_2 (182, (.iinc 8 1, 3)) (List.mem_of_getElem? (i := 14) rfl)
theorem dX9_firstSight_185 : decode cX9_firstSight 185 = .ok (.goto (-169), 3) := dgX9_firstSight_2 (185, (.goto (-169), 3)) (List.mem_of_getElem? (i := 15) rfl)
theorem dX9_firstSight_188 : decode cX9_firstSight 188 = .ok (.iconst (-1), 1) := dgX9_firstSight_2 (188, (.iconst (-1), 1)) (List.mem_of_getElem? (i := 16) rfl)
theorem dX9_firstSight_189 : decode cX9_firstSight 189 = .ok (.ireturn, 1) := dgX9_firstSight_2 (189, (.ireturn, 1)) (List.mem_of_getElem? (i := 17) rfl)
theorem ml_X9_27 : Cond.methodLink RX9 27 yX9_isEverIn ∈ tblG := tg 1105 (by decide +kernel) (by decide +kernel)
theorem im_X9_isEverIn : Cond.instanceMethod yX9_isEverIn ∈ tblG := tg 1107 (by decide +kernel) (by decide +kernel)
theorem se_X9_isEverIn : Cond.selects RX9 yX9_isEverIn yX9_isEverIn ∈ tblG := tg 27 (by decide +kernel) (by decide +kernel)
theorem ini_X9 : Cond.initialized RX9 ∈ tblG := tg 96 (by decide +kernel) (by decide +kernel)
theorem cd_X9_isEverIn : Cond.code yX9_isEverIn cX9_isEverIn 4 (some .boolean) ∈ tblG := tg 1108 (by decide +kernel) (by decide +kernel)
theorem gW_X9_isEverIn : GoodIn tblG (wsG yX9_isEverIn cX9_isEverIn 4 (some .boolean)) := tgi cd_X9_isEverIn
theorem gV_X9_27 : GoodIn tblG (wsV RX9 27 RX9 yX9_isEverIn (wsG yX9_isEverIn cX9_isEverIn 4 (some .boolean))) := tgV ml_X9_27 im_X9_isEverIn se_X9_isEverIn ini_X9 gW_X9_isEverIn
theorem hv_X9_isEverIn : yX9_isEverIn.cls = RX9 ∧ yX9_isEverIn.cls ≠ "java/lang/invoke/MethodHandle" ∧ yX9_isEverIn.cls ≠ "java/lang/invoke/VarHandle" ∧ (parseMethodDescriptor yX9_isEverIn.desc).map (fun d => d.parameters.length) = some 2 := by decide +kernel
theorem fl_X9_9 : Cond.fieldLink RX9 9 "LateGlass$Walker" "goals" "[J" ∈ tblG := tg 382 (by decide +kernel) (by decide +kernel)
theorem ml_X9_56 : Cond.methodLink RX9 56 yX9_spread ∈ tblG := tg 1115 (by decide +kernel) (by decide +kernel)
theorem im_X9_spread : Cond.instanceMethod yX9_spread ∈ tblG := tg 1117 (by decide +kernel) (by decide +kernel)
theorem se_X9_spread : Cond.selects RX9 yX9_spread yX9_spread ∈ tblG := tg 28 (by decide +kernel) (by decide +kernel)
theorem cd_X9_spread : Cond.code yX9_spread cX9_spread 5 (some .long) ∈ tblG := tg 1118 (by decide +kernel) (by decide +kernel)
theorem gW_X9_spread : GoodIn tblG (wsG yX9_spread cX9_spread 5 (some .long)) := tgi cd_X9_spread
theorem gV_X9_56 : GoodIn tblG (wsV RX9 56 RX9 yX9_spread (wsG yX9_spread cX9_spread 5 (some .long))) := tgV ml_X9_56 im_X9_spread se_X9_spread ini_X9 gW_X9_spread
theorem hv_X9_spread : yX9_spread.cls = RX9 ∧ yX9_spread.cls ≠ "java/lang/invoke/MethodHandle" ∧ yX9_spread.cls ≠ "java/lang/invoke/VarHandle" ∧ (parseMethodDescriptor yX9_spread.desc).map (fun d => d.parameters.length) = some 1 := by decide +kernel
theorem fl_X9_15 : Cond.fieldLink RX9 15 "LateGlass$Walker" "met" "[I" ∈ tblG := tg 383 (by decide +kernel) (by decide +kernel)
theorem fl_X9_23 : Cond.fieldLink RX9 23 "LateGlass$Walker" "eye" "LLateGlass$Look;" ∈ tblG := tg 381 (by decide +kernel) (by decide +kernel)
theorem fl_X9_53 : Cond.fieldLink RX9 53 "LateGlass$Look" "met" "I" ∈ tblG := tg 261 (by decide +kernel) (by decide +kernel)
theorem ml_X9_47 : Cond.methodLink RX9 47 yX5_findsBody ∈ tblG := tg 1111 (by decide +kernel) (by decide +kernel)
theorem im_X5_findsBody : Cond.instanceMethod yX5_findsBody ∈ tblG := tg 1112 (by decide +kernel) (by decide +kernel)
theorem se_X5_findsBody : Cond.selects RX5 yX5_findsBody yX5_findsBody ∈ tblG := tg 1113 (by decide +kernel) (by decide +kernel)
theorem cd_X5_findsBody : Cond.code yX5_findsBody cX5_findsBody 5 (some .boolean) ∈ tblG := tg 1114 (by decide +kernel) (by decide +kernel)
theorem gW_X5_findsBody : GoodIn tblG (wsG yX5_findsBody cX5_findsBody 5 (some .boolean)) := tgi cd_X5_findsBody
theorem gV_X9_47 : GoodIn tblG (wsV RX9 47 RX5 yX5_findsBody (wsG yX5_findsBody cX5_findsBody 5 (some .boolean))) := tgV ml_X9_47 im_X5_findsBody se_X5_findsBody ini_X5 gW_X5_findsBody
theorem hv_X5_findsBody : yX5_findsBody.cls = RX5 ∧ yX5_findsBody.cls ≠ "java/lang/invoke/MethodHandle" ∧ yX5_findsBody.cls ≠ "java/lang/invoke/VarHandle" ∧ (parseMethodDescriptor yX5_findsBody.desc).map (fun d => d.parameters.length) = some 3 := by decide +kernel
