theorem dgJ7_fill_53178_0 : ∀ r ∈ ([(0, (.iconst 0, 1)), (1, (.istore_n 2, 1)), (2, (.aload_n 0, 1)), (3, (.arraylength, 1)), (4, (.istore_n 3, 1)), (5, (.iload_n 2, 1)), (6, (.iload_n 3, 1)), (7, (.if_icmp .ge 13, 3)), (10, (.aload_n 0, 1)), (11, (.iload_n 2, 1)), (12, (.iload_n 1, 1)), (13, (.iastore, 1)), (14, (.iinc 2 1, 3)), (17, (.goto (-12), 3)), (20, (.return_, 1))] : List (Nat × (Instr × Nat))), decode cJ7_fill_53178 r.1 = .ok r.2 := by decide +kernel
theorem dJ7_fill_53178_0 : decode cJ7_fill_53178 0 = .ok (.iconst 0, 1) := dgJ7_fill_53178_0 (0, (.iconst 0, 1)) (List.mem_of_getElem? (i := 0) rfl)
theorem dJ7_fill_53178_1 : decode cJ7_fill_53178 1 = .ok (.istore_n 2, 1) := dgJ7_fill_53178_0 (1, (.istore_n 2, 1)) (List.mem_of_getElem? (i := 1) rfl)
theorem dJ7_fill_53178_2 : decode cJ7_fill_53178 2 = .ok (.aload_n 0, 1) := dgJ7_fill_53178_0 (2, (.aload_n 0, 1)) (List.mem_of_getElem? (i := 2) rfl)
theorem dJ7_fill_53178_3 : decode cJ7_fill_53178 3 = .ok (.arraylength, 1) := dgJ7_fill_53178_0 (3, (.arraylength, 1)) (List.mem_of_getElem? (i := 3) rfl)
theorem dJ7_fill_53178_4 : decode cJ7_fill_53178 4 = .ok (.istore_n 3, 1) := dgJ7_fill_53178_0 (4, (.istore_n 3, 1)) (List.mem_of_getElem? (i := 4) rfl)
theorem dJ7_fill_53178_5 : decode cJ7_fill_53178 5 = .ok (.iload_n 2, 1) := dgJ7_fill_53178_0 (5, (.iload_n 2, 1)) (List.mem_of_getElem? (i := 5) rfl)
theorem dJ7_fill_53178_6 : decode cJ7_fill_53178 6 = .ok (.iload_n 3, 1) := dgJ7_fill_53178_0 (6, (.iload_n 3, 1)) (List.mem_of_getElem? (i := 6) rfl)
theorem dJ7_fill_53178_7 : decode cJ7_fill_53178 7 = .ok (.if_icmp .ge 13, 3) := dgJ7_fill_53178_0 (7, (.if_icmp .ge 13, 3)) (List.mem_of_getElem? (i := 7) rfl)
theorem dJ7_fill_53178_10 : decode cJ7_fill_53178 10 = .ok (.aload_n 0, 1) := dgJ7_fill_53178_0 (10, (.aload_n 0, 1)) (List.mem_of_getElem? (i := 8) rfl)
theorem dJ7_fill_53178_11 : decode cJ7_fill_53178 11 = .ok (.iload_n 2, 1) := dgJ7_fill_53178_0 (11, (.iload_n 2, 1)) (List.mem_of_getElem? (i := 9) rfl)
theorem dJ7_fill_53178_12 : decode cJ7_fill_53178 12 = .ok (.iload_n 1, 1) := dgJ7_fill_53178_0 (12, (.iload_n 1, 1)) (List.mem_of_getElem? (i := 10) rfl)
theorem dJ7_fill_53178_13 : decode cJ7_fill_53178 13 = .ok (.iastore, 1) := dgJ7_fill_53178_0 (13, (.iastore, 1)) (List.mem_of_getElem? (i := 11) rfl)
theorem dJ7_fill_53178_14 : decode cJ7_fill_53178 14 = .ok (.iinc 2 1, 3) := dgJ7_fill_53178_0 (14, (.iinc 2 1, 3)) (List.mem_of_getElem? (i := 12) rfl)
theorem dJ7_fill_53178_17 : decode cJ7_fill_53178 17 = .ok (.goto (-12), 3) := dgJ7_fill_53178_0 (17, (.goto (-12), 3)) (List.mem_of_getElem? (i := 13) rfl)
theorem dJ7_fill_53178_20 : decode cJ7_fill_53178 20 = .ok (.return_, 1) := dgJ7_fill_53178_0 (20, (.return_, 1)) (List.mem_of_getElem? (i := 14) rfl)
set_option maxHeartbeats 4000000 in
set_option maxRecDepth 100000 in
theorem k_fillI1536 (l : Launch) (G : g5_G) (a_0 : Nat) (sz : Nat) (p_v : Int32) (f_a : Nat → Int32) : Met l yJ7_fill_53178 (wsG yJ7_fill_53178 cJ7_fill_53178 4 none) ({ frames := 0, cells := 0, slots := 0, locals := 0 }) (va_Pc [.ref a_0, .int p_v] (g5_P G [(a_0, (arI G 1536 f_a))] sz)) (va_Qv (fun (u : va_W) => ((u = [(a_0, (arI G 1536 (fun _ => p_v)))]))) (g5_B G (va_A [(a_0, (arI G 1536 f_a))] sz)) (va_A [(a_0, (arI G 1536 f_a))] sz)) 0 0 (va_A [(a_0, (arI G 1536 f_a))] sz) := by
  refine Met.ofW (cc := cJ7_fill_53178) (maxL := 4) (ret := none) (by decide) rfl ?_
  intro p e s m args below meth c s₁ B hml hv
  obtain ⟨rfl, hsz, hP, hK, hD0, hN, hT⟩ := hv
  have hx := B.exec
  have hb := B.bytes
  have hr := B.returns
  have hts : ∀ w ∈ tblG, w.before _ s = true := fun w h => atoms_spec (ws := (wsG yJ7_fill_53178 cJ7_fill_53178 4 none)) B.pre w (List.mem_cons_of_mem _ h)
  have hown : s.vm.findClass RJ7 = some m.cls := findClass_of_methodNamed B.named
  have hlocks := B.notSynchronized
  subst hsz
  have hD := hD0.self (sz := s.heap.size)
  generalize hAe : va_A [(a_0, (arI G 1536 f_a))] s.heap.size = A at hD hT ⊢
  have hA : ∀ q : Nat, s.heap.size ≤ q → A q := fun q h => by rw [← hAe]; exact Or.inr h
  have hS : va_S A s.heap s.heap [] := va_S.rf
  have hP : va_P G.1 vwCl [(a_0, (arI G 1536 f_a))] s.heap := hP
  have hl := lv_entry ([.ref a_0, .int p_v]) (n := 4) (Nat.le_of_ble_eq_true rfl)
  rw [lg_entry_eq]
  generalize (lg_sl ([.ref a_0, .int p_v]) ++ List.replicate (4 - (lg_sl ([.ref a_0, .int p_v])).length) Slot.unset).toArray = ls at hl ⊢
  have hl : lv_has ls 4 [(0, .ref a_0), (1, .int p_v)] := hl
  refine lv_iconst (v := 0) hx hb dJ7_fill_53178_0 (by decide) ?_
  refine lv_istore_n (lv' := [(2, .int 0), (0, .ref a_0), (1, .int p_v)]) hx hb dJ7_fill_53178_1 rfl hl (by decide) rfl (fun ls hl => ?_)
  refine lv_aload_n hx hb dJ7_fill_53178_2 rfl (lv_at hl 1 rfl) ?_
  refine va_alen hx hb hK hP 0 0 rfl rfl (v := 1536) (by show Int32.ofNat 1536 = 1536; decide) dJ7_fill_53178_3 ?_
  refine lv_istore_n (lv' := [(3, .int 1536), (2, .int 0), (0, .ref a_0), (1, .int p_v)]) hx hb dJ7_fill_53178_4 rfl hl (by decide) rfl (fun ls hl => ?_)
  refine g5_loop (α := (Int32) × (Nat → Int32)) (fun (q : (Int32) × (Nat → Int32)) (ls : Array Slot) (H : Heap) (locs : List Loc) => match q with | (k_i, k_f) => lv_has ls 4 [(2, .int k_i), (3, .int 1536), (0, .ref a_0), (1, .int p_v)] ∧ va_P G.1 vwCl [(a_0, (arI G 1536 k_f))] H ∧ va_D A [(a_0, (arI G 1536 k_f))] ∧ va_S A s.heap H locs ∧ (0 ≤ k_i.toInt ∧ k_i.toInt ≤ 1536) ∧ (∀ j : Nat, (j : Int) < k_i.toInt → k_f j = (fun _ => p_v) j)) (fun (q : (Int32) × (Nat → Int32)) => match q with | (k_i, k_f) => Int.toNat (1536 - k_i.toInt)) (0, f_a) ⟨lv_sub hl [1, 0, 2, 3] rfl, hP, hD, hS, ⟨by decide, by decide⟩, fun j h => absurd h (by have z : (0 : Int32).toInt = 0 := (by decide); omega)⟩ ?_
  rintro ⟨k_i, k_f⟩ ls H locs ⟨hl, hP, hD, hS, i_1, i_2⟩ ih_5_3
  have hl : lv_has ls 4 [(2, .int k_i), (3, .int 1536), (0, .ref a_0), (1, .int p_v)] := hl
  have i_1 : 0 ≤ k_i.toInt ∧ k_i.toInt ≤ 1536 := i_1
  have i_2 : ∀ j : Nat, (j : Int) < k_i.toInt → k_f j = (fun _ => p_v) j := i_2
  refine g5_rs [(a_0, (arI G 1536 k_f))] hP hD (fun hP hD => ?_)
  refine lv_iload_n hx hb dJ7_fill_53178_5 rfl (lv_at hl 0 rfl) ?_
  refine lv_iload_n hx hb dJ7_fill_53178_6 rfl (lv_at hl 1 rfl) ?_
  refine lv_icmp_ge (tgt := 20) hx hb dJ7_fill_53178_7 (by decide) (fun c_4 => ?_) (fun c_4 => ?_)
  ·
    have i_4 : k_i.toInt ≥ 1536 := by have z := g5_ge (a := k_i.toInt) (b := 1536) (by rfl) (by decide) c_4; omega
    obtain ⟨hP, hD⟩ := g5_cvI hP hD 0 (f := k_f) (g := (fun _ => p_v)) rfl (fun j h => i_2 j (by omega))
    refine g5_rs [(a_0, (arI G 1536 (fun _ => p_v)))] hP hD (fun hP hD => ?_)
    exact W.vret hx hb hr (fun t ht hW => ⟨⟨[(a_0, (arI G 1536 (fun _ => p_v)))], rfl, rfl, by rw [ht]; exact hP.sub [0] rfl, hD.sub [0] (by decide) rfl⟩, hS.F ht⟩) hS.2.2 dJ7_fill_53178_20
  ·
    have i_4 : k_i.toInt < 1536 := by have z := g5_geN (a := k_i.toInt) (b := 1536) (by rfl) (by decide) c_4; omega
    refine lv_aload_n hx hb dJ7_fill_53178_10 rfl (lv_at hl 2 rfl) ?_
    refine lv_iload_n hx hb dJ7_fill_53178_11 rfl (lv_at hl 0 rfl) ?_
    refine lv_iload_n hx hb dJ7_fill_53178_12 rfl (lv_at hl 3 rfl) ?_
    refine va_iast hx hb hK hP hD hS 0 0 rfl rfl (i := k_i) (x := p_v) (vp_in_iff.mpr ⟨by omega, by omega⟩) dJ7_fill_53178_13 (fun H locs hP hD hS => ?_)
    refine g5_rs [(a_0, (arI G 1536 (upd k_f k_i.toNatClampNeg p_v)))] hP hD (fun hP hD => ?_)
    refine lv_iinc (v := (k_i + 1)) (lv' := [(2, .int (k_i + 1)), (3, .int 1536), (0, .ref a_0), (1, .int p_v)]) hx hb dJ7_fill_53178_14 hl (k := 0) rfl rfl (by decide) rfl (fun ls hl => ?_)
    have t_5 : (k_i + 1).toInt = k_i.toInt + 1 := g5_iadd (a := k_i.toInt) (b := 1) rfl (by decide) (by omega) (by omega)
    refine lv_goto (tgt := 5) hx hb dJ7_fill_53178_17 (by decide) ?_
    exact ih_5_3 ((k_i + 1), (upd k_f k_i.toNatClampNeg p_v)) ls H locs (show Int.toNat (1536 - (k_i + 1).toInt) < Int.toNat (1536 - k_i.toInt) from g_up (show k_i.toInt < (k_i + 1).toInt by omega) (show k_i.toInt < 1536 by omega)) ⟨lv_sub hl [0, 1, 2, 3] rfl, hP, hD, hS, ⟨by omega, by omega⟩, g5_fillI i_2 (by omega) (by omega) rfl⟩
set_option maxHeartbeats 4000000 in
set_option maxRecDepth 100000 in
theorem k_fillJ2048 (l : Launch) (G : g5_G) (a_0 : Nat) (sz : Nat) (p_v : Int64) (f_a : Nat → Int64) : Met l yJ7_fill_d0a16 (wsG yJ7_fill_d0a16 cJ7_fill_d0a16 5 none) ({ frames := 0, cells := 0, slots := 0, locals := 0 }) (va_Pc [.ref a_0, .long p_v] (g5_P G [(a_0, (arJ G 2048 f_a))] sz)) (va_Qv (fun (u : va_W) => ((u = [(a_0, (arJ G 2048 (fun _ => p_v)))]))) (g5_B G (va_A [(a_0, (arJ G 2048 f_a))] sz)) (va_A [(a_0, (arJ G 2048 f_a))] sz)) 0 0 (va_A [(a_0, (arJ G 2048 f_a))] sz) := by
  refine Met.ofW (cc := cJ7_fill_d0a16) (maxL := 5) (ret := none) (by decide) rfl ?_
  intro p e s m args below meth c s₁ B hml hv
  obtain ⟨rfl, hsz, hP, hK, hD0, hN, hT⟩ := hv
  have hx := B.exec
  have hb := B.bytes
  have hr := B.returns
  have hts : ∀ w ∈ tblG, w.before _ s = true := fun w h => atoms_spec (ws := (wsG yJ7_fill_d0a16 cJ7_fill_d0a16 5 none)) B.pre w (List.mem_cons_of_mem _ h)
  have hown : s.vm.findClass RJ7 = some m.cls := findClass_of_methodNamed B.named
  have hlocks := B.notSynchronized
  subst hsz
  have hD := hD0.self (sz := s.heap.size)
  generalize hAe : va_A [(a_0, (arJ G 2048 f_a))] s.heap.size = A at hD hT ⊢
  have hA : ∀ q : Nat, s.heap.size ≤ q → A q := fun q h => by rw [← hAe]; exact Or.inr h
  have hS : va_S A s.heap s.heap [] := va_S.rf
  have hP : va_P G.1 vwCl [(a_0, (arJ G 2048 f_a))] s.heap := hP
  have hl := lv_entry ([.ref a_0, .long p_v]) (n := 5) (Nat.le_of_ble_eq_true rfl)
  rw [lg_entry_eq]
  generalize (lg_sl ([.ref a_0, .long p_v]) ++ List.replicate (5 - (lg_sl ([.ref a_0, .long p_v])).length) Slot.unset).toArray = ls at hl ⊢
  have hl : lv_has ls 5 [(0, .ref a_0), (1, .long p_v)] := hl
  refine lv_iconst (v := 0) hx hb dJ7_fill_d0a16_0 (by decide) ?_
  refine lv_istore_n (lv' := [(3, .int 0), (0, .ref a_0), (1, .long p_v)]) hx hb dJ7_fill_d0a16_1 rfl hl (by decide) rfl (fun ls hl => ?_)
  refine lv_aload_n hx hb dJ7_fill_d0a16_2 rfl (lv_at hl 1 rfl) ?_
  refine va_alen hx hb hK hP 0 1 rfl rfl (v := 2048) (by show Int32.ofNat 2048 = 2048; decide) dJ7_fill_d0a16_3 ?_
  refine lv_istore (lv' := [(4, .int 2048), (3, .int 0), (0, .ref a_0), (1, .long p_v)]) hx hb dJ7_fill_d0a16_4 hl (by decide) rfl (fun ls hl => ?_)
  refine g5_loop (α := (Int32) × (Nat → Int64)) (fun (q : (Int32) × (Nat → Int64)) (ls : Array Slot) (H : Heap) (locs : List Loc) => match q with | (k_i, k_f) => lv_has ls 5 [(3, .int k_i), (4, .int 2048), (0, .ref a_0), (1, .long p_v)] ∧ va_P G.1 vwCl [(a_0, (arJ G 2048 k_f))] H ∧ va_D A [(a_0, (arJ G 2048 k_f))] ∧ va_S A s.heap H locs ∧ (0 ≤ k_i.toInt ∧ k_i.toInt ≤ 2048) ∧ (∀ j : Nat, (j : Int) < k_i.toInt → k_f j = (fun _ => p_v) j)) (fun (q : (Int32) × (Nat → Int64)) => match q with | (k_i, k_f) => Int.toNat (2048 - k_i.toInt)) (0, f_a) ⟨lv_sub hl [1, 0, 2, 3] rfl, hP, hD, hS, ⟨by decide, by decide⟩, fun j h => absurd h (by have z : (0 : Int32).toInt = 0 := (by decide); omega)⟩ ?_
  rintro ⟨k_i, k_f⟩ ls H locs ⟨hl, hP, hD, hS, i_1, i_2⟩ ih_6_3
  have hl : lv_has ls 5 [(3, .int k_i), (4, .int 2048), (0, .ref a_0), (1, .long p_v)] := hl
  have i_1 : 0 ≤ k_i.toInt ∧ k_i.toInt ≤ 2048 := i_1
  have i_2 : ∀ j : Nat, (j : Int) < k_i.toInt → k_f j = (fun _ => p_v) j := i_2
  refine g5_rs [(a_0, (arJ G 2048 k_f))] hP hD (fun hP hD => ?_)
  refine lv_iload_n hx hb dJ7_fill_d0a16_6 rfl (lv_at hl 0 rfl) ?_
  refine lv_iload hx hb dJ7_fill_d0a16_7 (lv_at hl 1 rfl) ?_
  refine lv_icmp_ge (tgt := 22) hx hb dJ7_fill_d0a16_9 (by decide) (fun c_4 => ?_) (fun c_4 => ?_)
  ·
    have i_4 : k_i.toInt ≥ 2048 := by have z := g5_ge (a := k_i.toInt) (b := 2048) (by rfl) (by decide) c_4; omega
    obtain ⟨hP, hD⟩ := g5_cvJ hP hD 0 (f := k_f) (g := (fun _ => p_v)) rfl (fun j h => i_2 j (by omega))
    refine g5_rs [(a_0, (arJ G 2048 (fun _ => p_v)))] hP hD (fun hP hD => ?_)
    exact W.vret hx hb hr (fun t ht hW => ⟨⟨[(a_0, (arJ G 2048 (fun _ => p_v)))], rfl, rfl, by rw [ht]; exact hP.sub [0] rfl, hD.sub [0] (by decide) rfl⟩, hS.F ht⟩) hS.2.2 dJ7_fill_d0a16_22
  ·
    have i_4 : k_i.toInt < 2048 := by have z := g5_geN (a := k_i.toInt) (b := 2048) (by rfl) (by decide) c_4; omega
    refine lv_aload_n hx hb dJ7_fill_d0a16_12 rfl (lv_at hl 2 rfl) ?_
    refine lv_iload_n hx hb dJ7_fill_d0a16_13 rfl (lv_at hl 0 rfl) ?_
    refine lv_lload_n hx hb dJ7_fill_d0a16_14 rfl (lv_at hl 3 rfl) ?_
    refine va_last hx hb hK hP hD hS 0 1 rfl rfl (i := k_i) (x := p_v) (vp_in_iff.mpr ⟨by omega, by omega⟩) dJ7_fill_d0a16_15 (fun H locs hP hD hS => ?_)
    refine g5_rs [(a_0, (arJ G 2048 (vp_updL k_f k_i.toNatClampNeg p_v)))] hP hD (fun hP hD => ?_)
    refine lv_iinc (v := (k_i + 1)) (lv' := [(3, .int (k_i + 1)), (4, .int 2048), (0, .ref a_0), (1, .long p_v)]) hx hb dJ7_fill_d0a16_16 hl (k := 0) rfl rfl (by decide) rfl (fun ls hl => ?_)
    have t_5 : (k_i + 1).toInt = k_i.toInt + 1 := g5_iadd (a := k_i.toInt) (b := 1) rfl (by decide) (by omega) (by omega)
    refine lv_goto (tgt := 6) hx hb dJ7_fill_d0a16_19 (by decide) ?_
    exact ih_6_3 ((k_i + 1), (vp_updL k_f k_i.toNatClampNeg p_v)) ls H locs (show Int.toNat (2048 - (k_i + 1).toInt) < Int.toNat (2048 - k_i.toInt) from g_up (show k_i.toInt < (k_i + 1).toInt by omega) (show k_i.toInt < 2048 by omega)) ⟨lv_sub hl [0, 1, 2, 3] rfl, hP, hD, hS, ⟨by omega, by omega⟩, g5_fillJ i_2 (by omega) (by omega) rfl⟩
theorem dgX7_load_0 : ∀ r ∈ ([(0, (.aload_n 0, 1)), (1, (.getfield 9, 3)), (4, (.aload_n 0, 1)), (5, (.getfield 34, 3)), (8, (.getfield 54, 3)), (11, (.invokestatic 58, 3)), (14, (.aload_n 0, 1)), (15, (.getfield 15, 3)), (18, (.iconst 0, 1)), (19, (.invokestatic 64, 3)), (22, (.aload_n 0, 1)), (23, (.getfield 34, 3)), (26, (.getfield 67, 3)), (29, (.iconst (-1), 1)), (30, (.if_icmp .eq 25, 3)), (33, (.aload_n 0, 1)), (34, (.getfield 9, 3)), (37, (.iconst 0, 1)), (38, (.dup2, 1)), (39, (.laload, 1)), (40, (.lconst 1, 1)), (41, (.aload_n 0, 1)), (42, (.getfield 34, 3)), (45, (.getfield 67, 3)), (48, (.lshl, 1)), (49, (.ldc2_w 70, 3)), (52, (.lxor, 1)), (53, (.lor, 1)), (54, (.lastore, 1)), (55, (.iconst 1, 1)), (56, (.istore_n 2, 1)), (57, (.aload_n 0, 1)), (58, (.getfield 34, 3)), (61, (.getfield 42, 3)), (64, (.astore_n 3, 1)), (65, (.iconst 0, 1)), (66, (.istore 4, 2)), (68, (.iload 4, 2)), (70, (.aload_n 3, 1)), (71, (.getfield 48, 3))] : List (Nat × (Instr × Nat))), decode cX7_load r.1 = .ok r.2 := by decide +kernel
theorem dX7_load_0 : decode cX7_load 0 = .ok (.aload_n 0, 1) := dgX7_load_0 (0, (.aload_n 0, 1)) (List.mem_of_getElem? (i := 0) rfl)
theorem dX7_load_1 : decode cX7_load 1 = .ok (.getfield 9, 3) := dgX7_load_0 (1, (.getfield 9, 3)) (List.mem_of_getElem? (i := 1) rfl)
theorem dX7_load_4 : decode cX7_load 4 = .ok (.aload_n 0, 1) := dgX7_load_0 (4, (.aload_n 0, 1)) (List.mem_of_getElem? (i := 2) rfl)
theorem dX7_load_5 : decode cX7_load 5 = .ok (.getfield 34, 3) := dgX7_load_0 (5, (.getfield 34, 3)) (List.mem_of_getElem? (i := 3) rfl)
theorem dX7_load_8 : decode cX7_load 8 = .ok (.getfield 54, 3) := dgX7_load_0 (8, (.getfield 54, 3)) (List.mem_of_getElem? (i := 4) rfl)
theorem dX7_load_11 : decode cX7_load 11 = .ok (.invokestatic 58, 3) := dgX7_load_0 (11, (.invokestatic 58, 3)) (List.mem_of_getElem? (i := 5) rfl)
theorem dX7_load_14 : decode cX7_load 14 = .ok (.aload_n 0, 1) := dgX7_load_0 (14, (.aload_n 0, 1)) (List.mem_of_getElem? (i := 6) rfl)
theorem dX7_load_15 : decode cX7_load 15 = .ok (.getfield 15, 3) := dgX7_load_0 (15, (.getfield 15, 3)) (List.mem_of_getElem? (i := 7) rfl)
theorem dX7_load_18 : decode cX7_load 18 = .ok (.iconst 0, 1) := dgX7_load_0 (18, (.iconst 0, 1)) (List.mem_of_getElem? (i := 8) rfl)
theorem dX7_load_19 : decode cX7_load 19 = .ok (.invokestatic 64, 3) := dgX7_load_0 (19, (.invokestatic 64, 3)) (List.mem_of_getElem? (i := 9) rfl)
theorem dX7_load_22 : decode cX7_load 22 = .ok (.aload_n 0, 1) := dgX7_load_0 (22, (.aload_n 0, 1)) (List.mem_of_getElem? (i := 10) rfl)
theorem dX7_load_23 : decode cX7_load 23 = .ok (.getfield 34, 3) := dgX7_load_0 (23, (.getfield 34, 3)) (List.mem_of_getElem? (i := 11) rfl)
theorem dX7_load_26 : decode cX7_load 26 = .ok (.getfield 67, 3) := dgX7_load_0 (26, (.getfield 67, 3)) (List.mem_of_getElem? (i := 12) rfl)
theorem dX7_load_29 : decode cX7_load 29 = .ok (.iconst (-1), 1) := dgX7_load_0 (29, (.iconst (-1), 1)) (List.mem_of_getElem? (i := 13) rfl)
theorem dX7_load_30 : decode cX7_load 30 = .ok (.if_icmp .eq 25, 3) := dgX7_load_0 (30, (.if_icmp .eq 25, 3)) (List.mem_of_getElem? (i := 14) rfl)
theorem dX7_load_33 : decode cX7_load 33 = .ok (.aload_n 0, 1) := dgX7_load_0 (33, (.aload_n 0, 1)) (List.mem_of_getElem? (i := 15) rfl)
theorem dX7_load_34 : decode cX7_load 34 = .ok (.getfield 9, 3) := dgX7_load_0 (34, (.getfield 9, 3)) (List.mem_of_getElem? (i := 16) rfl)
theorem dX7_load_37 : decode cX7_load 37 = .ok (.iconst 0, 1) := dgX7_load_0 (37, (.iconst 0, 1)) (List.mem_of_getElem? (i := 17) rfl)
theorem dX7_load_38 : decode cX7_load 38 = .ok (.dup2, 1) := dgX7_load_0 (38, (.dup2, 1)) (List.mem_of_getElem? (i := 18) rfl)
theorem dX7_load_39 : decode cX7_load 39 = .ok (.laload, 1) := dgX7_load_0 (39, (.laload, 1)) (List.mem_of_getElem? (i := 19) rfl)
theorem dX7_load_40 : decode cX7_load 40 = .ok (.lconst 1, 1) := dgX7_load_0 (40, (.lconst 1, 1)) (List.mem_of_getElem? (i := 20) rfl)
theorem dX7_load_41 : decode cX7_load 41 = .ok (.aload_n 0, 1) := dgX7_load_0 (41, (.aload_n 0, 1)) (List.mem_of_getElem? (i := 21) rfl)
theorem dX7_load_42 : decode cX7_load 42 = .ok (.getfield 34, 3) := dgX7_load_0 (42, (.getfield 34, 3)) (List.mem_of_getElem? (i := 22) rfl)
theorem dX7_load_45 : decode cX7_load 45 = .ok (.getfield 67, 3) := dgX7_load_0 (45, (.getfield 67, 3)) (List.mem_of_getElem? (i := 23) rfl)
theorem dX7_load_48 : decode cX7_load 48 = .ok (.lshl, 1) := dgX7_load_0 (48, (.lshl, 1)) (List.mem_of_getElem? (i := 24) rfl)
theorem dX7_load_49 : decode cX7_load 49 = .ok (.ldc2_w 70, 3) := dgX7_load_0 (49, (.ldc2_w 70, 3)) (List.mem_of_getElem? (i := 25) rfl)
theorem dX7_load_52 : decode cX7_load 52 = .ok (.lxor, 1) := dgX7_load_0 (52, (.lxor, 1)) (List.mem_of_getElem? (i := 26) rfl)
theorem dX7_load_53 : decode cX7_load 53 = .ok (.lor, 1) := dgX7_load_0 (53, (.lor, 1)) (List.mem_of_getElem? (i := 27) rfl)
theorem dX7_load_54 : decode cX7_load 54 = .ok (.lastore, 1) := dgX7_load_0 (54, (.lastore, 1)) (List.mem_of_getElem? (i := 28) rfl)
theorem dX7_load_55 : decode cX7_load 55 = .ok (.iconst 1, 1) := dgX7_load_0 (55, (.iconst 1, 1)) (List.mem_of_getElem? (i := 29) rfl)
theorem dX7_load_56 : decode cX7_load 56 = .ok (.istore_n 2, 1) := dgX7_load_0 (56, (.istore_n 2, 1)) (List.mem_of_getElem? (i := 30) rfl)
theorem dX7_load_57 : decode cX7_load 57 = .ok (.aload_n 0, 1) := dgX7_load_0 (57, (.aload_n 0, 1)) (List.mem_of_getElem? (i := 31) rfl)
theorem dX7_load_58 : decode cX7_load 58 = .ok (.getfield 34, 3) := dgX7_load_0 (58, (.getfield 34, 3)) (List.mem_of_getElem? (i := 32) rfl)
theorem dX7_load_61 : decode cX7_load 61 = .ok (.getfield 42, 3) := dgX7_load_0 (61, (.getfield 42, 3)) (List.mem_of_getElem? (i := 33) rfl)
theorem dX7_load_64 : decode cX7_load 64 = .ok (.astore_n 3, 1) := dgX7_load_0 (64, (.astore_n 3, 1)) (List.mem_of_getElem? (i := 34) rfl)
theorem dX7_load_65 : decode cX7_load 65 = .ok (.iconst 0, 1) := dgX7_load_0 (65, (.iconst 0, 1)) (List.mem_of_getElem? (i := 35) rfl)
theorem dX7_load_66 : decode cX7_load 66 = .ok (.istore 4, 2) := dgX7_load_0 (66, (.istore 4, 2)) (List.mem_of_getElem? (i := 36) rfl)
theorem dX7_load_68 : decode cX7_load 68 = .ok (.iload 4, 2) := dgX7_load_0 (68, (.iload 4, 2)) (List.mem_of_getElem? (i := 37) rfl)
theorem dX7_load_70 : decode cX7_load 70 = .ok (.aload_n 3, 1) := dgX7_load_0 (70, (.aload_n 3, 1)) (List.mem_of_getElem? (i := 38) rfl)
theorem dX7_load_71 : decode cX7_load 71 = .ok (.getfield 48, 3) := dgX7_load_0 (71, (.getfield 48, 3)) (List.mem_of_getElem? (i := 39) rfl)
theorem dgX7_load_1 : ∀ r ∈ ([(74, (.if_icmp .ge 74, 3)), (77, (.iload_n 1, 1)), (78, (.iload 4, 2)), (80, (.ishr, 1)), (81, (.iconst 1, 1)), (82, (.iand, 1)), (83, (.ifCond .eq 59, 3)), (86, (.aload_n 0, 1)), (87, (.getfield 38, 3)), (90, (.aload_n 3, 1)), (91, (.iload 4, 2)), (93, (.iconst 0, 1)), (94, (.invokevirtual 72, 3)), (97, (.aload_n 3, 1)), (98, (.iload 4, 2)), (100, (.iconst 1, 1)), (101, (.invokevirtual 72, 3)), (104, (.aload_n 3, 1)), (105, (.iload 4, 2)), (107, (.iconst 2, 1)), (108, (.invokevirtual 72, 3)), (111, (.iconst 0, 1)), (112, (.invokevirtual 76, 3)), (115, (.aload_n 3, 1)), (116, (.iload 4, 2)), (118, (.iconst 3, 1)), (119, (.invokevirtual 72, 3)), (122, (.iconst 1, 1)), (123, (.if_icmp .ne 15, 3)), (126, (.aload_n 0, 1)), (127, (.iload_n 2, 1)), (128, (.invokevirtual 82, 3)), (131, (.iload_n 2, 1)), (132, (.iconst 1, 1)), (133, (.ishl, 1)), (134, (.istore_n 2, 1)), (135, (.goto 7, 3)), (138, (.aload_n 0, 1)), (139, (.invokevirtual 86, 3)), (142, (.iinc 4 1, 3))] : List (Nat × (Instr × Nat))), decode cX7_load r.1 = .ok r.2 := by decide +kernel
theorem dX7_load_74 : decode cX7_load 74 = .ok (.if_icmp .ge 74, 3) := dgX7_load_1 (74, (.if_icmp .ge 74, 3)) (List.mem_of_getElem? (i := 0) rfl)
theorem dX7_load_77 : decode cX7_load 77 = .ok (.iload_n 1, 1) := dgX7_load_1 (77, (.iload_n 1, 1)) (List.mem_of_getElem? (i := 1) rfl)
theorem dX7_load_78 : decode cX7_load 78 = .ok (.iload 4, 2) := dgX7_load_1 (78, (.iload 4, 2)) (List.mem_of_getElem? (i := 2) rfl)
theorem dX7_load_80 : decode cX7_load 80 = .ok (.ishr, 1) := dgX7_load_1 (80, (.ishr, 1)) (List.mem_of_getElem? (i := 3) rfl)
theorem dX7_load_81 : decode cX7_load 81 = .ok (.iconst 1, 1) := dgX7_load_1 (81, (.iconst 1, 1)) (List.mem_of_getElem? (i := 4) rfl)
theorem dX7_load_82 : decode cX7_load 82 = .ok (.iand, 1) := dgX7_load_1 (82, (.iand, 1)) (List.mem_of_getElem? (i := 5) rfl)
theorem dX7_load_83 : decode cX7_load 83 = .ok (.ifCond .eq 59, 3) := dgX7_load_1 (83, (.ifCond .eq 59, 3)) (List.mem_of_getElem? (i := 6) rfl)
theorem dX7_load_86 : decode cX7_load 86 = .ok (.aload_n 0, 1) := dgX7_load_1 (86, (.aload_n 0, 1)) (List.mem_of_getElem? (i := 7) rfl)
theorem dX7_load_87 : decode cX7_load 87 = .ok (.getfield 38, 3) := dgX7_load_1 (87, (.getfield 38, 3)) (List.mem_of_getElem? (i := 8) rfl)
theorem dX7_load_90 : decode cX7_load 90 = .ok (.aload_n 3, 1) := dgX7_load_1 (90, (.aload_n 3, 1)) (List.mem_of_getElem? (i := 9) rfl)
theorem dX7_load_91 : decode cX7_load 91 = .ok (.iload 4, 2) := dgX7_load_1 (91, (.iload 4, 2)) (List.mem_of_getElem? (i := 10) rfl)
theorem dX7_load_93 : decode cX7_load 93 = .ok (.iconst 0, 1) := dgX7_load_1 (93, (.iconst 0, 1)) (List.mem_of_getElem? (i := 11) rfl)
theorem dX7_load_94 : decode cX7_load 94 = .ok (.invokevirtual 72, 3) := dgX7_load_1 (94, (.invokevirtual 72, 3)) (List.mem_of_getElem? (i := 12) rfl)
theorem dX7_load_97 : decode cX7_load 97 = .ok (.aload_n 3, 1) := dgX7_load_1 (97, (.aload_n 3, 1)) (List.mem_of_getElem? (i := 13) rfl)
theorem dX7_load_98 : decode cX7_load 98 = .ok (.iload 4, 2) := dgX7_load_1 (98, (.iload 4, 2)) (List.mem_of_getElem? (i := 14) rfl)
theorem dX7_load_100 : decode cX7_load 100 = .ok (.iconst 1, 1) := dgX7_load_1 (100, (.iconst 1, 1)) (List.mem_of_getElem? (i := 15) rfl)
theorem dX7_load_101 : decode cX7_load 101 = .ok (.invokevirtual 72, 3) := dgX7_load_1 (101, (.invokevirtual 72, 3)) (List.mem_of_getElem? (i := 16) rfl)
theorem dX7_load_104 : decode cX7_load 104 = .ok (.aload_n 3, 1) := dgX7_load_1 (104, (.aload_n 3, 1)) (List.mem_of_getElem? (i := 17) rfl)
theorem dX7_load_105 : decode cX7_load 105 = .ok (.iload 4, 2) := dgX7_load_1 (105, (.iload 4, 2)) (List.mem_of_getElem? (i := 18) rfl)
theorem dX7_load_107 : decode cX7_load 107 = .ok (.iconst 2, 1) := dgX7_load_1 (107, (.iconst 2, 1)) (List.mem_of_getElem? (i := 19) rfl)
theorem dX7_load_108 : decode cX7_load 108 = .ok (.invokevirtual 72, 3) := dgX7_load_1 (108, (.invokevirtual 72, 3)) (List.mem_of_getElem? (i := 20) rfl)
theorem dX7_load_111 : decode cX7_load 111 = .ok (.iconst 0, 1) := dgX7_load_1 (111, (.iconst 0, 1)) (List.mem_of_getElem? (i := 21) rfl)
theorem dX7_load_112 : decode cX7_load 112 = .ok (.invokevirtual 76, 3) := dgX7_load_1 (112, (.invokevirtual 76, 3)) (List.mem_of_getElem? (i := 22) rfl)
theorem dX7_load_115 : decode cX7_load 115 = .ok (.aload_n 3, 1) := dgX7_load_1 (115, (.aload_n 3, 1)) (List.mem_of_getElem? (i := 23) rfl)
theorem dX7_load_116 : decode cX7_load 116 = .ok (.iload 4, 2) := dgX7_load_1 (116, (.iload 4, 2)) (List.mem_of_getElem? (i := 24) rfl)
theorem dX7_load_118 : decode cX7_load 118 = .ok (.iconst 3, 1) := dgX7_load_1 (118, (.iconst 3, 1)) (List.mem_of_getElem? (i := 25) rfl)
theorem dX7_load_119 : decode cX7_load 119 = .ok (.invokevirtual 72, 3) := dgX7_load_1 (119, (.invokevirtual 72, 3)) (List.mem_of_getElem? (i := 26) rfl)
theorem dX7_load_122 : decode cX7_load 122 = .ok (.iconst 1, 1) := dgX7_load_1 (122, (.iconst 1, 1)) (List.mem_of_getElem? (i := 27) rfl)
theorem dX7_load_123 : decode cX7_load 123 = .ok (.if_icmp .ne 15, 3) := dgX7_load_1 (123, (.if_icmp .ne 15, 3)) (List.mem_of_getElem? (i := 28) rfl)
theorem dX7_load_126 : decode cX7_load 126 = .ok (.aload_n 0, 1) := dgX7_load_1 (126, (.aload_n 0, 1)) (List.mem_of_getElem? (i := 29) rfl)
theorem dX7_load_127 : decode cX7_load 127 = .ok (.iload_n 2, 1) := dgX7_load_1 (127, (.iload_n 2, 1)) (List.mem_of_getElem? (i := 30) rfl)
theorem dX7_load_128 : decode cX7_load 128 = .ok (.invokevirtual 82, 3) := dgX7_load_1 (128, (.invokevirtual 82, 3)) (List.mem_of_getElem? (i := 31) rfl)
theorem dX7_load_131 : decode cX7_load 131 = .ok (.iload_n 2, 1) := dgX7_load_1 (131, (.iload_n 2, 1)) (List.mem_of_getElem? (i := 32) rfl)
theorem dX7_load_132 : decode cX7_load 132 = .ok (.iconst 1, 1) := dgX7_load_1 (132, (.iconst 1, 1)) (List.mem_of_getElem? (i := 33) rfl)
theorem dX7_load_133 : decode cX7_load 133 = .ok (.ishl, 1) := dgX7_load_1 (133, (.ishl, 1)) (List.mem_of_getElem? (i := 34) rfl)
theorem dX7_load_134 : decode cX7_load 134 = .ok (.istore_n 2, 1) := dgX7_load_1 (134, (.istore_n 2, 1)) (List.mem_of_getElem? (i := 35) rfl)
theorem dX7_load_135 : decode cX7_load 135 = .ok (.goto 7, 3) := dgX7_load_1 (135, (.goto 7, 3)) (List.mem_of_getElem? (i := 36) rfl)
theorem dX7_load_138 : decode cX7_load 138 = .ok (.aload_n 0, 1) := dgX7_load_1 (138, (.aload_n 0, 1)) (List.mem_of_getElem? (i := 37) rfl)
theorem dX7_load_139 : decode cX7_load 139 = .ok (.invokevirtual 86, 3) := dgX7_load_1 (139, (.invokevirtual 86, 3)) (List.mem_of_getElem? (i := 38) rfl)
theorem dX7_load_142 : decode cX7_load 142 = .ok (.iinc 4 1, 3) := dgX7_load_1 (142, (.iinc 4 1, 3)) (List.mem_of_getElem? (i := 39) rfl)
theorem dgX7_load_2 : ∀ r ∈ ([(145, (.goto (-77), 3)), (148, (.aload_n 0, 1)), (149, (.iload_n 2, 1)), (150, (.iconst 1, 1)), (151, (.isub, 1)), (152, (.putfield 89, 3)), (155, (.return_, 1))] : List (Nat × (Instr × Nat))), decode cX7_load r.1 = .ok r.2 := by decide +kernel
theorem dX7_load_145 : decode cX7_load 145 = .ok (.goto (-77), 3) := dgX7_load_2 (145, (.goto (-77), 3)) (List.mem_of_getElem? (i := 0) rfl)
theorem dX7_load_148 : decode cX7_load 148 = .ok (.aload_n 0, 1) := dgX7_load_2 (148, (.aload_n 0, 1)) (List.mem_of_getElem? (i := 1) rfl)
theorem dX7_load_149 : decode cX7_load 149 = .ok (.iload_n 2, 1) := dgX7_load_2 (149, (.iload_n 2, 1)) (List.mem_of_getElem? (i := 2) rfl)
theorem dX7_load_150 : decode cX7_load 150 = .ok (.iconst 1, 1) := dgX7_load_2 (150, (.iconst 1, 1)) (List.mem_of_getElem? (i := 3) rfl)
theorem dX7_load_151 : decode cX7_load 151 = .ok (.isub, 1) := dgX7_load_2 (151, (.isub, 1)) (List.mem_of_getElem? (i := 4) rfl)
theorem dX7_load_152 : decode cX7_load 152 = .ok (.putfield 89, 3) := dgX7_load_2 (152, (.putfield 89, 3)) (List.mem_of_getElem? (i := 5) rfl)
theorem dX7_load_155 : decode cX7_load 155 = .ok (.return_, 1) := dgX7_load_2 (155, (.return_, 1)) (List.mem_of_getElem? (i := 6) rfl)
theorem fl_X7_34 : Cond.fieldLink RX7 34 "LateGlass$Thief" "house" "LLateGlass$House;" ∈ tblG := tg 317 (by decide +kernel) (by decide +kernel)
theorem fl_X7_54 : Cond.fieldLink RX7 54 "LateGlass$House" "walls" "J" ∈ tblG := tg 156 (by decide +kernel) (by decide +kernel)
theorem ml_X7_58 : Cond.methodLink RX7 58 yJ7_fill_d0a16 ∈ tblG := tg 963 (by decide +kernel) (by decide +kernel)
theorem gS_X7_58 : GoodIn tblG (va_wsS RX7 58 yJ7_fill_d0a16 (wsG yJ7_fill_d0a16 cJ7_fill_d0a16 5 none)) := tgS ml_X7_58 st_J7_fill_d0a16 ini_J7 gW_J7_fill_d0a16
theorem ml_X7_64 : Cond.methodLink RX7 64 yJ7_fill_53178 ∈ tblG := tg 964 (by decide +kernel) (by decide +kernel)
theorem st_J7_fill_53178 : Cond.static yJ7_fill_53178 ∈ tblG := tg 965 (by decide +kernel) (by decide +kernel)
theorem cd_J7_fill_53178 : Cond.code yJ7_fill_53178 cJ7_fill_53178 4 none ∈ tblG := tg 966 (by decide +kernel) (by decide +kernel)
theorem gW_J7_fill_53178 : GoodIn tblG (wsG yJ7_fill_53178 cJ7_fill_53178 4 none) := tgi cd_J7_fill_53178
theorem gS_X7_64 : GoodIn tblG (va_wsS RX7 64 yJ7_fill_53178 (wsG yJ7_fill_53178 cJ7_fill_53178 4 none)) := tgS ml_X7_64 st_J7_fill_53178 ini_J7 gW_J7_fill_53178
theorem hs_J7_fill_53178 : yJ7_fill_53178.cls ≠ "java/lang/invoke/MethodHandle" ∧ yJ7_fill_53178.cls ≠ "java/lang/invoke/VarHandle" ∧ (parseMethodDescriptor yJ7_fill_53178.desc).map (fun d => d.parameters.length) = some 2 := by decide +kernel
theorem fl_X7_67 : Cond.fieldLink RX7 67 "LateGlass$House" "start" "I" ∈ tblG := tg 162 (by decide +kernel) (by decide +kernel)
theorem fl_X7_42 : Cond.fieldLink RX7 42 "LateGlass$House" "sightings" "LLateGlass$Table;" ∈ tblG := tg 179 (by decide +kernel) (by decide +kernel)
theorem fl_X7_48 : Cond.fieldLink RX7 48 "LateGlass$Table" "rows" "I" ∈ tblG := tg 137 (by decide +kernel) (by decide +kernel)
theorem ml_X7_72 : Cond.methodLink RX7 72 yX6_get ∈ tblG := tg 968 (by decide +kernel) (by decide +kernel)
theorem gV_X7_72 : GoodIn tblG (wsV RX7 72 RX6 yX6_get (wsG yX6_get cX6_get 3 (some .int))) := tgV ml_X7_72 im_X6_get se_X6_get ini_X6 gW_X6_get
theorem ml_X7_76 : Cond.methodLink RX7 76 yX5_run ∈ tblG := tg 969 (by decide +kernel) (by decide +kernel)
theorem gV_X7_76 : GoodIn tblG (wsV RX7 76 RX5 yX5_run (wsG yX5_run cX5_run 9 none)) := tgV ml_X7_76 im_X5_run se_X5_run ini_X5 gW_X5_run
theorem ml_X7_86 : Cond.methodLink RX7 86 yX7_barPoints ∈ tblG := tg 974 (by decide +kernel) (by decide +kernel)
theorem im_X7_barPoints : Cond.instanceMethod yX7_barPoints ∈ tblG := tg 975 (by decide +kernel) (by decide +kernel)
theorem se_X7_barPoints : Cond.selects RX7 yX7_barPoints yX7_barPoints ∈ tblG := tg 976 (by decide +kernel) (by decide +kernel)
theorem cd_X7_barPoints : Cond.code yX7_barPoints cX7_barPoints 2 none ∈ tblG := tg 977 (by decide +kernel) (by decide +kernel)
theorem gW_X7_barPoints : GoodIn tblG (wsG yX7_barPoints cX7_barPoints 2 none) := tgi cd_X7_barPoints
theorem gV_X7_86 : GoodIn tblG (wsV RX7 86 RX7 yX7_barPoints (wsG yX7_barPoints cX7_barPoints 2 none)) := tgV ml_X7_86 im_X7_barPoints se_X7_barPoints ini_X7 gW_X7_barPoints
theorem hv_X7_barPoints : yX7_barPoints.cls = RX7 ∧ yX7_barPoints.cls ≠ "java/lang/invoke/MethodHandle" ∧ yX7_barPoints.cls ≠ "java/lang/invoke/VarHandle" ∧ (parseMethodDescriptor yX7_barPoints.desc).map (fun d => d.parameters.length) = some 0 := by decide +kernel
theorem ml_X7_82 : Cond.methodLink RX7 82 yX7_addPoints ∈ tblG := tg 970 (by decide +kernel) (by decide +kernel)
theorem im_X7_addPoints : Cond.instanceMethod yX7_addPoints ∈ tblG := tg 972 (by decide +kernel) (by decide +kernel)
theorem se_X7_addPoints : Cond.selects RX7 yX7_addPoints yX7_addPoints ∈ tblG := tg 20 (by decide +kernel) (by decide +kernel)
theorem cd_X7_addPoints : Cond.code yX7_addPoints cX7_addPoints 3 none ∈ tblG := tg 973 (by decide +kernel) (by decide +kernel)
theorem gW_X7_addPoints : GoodIn tblG (wsG yX7_addPoints cX7_addPoints 3 none) := tgi cd_X7_addPoints
theorem gV_X7_82 : GoodIn tblG (wsV RX7 82 RX7 yX7_addPoints (wsG yX7_addPoints cX7_addPoints 3 none)) := tgV ml_X7_82 im_X7_addPoints se_X7_addPoints ini_X7 gW_X7_addPoints
theorem hv_X7_addPoints : yX7_addPoints.cls = RX7 ∧ yX7_addPoints.cls ≠ "java/lang/invoke/MethodHandle" ∧ yX7_addPoints.cls ≠ "java/lang/invoke/VarHandle" ∧ (parseMethodDescriptor yX7_addPoints.desc).map (fun d => d.parameters.length) = some 1 := by decide +kernel
theorem kl_X7_70 : Cond.constantLong RX7 70 (-1) ∈ tblG := tg 967 (by decide +kernel) (by decide +kernel)
set_option maxHeartbeats 4000000 in
set_option maxRecDepth 100000 in
theorem th_loadN (l : Launch) (G : g5_G) (a_k a_h a_g a_gn a_b a_bn a_p a_pn a_s a_sn a_bb a_j a_as a_sk a_l a_pt a_th a_ba a_ad a_w a_cn a_nx a_hp a_hl a_lv : Nat) (sz : Nat) (e_le : Int32) (e_st : Int32) (e_fo : Int32) (e_lc : Int32) (e_g : Int32) (e_b : Int32) (e_p : Int32) (e_s : Int32) (e_ln : Int32) (e_se : Int32) (e_lh : Int32) (e_br : Int32) (e_we : Int32) (e_me : Int32) (e_ce : Int32) (e_wy : Int32) (e_ho : Int32) (e_ov : Int32) (e_fu : Int32) (p_s : Int32) (e_wa : Int64) (e_gb : Int64) (f_g : Nat → Int32) (f_b : Nat → Int32) (f_p : Nat → Int32) (f_s : Nat → Int32) (f_bb : Nat → Int64) (f_as : Nat → Int32) (f_sk : Nat → Int64) (f_l : Nat → Option Nat) (f_pt : Nat → Int32) (f_ba : Nat → Int64) (f_ad : Nat → Int32) (h_e_g : 0 ≤ e_g.toInt ∧ e_g.toInt ≤ 6) (h_e_b : 0 ≤ e_b.toInt ∧ e_b.toInt ≤ 5) (h_e_p : 0 ≤ e_p.toInt ∧ e_p.toInt ≤ 8) (h_e_s : 0 ≤ e_s.toInt ∧ e_s.toInt ≤ 10) (h_e_ov : 0 ≤ e_ov.toInt ∧ e_ov.toInt ≤ 1) (e_gk : gOK f_g e_g.toInt) (e_pk : gOK f_p e_p.toInt) (e_gi : inT e_gb f_g e_g.toInt) (e_sh : ∀ r : Int, 0 ≤ r → r < e_s.toInt → 0 ≤ (tget f_s e_s.toInt 4 r (3 : Int32).toInt).toInt ∧ (tget f_s e_s.toInt 4 r (3 : Int32).toInt).toInt ≤ 1) (e_s5 : snS f_s e_s.toInt e_s.toInt.toNat ≤ 5) (e_f : e_fo.toInt < 0 ∨ e_lc.toInt ≤ e_fo.toInt) : Met l yX7_load (wsG yX7_load cX7_load 5 none) ({ frames := 14, cells := 0, slots := 0, locals := 556 }) (va_Pc [.ref a_th, .int p_s] (g5_P G [(a_k, (oc5 a_h a_j a_pt e_ln e_se e_lh e_br e_we e_me e_ce e_wy e_ho e_ov)), (a_h, (oc1 e_wa e_le e_st e_fo e_lc a_l a_g a_b a_s a_p a_w e_gb a_bb)), (a_g, (oc6 6 5 a_gn e_g)), (a_gn, (arI G 30 f_g)), (a_b, (oc6 5 24 a_bn e_b)), (a_bn, (arI G 120 f_b)), (a_p, (oc6 8 5 a_pn e_p)), (a_pn, (arI G 40 f_p)), (a_s, (oc6 10 4 a_sn e_s)), (a_sn, (arI G 40 f_s)), (a_bb, (arJ G 24 f_bb)), (a_j, (oc2 a_as a_sk)), (a_as, (arI G 8 f_as)), (a_sk, (arJ G 50 f_sk)), (a_l, (arW G 6 f_l)), (a_pt, (arI G 200 f_pt)), (a_th, (oc7 a_h a_k a_ba a_ad e_fu a_cn a_nx a_hp a_hl a_lv)), (a_ba, (arJ G 24 f_ba)), (a_ad, (arI G 1536 f_ad))] sz)) (va_Qv (fun (u : va_W) => (∃ (o_ln : Int32) (o_se : Int32) (o_lh : Int32) (o_br : Int32) (o_we : Int32) (o_me : Int32) (o_ce : Int32) (o_wy : Int32) (o_ho : Int32) (o_ov : Int32) (o_pt : Nat → Int32) (o_as : Nat → Int32) (o_sk : Nat → Int64) (o_fu : Int32) (o_ba : Nat → Int64) (o_ad : Nat → Int32), (0 ≤ o_ov.toInt ∧ o_ov.toInt ≤ 1) ∧ (TOK o_fu o_ad) ∧ (u = [(a_k, (oc5 a_h a_j a_pt o_ln o_se o_lh o_br o_we o_me o_ce o_wy o_ho o_ov)), (a_h, (oc1 e_wa e_le e_st e_fo e_lc a_l a_g a_b a_s a_p a_w e_gb a_bb)), (a_g, (oc6 6 5 a_gn e_g)), (a_gn, (arI G 30 f_g)), (a_b, (oc6 5 24 a_bn e_b)), (a_bn, (arI G 120 f_b)), (a_p, (oc6 8 5 a_pn e_p)), (a_pn, (arI G 40 f_p)), (a_s, (oc6 10 4 a_sn e_s)), (a_sn, (arI G 40 f_s)), (a_bb, (arJ G 24 f_bb)), (a_j, (oc2 a_as a_sk)), (a_as, (arI G 8 o_as)), (a_sk, (arJ G 50 o_sk)), (a_l, (arW G 6 f_l)), (a_pt, (arI G 200 o_pt)), (a_th, (oc7 a_h a_k a_ba a_ad o_fu a_cn a_nx a_hp a_hl a_lv)), (a_ba, (arJ G 24 o_ba)), (a_ad, (arI G 1536 o_ad))]))) (g5_B G (va_A [(a_k, (oc5 a_h a_j a_pt e_ln e_se e_lh e_br e_we e_me e_ce e_wy e_ho e_ov)), (a_h, (oc1 e_wa e_le e_st e_fo e_lc a_l a_g a_b a_s a_p a_w e_gb a_bb)), (a_g, (oc6 6 5 a_gn e_g)), (a_gn, (arI G 30 f_g)), (a_b, (oc6 5 24 a_bn e_b)), (a_bn, (arI G 120 f_b)), (a_p, (oc6 8 5 a_pn e_p)), (a_pn, (arI G 40 f_p)), (a_s, (oc6 10 4 a_sn e_s)), (a_sn, (arI G 40 f_s)), (a_bb, (arJ G 24 f_bb)), (a_j, (oc2 a_as a_sk)), (a_as, (arI G 8 f_as)), (a_sk, (arJ G 50 f_sk)), (a_l, (arW G 6 f_l)), (a_pt, (arI G 200 f_pt)), (a_th, (oc7 a_h a_k a_ba a_ad e_fu a_cn a_nx a_hp a_hl a_lv)), (a_ba, (arJ G 24 f_ba)), (a_ad, (arI G 1536 f_ad))] sz)) (va_A [(a_k, (oc5 a_h a_j a_pt e_ln e_se e_lh e_br e_we e_me e_ce e_wy e_ho e_ov)), (a_h, (oc1 e_wa e_le e_st e_fo e_lc a_l a_g a_b a_s a_p a_w e_gb a_bb)), (a_g, (oc6 6 5 a_gn e_g)), (a_gn, (arI G 30 f_g)), (a_b, (oc6 5 24 a_bn e_b)), (a_bn, (arI G 120 f_b)), (a_p, (oc6 8 5 a_pn e_p)), (a_pn, (arI G 40 f_p)), (a_s, (oc6 10 4 a_sn e_s)), (a_sn, (arI G 40 f_s)), (a_bb, (arJ G 24 f_bb)), (a_j, (oc2 a_as a_sk)), (a_as, (arI G 8 f_as)), (a_sk, (arJ G 50 f_sk)), (a_l, (arW G 6 f_l)), (a_pt, (arI G 200 f_pt)), (a_th, (oc7 a_h a_k a_ba a_ad e_fu a_cn a_nx a_hp a_hl a_lv)), (a_ba, (arJ G 24 f_ba)), (a_ad, (arI G 1536 f_ad))] sz)) 0 0 (va_A [(a_k, (oc5 a_h a_j a_pt e_ln e_se e_lh e_br e_we e_me e_ce e_wy e_ho e_ov)), (a_h, (oc1 e_wa e_le e_st e_fo e_lc a_l a_g a_b a_s a_p a_w e_gb a_bb)), (a_g, (oc6 6 5 a_gn e_g)), (a_gn, (arI G 30 f_g)), (a_b, (oc6 5 24 a_bn e_b)), (a_bn, (arI G 120 f_b)), (a_p, (oc6 8 5 a_pn e_p)), (a_pn, (arI G 40 f_p)), (a_s, (oc6 10 4 a_sn e_s)), (a_sn, (arI G 40 f_s)), (a_bb, (arJ G 24 f_bb)), (a_j, (oc2 a_as a_sk)), (a_as, (arI G 8 f_as)), (a_sk, (arJ G 50 f_sk)), (a_l, (arW G 6 f_l)), (a_pt, (arI G 200 f_pt)), (a_th, (oc7 a_h a_k a_ba a_ad e_fu a_cn a_nx a_hp a_hl a_lv)), (a_ba, (arJ G 24 f_ba)), (a_ad, (arI G 1536 f_ad))] sz) := by
  refine Met.ofW (cc := cX7_load) (maxL := 5) (ret := none) (by decide) rfl ?_
  intro p e s m args below meth c s₁ B hml hv
  obtain ⟨rfl, hsz, hP, hK, hD0, hN, hT⟩ := hv
  have hx := B.exec
  have hb := B.bytes
  have hr := B.returns
  have hts : ∀ w ∈ tblG, w.before _ s = true := fun w h => atoms_spec (ws := (wsG yX7_load cX7_load 5 none)) B.pre w (List.mem_cons_of_mem _ h)
  have hown : s.vm.findClass RX7 = some m.cls := findClass_of_methodNamed B.named
  have hlocks := B.notSynchronized
  subst hsz
  have hD := hD0.self (sz := s.heap.size)
  generalize hAe : va_A [(a_k, (oc5 a_h a_j a_pt e_ln e_se e_lh e_br e_we e_me e_ce e_wy e_ho e_ov)), (a_h, (oc1 e_wa e_le e_st e_fo e_lc a_l a_g a_b a_s a_p a_w e_gb a_bb)), (a_g, (oc6 6 5 a_gn e_g)), (a_gn, (arI G 30 f_g)), (a_b, (oc6 5 24 a_bn e_b)), (a_bn, (arI G 120 f_b)), (a_p, (oc6 8 5 a_pn e_p)), (a_pn, (arI G 40 f_p)), (a_s, (oc6 10 4 a_sn e_s)), (a_sn, (arI G 40 f_s)), (a_bb, (arJ G 24 f_bb)), (a_j, (oc2 a_as a_sk)), (a_as, (arI G 8 f_as)), (a_sk, (arJ G 50 f_sk)), (a_l, (arW G 6 f_l)), (a_pt, (arI G 200 f_pt)), (a_th, (oc7 a_h a_k a_ba a_ad e_fu a_cn a_nx a_hp a_hl a_lv)), (a_ba, (arJ G 24 f_ba)), (a_ad, (arI G 1536 f_ad))] s.heap.size = A at hD hT ⊢
  have hA : ∀ q : Nat, s.heap.size ≤ q → A q := fun q h => by rw [← hAe]; exact Or.inr h
  have hS : va_S A s.heap s.heap [] := va_S.rf
  have hP : va_P G.1 vwCl [(a_k, (oc5 a_h a_j a_pt e_ln e_se e_lh e_br e_we e_me e_ce e_wy e_ho e_ov)), (a_h, (oc1 e_wa e_le e_st e_fo e_lc a_l a_g a_b a_s a_p a_w e_gb a_bb)), (a_g, (oc6 6 5 a_gn e_g)), (a_gn, (arI G 30 f_g)), (a_b, (oc6 5 24 a_bn e_b)), (a_bn, (arI G 120 f_b)), (a_p, (oc6 8 5 a_pn e_p)), (a_pn, (arI G 40 f_p)), (a_s, (oc6 10 4 a_sn e_s)), (a_sn, (arI G 40 f_s)), (a_bb, (arJ G 24 f_bb)), (a_j, (oc2 a_as a_sk)), (a_as, (arI G 8 f_as)), (a_sk, (arJ G 50 f_sk)), (a_l, (arW G 6 f_l)), (a_pt, (arI G 200 f_pt)), (a_th, (oc7 a_h a_k a_ba a_ad e_fu a_cn a_nx a_hp a_hl a_lv)), (a_ba, (arJ G 24 f_ba)), (a_ad, (arI G 1536 f_ad))] s.heap := hP
  have hl := lv_entry ([.ref a_th, .int p_s]) (n := 5) (Nat.le_of_ble_eq_true rfl)
  rw [lg_entry_eq]
  generalize (lg_sl ([.ref a_th, .int p_s]) ++ List.replicate (5 - (lg_sl ([.ref a_th, .int p_s])).length) Slot.unset).toArray = ls at hl ⊢
  have hl : lv_has ls 5 [(0, .ref a_th), (1, .int p_s)] := hl
  refine lv_aload_n hx hb dX7_load_0 rfl (lv_at hl 0 rfl) ?_
  refine va_get (D := G.1) (ci := 7) (v := .ref a_ba) (C := RX7) (T := TX7) (N := 10) hx hb hts inG_X7 hown hK hP 16 rfl rfl 2 (by decide) (hts _ fl_X7_9) (fun _ h9 => h9) rfl dX7_load_1 ?_
  refine lv_aload_n hx hb dX7_load_4 rfl (lv_at hl 0 rfl) ?_
  refine va_get (D := G.1) (ci := 7) (v := .ref a_h) (C := RX7) (T := TX7) (N := 10) hx hb hts inG_X7 hown hK hP 16 rfl rfl 0 (by decide) (hts _ fl_X7_34) (fun _ h9 => h9) rfl dX7_load_5 ?_
  refine va_get (D := G.1) (ci := 1) (v := .long e_wa) (C := RX1) (T := TX1) (N := 13) hx hb hts inG_X1 hown hK hP 1 rfl rfl 0 (by decide) (hts _ fl_X7_54) (fun _ h9 => h9) rfl dX7_load_8 ?_
  obtain ⟨hPc, hDc, hFc⟩ := g5_sub3 (wc := [(a_ba, (arJ G 24 f_ba))]) hP hD hS hA [17] (by decide) rfl
  refine va_callv (va_runS (As := [.ref a_ba, .long e_wa]) (rest := []) ⟨hx, hb, hml, hown, hts⟩ (k_fillJ24 l G a_ba s.heap.size e_wa f_ba) (va_cwS 2 hts gS_X7_58 rfl rfl rfl hs_J7_fill_d0a16 ⟨Nat.le_of_ble_eq_true rfl, Nat.le_of_ble_eq_true rfl⟩) (g5_preS hPc hK hDc hN hT hS hFc) rfl rfl hl.1 rfl (lv_room (Nat.le_of_ble_eq_true rfl)) dX7_load_11 ⟨Nat.le_of_ble_eq_true rfl, Nat.le_of_ble_eq_true rfl⟩) hS (fun q _ h => hFc q h) hFc (fun u t H1 locs ht hvm hw hB hz1 hk1 hS => ?_)
  obtain ⟨hP1, hD1⟩ := hB
  rw [ht] at hP1
  obtain rfl := hw
  obtain ⟨hP, hD⟩ := va_join (wr := [(a_k, (oc5 a_h a_j a_pt e_ln e_se e_lh e_br e_we e_me e_ce e_wy e_ho e_ov)), (a_h, (oc1 e_wa e_le e_st e_fo e_lc a_l a_g a_b a_s a_p a_w e_gb a_bb)), (a_g, (oc6 6 5 a_gn e_g)), (a_gn, (arI G 30 f_g)), (a_b, (oc6 5 24 a_bn e_b)), (a_bn, (arI G 120 f_b)), (a_p, (oc6 8 5 a_pn e_p)), (a_pn, (arI G 40 f_p)), (a_s, (oc6 10 4 a_sn e_s)), (a_sn, (arI G 40 f_s)), (a_bb, (arJ G 24 f_bb)), (a_j, (oc2 a_as a_sk)), (a_as, (arI G 8 f_as)), (a_sk, (arJ G 50 f_sk)), (a_l, (arW G 6 f_l)), (a_pt, (arI G 200 f_pt)), (a_th, (oc7 a_h a_k a_ba a_ad e_fu a_cn a_nx a_hp a_hl a_lv)), (a_ad, (arI G 1536 f_ad))]) hP hD [17] [0, 1, 2, 3, 4, 5, 6, 7, 8, 9, 10, 11, 12, 13, 14, 15, 16, 18] rfl rfl (by decide) (by decide) hk1 hFc hP1 hD1
  generalize H1 = H at hP hS ⊢
  refine g5_rs [(a_k, (oc5 a_h a_j a_pt e_ln e_se e_lh e_br e_we e_me e_ce e_wy e_ho e_ov)), (a_h, (oc1 e_wa e_le e_st e_fo e_lc a_l a_g a_b a_s a_p a_w e_gb a_bb)), (a_g, (oc6 6 5 a_gn e_g)), (a_gn, (arI G 30 f_g)), (a_b, (oc6 5 24 a_bn e_b)), (a_bn, (arI G 120 f_b)), (a_p, (oc6 8 5 a_pn e_p)), (a_pn, (arI G 40 f_p)), (a_s, (oc6 10 4 a_sn e_s)), (a_sn, (arI G 40 f_s)), (a_bb, (arJ G 24 f_bb)), (a_j, (oc2 a_as a_sk)), (a_as, (arI G 8 f_as)), (a_sk, (arJ G 50 f_sk)), (a_l, (arW G 6 f_l)), (a_pt, (arI G 200 f_pt)), (a_th, (oc7 a_h a_k a_ba a_ad e_fu a_cn a_nx a_hp a_hl a_lv)), (a_ad, (arI G 1536 f_ad)), (a_ba, (arJ G 24 (fun _ => e_wa)))] hP hD (fun hP hD => ?_)
  refine lv_aload_n hx hb dX7_load_14 rfl (lv_at hl 0 rfl) ?_
  refine va_get (D := G.1) (ci := 7) (v := .ref a_ad) (C := RX7) (T := TX7) (N := 10) hx hb hts inG_X7 hown hK hP 16 rfl rfl 3 (by decide) (hts _ fl_X7_15) (fun _ h9 => h9) rfl dX7_load_15 ?_
  refine lv_iconst (v := 0) hx hb dX7_load_18 (by decide) ?_
  obtain ⟨hPc, hDc, hFc⟩ := g5_sub3 (wc := [(a_ad, (arI G 1536 f_ad))]) hP hD hS hA [17] (by decide) rfl
  refine va_callv (va_runS (As := [.ref a_ad, .int 0]) (rest := []) ⟨hx, hb, hml, hown, hts⟩ (k_fillI1536 l G a_ad H.size 0 f_ad) (va_cwS 2 hts gS_X7_64 rfl rfl rfl hs_J7_fill_53178 ⟨Nat.le_of_ble_eq_true rfl, Nat.le_of_ble_eq_true rfl⟩) (g5_preS hPc hK hDc hN hT hS hFc) rfl rfl hl.1 rfl (lv_room (Nat.le_of_ble_eq_true rfl)) dX7_load_19 ⟨Nat.le_of_ble_eq_true rfl, Nat.le_of_ble_eq_true rfl⟩) hS (fun q _ h => hFc q h) hFc (fun u t H1 locs ht hvm hw hB hz1 hk1 hS => ?_)
  obtain ⟨hP1, hD1⟩ := hB
  rw [ht] at hP1
  obtain rfl := hw
  obtain ⟨hP, hD⟩ := va_join (wr := [(a_k, (oc5 a_h a_j a_pt e_ln e_se e_lh e_br e_we e_me e_ce e_wy e_ho e_ov)), (a_h, (oc1 e_wa e_le e_st e_fo e_lc a_l a_g a_b a_s a_p a_w e_gb a_bb)), (a_g, (oc6 6 5 a_gn e_g)), (a_gn, (arI G 30 f_g)), (a_b, (oc6 5 24 a_bn e_b)), (a_bn, (arI G 120 f_b)), (a_p, (oc6 8 5 a_pn e_p)), (a_pn, (arI G 40 f_p)), (a_s, (oc6 10 4 a_sn e_s)), (a_sn, (arI G 40 f_s)), (a_bb, (arJ G 24 f_bb)), (a_j, (oc2 a_as a_sk)), (a_as, (arI G 8 f_as)), (a_sk, (arJ G 50 f_sk)), (a_l, (arW G 6 f_l)), (a_pt, (arI G 200 f_pt)), (a_th, (oc7 a_h a_k a_ba a_ad e_fu a_cn a_nx a_hp a_hl a_lv)), (a_ba, (arJ G 24 (fun _ => e_wa)))]) hP hD [17] [0, 1, 2, 3, 4, 5, 6, 7, 8, 9, 10, 11, 12, 13, 14, 15, 16, 18] rfl rfl (by decide) (by decide) hk1 hFc hP1 hD1
  generalize H1 = H at hP hS ⊢
  refine g5_rs [(a_k, (oc5 a_h a_j a_pt e_ln e_se e_lh e_br e_we e_me e_ce e_wy e_ho e_ov)), (a_h, (oc1 e_wa e_le e_st e_fo e_lc a_l a_g a_b a_s a_p a_w e_gb a_bb)), (a_g, (oc6 6 5 a_gn e_g)), (a_gn, (arI G 30 f_g)), (a_b, (oc6 5 24 a_bn e_b)), (a_bn, (arI G 120 f_b)), (a_p, (oc6 8 5 a_pn e_p)), (a_pn, (arI G 40 f_p)), (a_s, (oc6 10 4 a_sn e_s)), (a_sn, (arI G 40 f_s)), (a_bb, (arJ G 24 f_bb)), (a_j, (oc2 a_as a_sk)), (a_as, (arI G 8 f_as)), (a_sk, (arJ G 50 f_sk)), (a_l, (arW G 6 f_l)), (a_pt, (arI G 200 f_pt)), (a_th, (oc7 a_h a_k a_ba a_ad e_fu a_cn a_nx a_hp a_hl a_lv)), (a_ba, (arJ G 24 (fun _ => e_wa))), (a_ad, (arI G 1536 (fun _ => (0 : Int32))))] hP hD (fun hP hD => ?_)
  refine lv_aload_n hx hb dX7_load_22 rfl (lv_at hl 0 rfl) ?_
  refine va_get (D := G.1) (ci := 7) (v := .ref a_h) (C := RX7) (T := TX7) (N := 10) hx hb hts inG_X7 hown hK hP 16 rfl rfl 0 (by decide) (hts _ fl_X7_34) (fun _ h9 => h9) rfl dX7_load_23 ?_
  refine va_get (D := G.1) (ci := 1) (v := .int e_st) (C := RX1) (T := TX1) (N := 13) hx hb hts inG_X1 hown hK hP 1 rfl rfl 2 (by decide) (hts _ fl_X7_67) (fun _ h9 => h9) rfl dX7_load_26 ?_
  refine lv_iconst (v := (-1)) hx hb dX7_load_29 (by decide) ?_
  refine lv_icmp_eq (tgt := 55) hx hb dX7_load_30 (by decide) (fun c_1 => ?_) (fun c_1 => ?_)
  ·
    have i_1 : e_st.toInt = (-1) := by have z := g5_eq (a := e_st.toInt) (b := (-1)) (by rfl) (by decide) c_1; omega
    refine lv_iconst (v := 1) hx hb dX7_load_55 (by decide) ?_
    refine lv_istore_n (lv' := [(2, .int 1), (0, .ref a_th), (1, .int p_s)]) hx hb dX7_load_56 rfl hl (by decide) rfl (fun ls hl => ?_)
    refine lv_aload_n hx hb dX7_load_57 rfl (lv_at hl 1 rfl) ?_
    refine va_get (D := G.1) (ci := 7) (v := .ref a_h) (C := RX7) (T := TX7) (N := 10) hx hb hts inG_X7 hown hK hP 16 rfl rfl 0 (by decide) (hts _ fl_X7_34) (fun _ h9 => h9) rfl dX7_load_58 ?_
    refine va_get (D := G.1) (ci := 1) (v := .ref a_s) (C := RX1) (T := TX1) (N := 13) hx hb hts inG_X1 hown hK hP 1 rfl rfl 8 (by decide) (hts _ fl_X7_42) (fun _ h9 => h9) rfl dX7_load_61 ?_
    refine lv_astore_n (lv' := [(3, .ref a_s), (2, .int 1), (0, .ref a_th), (1, .int p_s)]) hx hb dX7_load_64 rfl hl (by decide) rfl (fun ls hl => ?_)
    refine lv_iconst (v := 0) hx hb dX7_load_65 (by decide) ?_
    refine lv_istore (lv' := [(4, .int 0), (3, .ref a_s), (2, .int 1), (0, .ref a_th), (1, .int p_s)]) hx hb dX7_load_66 hl (by decide) rfl (fun ls hl => ?_)
    refine g5_loop (α := (Int32) × (Int32) × (Int32) × (Int32) × (Int32) × (Int32) × (Int32) × (Int32) × (Int32) × (Int32) × (Int32) × (Nat → Int32) × (Nat → Int32) × (Nat → Int64) × (Int32) × (Nat → Int64) × (Nat → Int32)) (fun (q : (Int32) × (Int32) × (Int32) × (Int32) × (Int32) × (Int32) × (Int32) × (Int32) × (Int32) × (Int32) × (Int32) × (Nat → Int32) × (Nat → Int32) × (Nat → Int64) × (Int32) × (Nat → Int64) × (Nat → Int32)) (ls : Array Slot) (H : Heap) (locs : List Loc) => match q with | (k_b, k_i, k_se, k_lh, k_br, k_we, k_me, k_ce, k_wy, k_ho, k_ov, k_pt, k_as, k_sk, k_ln, k_ba, k_ad) => lv_has ls 5 [(2, .int k_b), (4, .int k_i), (3, .ref a_s), (0, .ref a_th), (1, .int p_s)] ∧ va_P G.1 vwCl [(a_k, (oc5 a_h a_j a_pt k_ln k_se k_lh k_br k_we k_me k_ce k_wy k_ho k_ov)), (a_h, (oc1 e_wa e_le e_st e_fo e_lc a_l a_g a_b a_s a_p a_w e_gb a_bb)), (a_g, (oc6 6 5 a_gn e_g)), (a_gn, (arI G 30 f_g)), (a_b, (oc6 5 24 a_bn e_b)), (a_bn, (arI G 120 f_b)), (a_p, (oc6 8 5 a_pn e_p)), (a_pn, (arI G 40 f_p)), (a_s, (oc6 10 4 a_sn e_s)), (a_sn, (arI G 40 f_s)), (a_bb, (arJ G 24 f_bb)), (a_j, (oc2 a_as a_sk)), (a_as, (arI G 8 k_as)), (a_sk, (arJ G 50 k_sk)), (a_l, (arW G 6 f_l)), (a_pt, (arI G 200 k_pt)), (a_th, (oc7 a_h a_k a_ba a_ad e_fu a_cn a_nx a_hp a_hl a_lv)), (a_ba, (arJ G 24 k_ba)), (a_ad, (arI G 1536 k_ad))] H ∧ va_D A [(a_k, (oc5 a_h a_j a_pt k_ln k_se k_lh k_br k_we k_me k_ce k_wy k_ho k_ov)), (a_h, (oc1 e_wa e_le e_st e_fo e_lc a_l a_g a_b a_s a_p a_w e_gb a_bb)), (a_g, (oc6 6 5 a_gn e_g)), (a_gn, (arI G 30 f_g)), (a_b, (oc6 5 24 a_bn e_b)), (a_bn, (arI G 120 f_b)), (a_p, (oc6 8 5 a_pn e_p)), (a_pn, (arI G 40 f_p)), (a_s, (oc6 10 4 a_sn e_s)), (a_sn, (arI G 40 f_s)), (a_bb, (arJ G 24 f_bb)), (a_j, (oc2 a_as a_sk)), (a_as, (arI G 8 k_as)), (a_sk, (arJ G 50 k_sk)), (a_l, (arW G 6 f_l)), (a_pt, (arI G 200 k_pt)), (a_th, (oc7 a_h a_k a_ba a_ad e_fu a_cn a_nx a_hp a_hl a_lv)), (a_ba, (arJ G 24 k_ba)), (a_ad, (arI G 1536 k_ad))] ∧ va_S A s.heap H locs ∧ (0 ≤ k_i.toInt ∧ k_i.toInt ≤ 10) ∧ (0 ≤ k_ov.toInt ∧ k_ov.toInt ≤ 1) ∧ (k_i.toInt ≤ e_s.toInt) ∧ (LDI f_s e_s.toInt k_i.toInt k_b k_ad)) (fun (q : (Int32) × (Int32) × (Int32) × (Int32) × (Int32) × (Int32) × (Int32) × (Int32) × (Int32) × (Int32) × (Int32) × (Nat → Int32) × (Nat → Int32) × (Nat → Int64) × (Int32) × (Nat → Int64) × (Nat → Int32)) => match q with | (k_b, k_i, k_se, k_lh, k_br, k_we, k_me, k_ce, k_wy, k_ho, k_ov, k_pt, k_as, k_sk, k_ln, k_ba, k_ad) => Int.toNat (10 - k_i.toInt)) (1, 0, e_se, e_lh, e_br, e_we, e_me, e_ce, e_wy, e_ho, e_ov, f_pt, f_as, f_sk, e_ln, (fun _ => e_wa), (fun _ => (0 : Int32))) ⟨lv_sub hl [2, 0, 1, 3, 4] rfl, hP, hD, hS, ⟨by decide, by decide⟩, h_e_ov, by have z0 : (0 : Int32).toInt = 0 := (by decide); omega, ld_0⟩ ?_
    rintro ⟨k_b, k_i, k_se, k_lh, k_br, k_we, k_me, k_ce, k_wy, k_ho, k_ov, k_pt, k_as, k_sk, k_ln, k_ba, k_ad⟩ ls H locs ⟨hl, hP, hD, hS, i_2, i_3, i_4, i_5⟩ ih_68_6
    have hl : lv_has ls 5 [(2, .int k_b), (4, .int k_i), (3, .ref a_s), (0, .ref a_th), (1, .int p_s)] := hl
    have i_2 : 0 ≤ k_i.toInt ∧ k_i.toInt ≤ 10 := i_2
    have i_3 : 0 ≤ k_ov.toInt ∧ k_ov.toInt ≤ 1 := i_3
    have i_4 : k_i.toInt ≤ e_s.toInt := i_4
    have i_5 : LDI f_s e_s.toInt k_i.toInt k_b k_ad := i_5
    refine g5_rs [(a_k, (oc5 a_h a_j a_pt k_ln k_se k_lh k_br k_we k_me k_ce k_wy k_ho k_ov)), (a_h, (oc1 e_wa e_le e_st e_fo e_lc a_l a_g a_b a_s a_p a_w e_gb a_bb)), (a_g, (oc6 6 5 a_gn e_g)), (a_gn, (arI G 30 f_g)), (a_b, (oc6 5 24 a_bn e_b)), (a_bn, (arI G 120 f_b)), (a_p, (oc6 8 5 a_pn e_p)), (a_pn, (arI G 40 f_p)), (a_s, (oc6 10 4 a_sn e_s)), (a_sn, (arI G 40 f_s)), (a_bb, (arJ G 24 f_bb)), (a_j, (oc2 a_as a_sk)), (a_as, (arI G 8 k_as)), (a_sk, (arJ G 50 k_sk)), (a_l, (arW G 6 f_l)), (a_pt, (arI G 200 k_pt)), (a_th, (oc7 a_h a_k a_ba a_ad e_fu a_cn a_nx a_hp a_hl a_lv)), (a_ba, (arJ G 24 k_ba)), (a_ad, (arI G 1536 k_ad))] hP hD (fun hP hD => ?_)
    refine lv_iload hx hb dX7_load_68 (lv_at hl 1 rfl) ?_
    refine lv_aload_n hx hb dX7_load_70 rfl (lv_at hl 2 rfl) ?_
    refine va_get (D := G.1) (ci := 6) (v := .int e_s) (C := RX6) (T := TX6) (N := 4) hx hb hts inG_X6 hown hK hP 8 rfl rfl 3 (by decide) (hts _ fl_X7_48) (fun _ h9 => h9) rfl dX7_load_71 ?_
    refine lv_icmp_ge (tgt := 148) hx hb dX7_load_74 (by decide) (fun c_7 => ?_) (fun c_7 => ?_)
    ·
      have i_7 : k_i.toInt ≥ e_s.toInt := by have z := g5_ge (a := k_i.toInt) (b := e_s.toInt) (by rfl) (by rfl) c_7; omega
      refine lv_aload_n hx hb dX7_load_148 rfl (lv_at hl 3 rfl) ?_
      refine lv_iload_n hx hb dX7_load_149 rfl (lv_at hl 0 rfl) ?_
      refine lv_iconst (v := 1) hx hb dX7_load_150 (by decide) ?_
      refine lv_isub hx hb dX7_load_151 ?_
      refine va_put (D := G.1) (ci := 7) (v := .int (k_b - 1)) (ty := .int) (C := RX7) (T := TX7) (N := 10) hx hb hts inG_X7 tyX7 tyX7_ok nmX7 hown hK hP hD hS 16 rfl rfl 4 (by decide) (hts _ fl_X7_89) (fun _ h9 => h9) rfl (by decide +kernel) rfl rfl (Nat.le_of_ble_eq_true rfl) dX7_load_152 (fun H locs hP hD hS => ?_)
      refine g5_rs [(a_k, (oc5 a_h a_j a_pt k_ln k_se k_lh k_br k_we k_me k_ce k_wy k_ho k_ov)), (a_h, (oc1 e_wa e_le e_st e_fo e_lc a_l a_g a_b a_s a_p a_w e_gb a_bb)), (a_g, (oc6 6 5 a_gn e_g)), (a_gn, (arI G 30 f_g)), (a_b, (oc6 5 24 a_bn e_b)), (a_bn, (arI G 120 f_b)), (a_p, (oc6 8 5 a_pn e_p)), (a_pn, (arI G 40 f_p)), (a_s, (oc6 10 4 a_sn e_s)), (a_sn, (arI G 40 f_s)), (a_bb, (arJ G 24 f_bb)), (a_j, (oc2 a_as a_sk)), (a_as, (arI G 8 k_as)), (a_sk, (arJ G 50 k_sk)), (a_l, (arW G 6 f_l)), (a_pt, (arI G 200 k_pt)), (a_th, (oc7 a_h a_k a_ba a_ad (k_b - 1) a_cn a_nx a_hp a_hl a_lv)), (a_ba, (arJ G 24 k_ba)), (a_ad, (arI G 1536 k_ad))] hP hD (fun hP hD => ?_)
      exact W.vret hx hb hr (fun t ht hW => ⟨⟨[(a_k, (oc5 a_h a_j a_pt k_ln k_se k_lh k_br k_we k_me k_ce k_wy k_ho k_ov)), (a_h, (oc1 e_wa e_le e_st e_fo e_lc a_l a_g a_b a_s a_p a_w e_gb a_bb)), (a_g, (oc6 6 5 a_gn e_g)), (a_gn, (arI G 30 f_g)), (a_b, (oc6 5 24 a_bn e_b)), (a_bn, (arI G 120 f_b)), (a_p, (oc6 8 5 a_pn e_p)), (a_pn, (arI G 40 f_p)), (a_s, (oc6 10 4 a_sn e_s)), (a_sn, (arI G 40 f_s)), (a_bb, (arJ G 24 f_bb)), (a_j, (oc2 a_as a_sk)), (a_as, (arI G 8 k_as)), (a_sk, (arJ G 50 k_sk)), (a_l, (arW G 6 f_l)), (a_pt, (arI G 200 k_pt)), (a_th, (oc7 a_h a_k a_ba a_ad (k_b - 1) a_cn a_nx a_hp a_hl a_lv)), (a_ba, (arJ G 24 k_ba)), (a_ad, (arI G 1536 k_ad))], rfl, ⟨k_ln, k_se, k_lh, k_br, k_we, k_me, k_ce, k_wy, k_ho, k_ov, k_pt, k_as, k_sk, (k_b - 1), k_ba, k_ad, i_3, ld_end i_5 e_sh e_s5 (by omega) (by omega), rfl⟩, by rw [ht]; exact hP.sub [0, 1, 2, 3, 4, 5, 6, 7, 8, 9, 10, 11, 12, 13, 14, 15, 16, 17, 18] rfl, hD.sub [0, 1, 2, 3, 4, 5, 6, 7, 8, 9, 10, 11, 12, 13, 14, 15, 16, 17, 18] (by decide) rfl⟩, hS.F ht⟩) hS.2.2 dX7_load_155
    ·
      have i_7 : k_i.toInt < e_s.toInt := by have z := g5_geN (a := k_i.toInt) (b := e_s.toInt) (by rfl) (by rfl) c_7; omega
      refine lv_iload_n hx hb dX7_load_77 rfl (lv_at hl 4 rfl) ?_
      refine lv_iload hx hb dX7_load_78 (lv_at hl 1 rfl) ?_
      refine lv_ishr hx hb dX7_load_80 ?_
      refine lv_iconst (v := 1) hx hb dX7_load_81 (by decide) ?_
      refine lv_iand hx hb dX7_load_82 ?_
      refine lv_if_eq (tgt := 142) hx hb dX7_load_83 (by decide) (fun c_8 => ?_) (fun c_8 => ?_)
      ·
        have i_8 : ((p_s >>> (k_i &&& 31)) &&& 1).toInt = 0 := by have z := g5_eq (a := ((p_s >>> (k_i &&& 31)) &&& 1).toInt) (b := 0) (by rfl) (by decide) c_8; omega
        refine lv_iinc (v := (k_i + 1)) (lv' := [(4, .int (k_i + 1)), (2, .int k_b), (3, .ref a_s), (0, .ref a_th), (1, .int p_s)]) hx hb dX7_load_142 hl (k := 1) rfl rfl (by decide) rfl (fun ls hl => ?_)
        have t_9 : (k_i + 1).toInt = k_i.toInt + 1 := g5_iadd (a := k_i.toInt) (b := 1) rfl (by decide) (by omega) (by omega)
        refine lv_goto (tgt := 68) hx hb dX7_load_145 (by decide) ?_
        exact ih_68_6 (k_b, (k_i + 1), k_se, k_lh, k_br, k_we, k_me, k_ce, k_wy, k_ho, k_ov, k_pt, k_as, k_sk, k_ln, k_ba, k_ad) ls H locs (show Int.toNat (10 - (k_i + 1).toInt) < Int.toNat (10 - k_i.toInt) from g_up (show k_i.toInt < (k_i + 1).toInt by omega) (show k_i.toInt < 10 by omega)) ⟨lv_sub hl [1, 0, 2, 3, 4] rfl, hP, hD, hS, ⟨by omega, by omega⟩, i_3, by omega, ld_stay i_5 e_sh (by omega) (by omega) (by omega)⟩
      ·
        have n_8 : gNe (((p_s >>> (k_i &&& 31)) &&& 1).toInt) (0) := by have z := g5_eqN (a := ((p_s >>> (k_i &&& 31)) &&& 1).toInt) (b := 0) (by rfl) (by decide) c_8; unfold gNe; omega
        refine lv_aload_n hx hb dX7_load_86 rfl (lv_at hl 3 rfl) ?_
        refine va_get (D := G.1) (ci := 7) (v := .ref a_k) (C := RX7) (T := TX7) (N := 10) hx hb hts inG_X7 hown hK hP 16 rfl rfl 1 (by decide) (hts _ fl_X7_38) (fun _ h9 => h9) rfl dX7_load_87 ?_
        refine lv_aload_n hx hb dX7_load_90 rfl (lv_at hl 2 rfl) ?_
        refine lv_iload hx hb dX7_load_91 (lv_at hl 1 rfl) ?_
        refine lv_iconst (v := 0) hx hb dX7_load_93 (by decide) ?_
        obtain ⟨hPc, hDc, hFc⟩ := g5_sub3 (wc := [(a_s, (oc6 10 4 a_sn e_s)), (a_sn, (arI G 40 f_s))]) hP hD hS hA [8, 9] (by decide) rfl
        refine va_calli (va_runV (As := [.int k_i, .int 0]) (rest := [.ref a_k]) ⟨hx, hb, hml, hown, hts⟩ (t_get_S l G a_s a_sn H.size e_s k_i 0 f_s h_e_s) (cwV 2 hts gV_X7_72 rfl rfl rfl hv_X6_get ⟨Nat.le_of_ble_eq_true rfl, Nat.le_of_ble_eq_true rfl⟩) (g5_preV hPc hK hDc hN hT hS hFc (ci := 6) (q0 := 0) rfl rfl) rfl rfl hl.1 rfl (lv_room (Nat.le_of_ble_eq_true rfl)) dX7_load_94 ⟨Nat.le_of_ble_eq_true rfl, Nat.le_of_ble_eq_true rfl⟩) hS (fun q _ h => hFc q h) hFc (fun r u t H1 locs ht hvm hw hB hz1 hk1 hS => ?_)
        obtain ⟨hP1, hD1⟩ := hB
        rw [ht] at hP1
        obtain ⟨z11, i_10, y12, rfl⟩ := hw
        have i_10 : z11 = tget f_s e_s.toInt 4 k_i.toInt (0 : Int32).toInt := i_10
        obtain ⟨hP, hD⟩ := va_join (wr := [(a_k, (oc5 a_h a_j a_pt k_ln k_se k_lh k_br k_we k_me k_ce k_wy k_ho k_ov)), (a_h, (oc1 e_wa e_le e_st e_fo e_lc a_l a_g a_b a_s a_p a_w e_gb a_bb)), (a_g, (oc6 6 5 a_gn e_g)), (a_gn, (arI G 30 f_g)), (a_b, (oc6 5 24 a_bn e_b)), (a_bn, (arI G 120 f_b)), (a_p, (oc6 8 5 a_pn e_p)), (a_pn, (arI G 40 f_p)), (a_bb, (arJ G 24 f_bb)), (a_j, (oc2 a_as a_sk)), (a_as, (arI G 8 k_as)), (a_sk, (arJ G 50 k_sk)), (a_l, (arW G 6 f_l)), (a_pt, (arI G 200 k_pt)), (a_th, (oc7 a_h a_k a_ba a_ad e_fu a_cn a_nx a_hp a_hl a_lv)), (a_ba, (arJ G 24 k_ba)), (a_ad, (arI G 1536 k_ad))]) hP hD [8, 9] [0, 1, 2, 3, 4, 5, 6, 7, 10, 11, 12, 13, 14, 15, 16, 17, 18] rfl rfl (by decide) (by decide) hk1 hFc hP1 hD1
        generalize H1 = H at hP hS ⊢
        refine g5_rs [(a_k, (oc5 a_h a_j a_pt k_ln k_se k_lh k_br k_we k_me k_ce k_wy k_ho k_ov)), (a_h, (oc1 e_wa e_le e_st e_fo e_lc a_l a_g a_b a_s a_p a_w e_gb a_bb)), (a_g, (oc6 6 5 a_gn e_g)), (a_gn, (arI G 30 f_g)), (a_b, (oc6 5 24 a_bn e_b)), (a_bn, (arI G 120 f_b)), (a_p, (oc6 8 5 a_pn e_p)), (a_pn, (arI G 40 f_p)), (a_bb, (arJ G 24 f_bb)), (a_j, (oc2 a_as a_sk)), (a_as, (arI G 8 k_as)), (a_sk, (arJ G 50 k_sk)), (a_l, (arW G 6 f_l)), (a_pt, (arI G 200 k_pt)), (a_th, (oc7 a_h a_k a_ba a_ad e_fu a_cn a_nx a_hp a_hl a_lv)), (a_ba, (arJ G 24 k_ba)), (a_ad, (arI G 1536 k_ad)), (a_s, (oc6 10 4 a_sn e_s)), (a_sn, (arI G 40 f_s))] hP hD (fun hP hD => ?_)
        refine g5_ti (v := z11) y12 ?_
        refine lv_aload_n hx hb dX7_load_97 rfl (lv_at hl 2 rfl) ?_
        refine lv_iload hx hb dX7_load_98 (lv_at hl 1 rfl) ?_
        refine lv_iconst (v := 1) hx hb dX7_load_100 (by decide) ?_
        obtain ⟨hPc, hDc, hFc⟩ := g5_sub3 (wc := [(a_s, (oc6 10 4 a_sn e_s)), (a_sn, (arI G 40 f_s))]) hP hD hS hA [17, 18] (by decide) rfl
        refine va_calli (va_runV (As := [.int k_i, .int 1]) (rest := [.int z11, .ref a_k]) ⟨hx, hb, hml, hown, hts⟩ (t_get_S l G a_s a_sn H.size e_s k_i 1 f_s h_e_s) (cwV 2 hts gV_X7_72 rfl rfl rfl hv_X6_get ⟨Nat.le_of_ble_eq_true rfl, Nat.le_of_ble_eq_true rfl⟩) (g5_preV hPc hK hDc hN hT hS hFc (ci := 6) (q0 := 0) rfl rfl) rfl rfl hl.1 rfl (lv_room (Nat.le_of_ble_eq_true rfl)) dX7_load_101 ⟨Nat.le_of_ble_eq_true rfl, Nat.le_of_ble_eq_true rfl⟩) hS (fun q _ h => hFc q h) hFc (fun r u t H1 locs ht hvm hw hB hz1 hk1 hS => ?_)
        obtain ⟨hP1, hD1⟩ := hB
        rw [ht] at hP1
        obtain ⟨z14, i_13, y15, rfl⟩ := hw
        have i_13 : z14 = tget f_s e_s.toInt 4 k_i.toInt (1 : Int32).toInt := i_13
        obtain ⟨hP, hD⟩ := va_join (wr := [(a_k, (oc5 a_h a_j a_pt k_ln k_se k_lh k_br k_we k_me k_ce k_wy k_ho k_ov)), (a_h, (oc1 e_wa e_le e_st e_fo e_lc a_l a_g a_b a_s a_p a_w e_gb a_bb)), (a_g, (oc6 6 5 a_gn e_g)), (a_gn, (arI G 30 f_g)), (a_b, (oc6 5 24 a_bn e_b)), (a_bn, (arI G 120 f_b)), (a_p, (oc6 8 5 a_pn e_p)), (a_pn, (arI G 40 f_p)), (a_bb, (arJ G 24 f_bb)), (a_j, (oc2 a_as a_sk)), (a_as, (arI G 8 k_as)), (a_sk, (arJ G 50 k_sk)), (a_l, (arW G 6 f_l)), (a_pt, (arI G 200 k_pt)), (a_th, (oc7 a_h a_k a_ba a_ad e_fu a_cn a_nx a_hp a_hl a_lv)), (a_ba, (arJ G 24 k_ba)), (a_ad, (arI G 1536 k_ad))]) hP hD [17, 18] [0, 1, 2, 3, 4, 5, 6, 7, 8, 9, 10, 11, 12, 13, 14, 15, 16] rfl rfl (by decide) (by decide) hk1 hFc hP1 hD1
        generalize H1 = H at hP hS ⊢
        refine g5_rs [(a_k, (oc5 a_h a_j a_pt k_ln k_se k_lh k_br k_we k_me k_ce k_wy k_ho k_ov)), (a_h, (oc1 e_wa e_le e_st e_fo e_lc a_l a_g a_b a_s a_p a_w e_gb a_bb)), (a_g, (oc6 6 5 a_gn e_g)), (a_gn, (arI G 30 f_g)), (a_b, (oc6 5 24 a_bn e_b)), (a_bn, (arI G 120 f_b)), (a_p, (oc6 8 5 a_pn e_p)), (a_pn, (arI G 40 f_p)), (a_bb, (arJ G 24 f_bb)), (a_j, (oc2 a_as a_sk)), (a_as, (arI G 8 k_as)), (a_sk, (arJ G 50 k_sk)), (a_l, (arW G 6 f_l)), (a_pt, (arI G 200 k_pt)), (a_th, (oc7 a_h a_k a_ba a_ad e_fu a_cn a_nx a_hp a_hl a_lv)), (a_ba, (arJ G 24 k_ba)), (a_ad, (arI G 1536 k_ad)), (a_s, (oc6 10 4 a_sn e_s)), (a_sn, (arI G 40 f_s))] hP hD (fun hP hD => ?_)
        refine g5_ti (v := z14) y15 ?_
        refine lv_aload_n hx hb dX7_load_104 rfl (lv_at hl 2 rfl) ?_
        refine lv_iload hx hb dX7_load_105 (lv_at hl 1 rfl) ?_
        refine lv_iconst (v := 2) hx hb dX7_load_107 (by decide) ?_
        obtain ⟨hPc, hDc, hFc⟩ := g5_sub3 (wc := [(a_s, (oc6 10 4 a_sn e_s)), (a_sn, (arI G 40 f_s))]) hP hD hS hA [17, 18] (by decide) rfl
        refine va_calli (va_runV (As := [.int k_i, .int 2]) (rest := [.int z14, .int z11, .ref a_k]) ⟨hx, hb, hml, hown, hts⟩ (t_get_S l G a_s a_sn H.size e_s k_i 2 f_s h_e_s) (cwV 2 hts gV_X7_72 rfl rfl rfl hv_X6_get ⟨Nat.le_of_ble_eq_true rfl, Nat.le_of_ble_eq_true rfl⟩) (g5_preV hPc hK hDc hN hT hS hFc (ci := 6) (q0 := 0) rfl rfl) rfl rfl hl.1 rfl (lv_room (Nat.le_of_ble_eq_true rfl)) dX7_load_108 ⟨Nat.le_of_ble_eq_true rfl, Nat.le_of_ble_eq_true rfl⟩) hS (fun q _ h => hFc q h) hFc (fun r u t H1 locs ht hvm hw hB hz1 hk1 hS => ?_)
        obtain ⟨hP1, hD1⟩ := hB
        rw [ht] at hP1
        obtain ⟨z17, i_16, y18, rfl⟩ := hw
        have i_16 : z17 = tget f_s e_s.toInt 4 k_i.toInt (2 : Int32).toInt := i_16
        obtain ⟨hP, hD⟩ := va_join (wr := [(a_k, (oc5 a_h a_j a_pt k_ln k_se k_lh k_br k_we k_me k_ce k_wy k_ho k_ov)), (a_h, (oc1 e_wa e_le e_st e_fo e_lc a_l a_g a_b a_s a_p a_w e_gb a_bb)), (a_g, (oc6 6 5 a_gn e_g)), (a_gn, (arI G 30 f_g)), (a_b, (oc6 5 24 a_bn e_b)), (a_bn, (arI G 120 f_b)), (a_p, (oc6 8 5 a_pn e_p)), (a_pn, (arI G 40 f_p)), (a_bb, (arJ G 24 f_bb)), (a_j, (oc2 a_as a_sk)), (a_as, (arI G 8 k_as)), (a_sk, (arJ G 50 k_sk)), (a_l, (arW G 6 f_l)), (a_pt, (arI G 200 k_pt)), (a_th, (oc7 a_h a_k a_ba a_ad e_fu a_cn a_nx a_hp a_hl a_lv)), (a_ba, (arJ G 24 k_ba)), (a_ad, (arI G 1536 k_ad))]) hP hD [17, 18] [0, 1, 2, 3, 4, 5, 6, 7, 8, 9, 10, 11, 12, 13, 14, 15, 16] rfl rfl (by decide) (by decide) hk1 hFc hP1 hD1
        generalize H1 = H at hP hS ⊢
        refine g5_rs [(a_k, (oc5 a_h a_j a_pt k_ln k_se k_lh k_br k_we k_me k_ce k_wy k_ho k_ov)), (a_h, (oc1 e_wa e_le e_st e_fo e_lc a_l a_g a_b a_s a_p a_w e_gb a_bb)), (a_g, (oc6 6 5 a_gn e_g)), (a_gn, (arI G 30 f_g)), (a_b, (oc6 5 24 a_bn e_b)), (a_bn, (arI G 120 f_b)), (a_p, (oc6 8 5 a_pn e_p)), (a_pn, (arI G 40 f_p)), (a_bb, (arJ G 24 f_bb)), (a_j, (oc2 a_as a_sk)), (a_as, (arI G 8 k_as)), (a_sk, (arJ G 50 k_sk)), (a_l, (arW G 6 f_l)), (a_pt, (arI G 200 k_pt)), (a_th, (oc7 a_h a_k a_ba a_ad e_fu a_cn a_nx a_hp a_hl a_lv)), (a_ba, (arJ G 24 k_ba)), (a_ad, (arI G 1536 k_ad)), (a_s, (oc6 10 4 a_sn e_s)), (a_sn, (arI G 40 f_s))] hP hD (fun hP hD => ?_)
        refine g5_ti (v := z17) y18 ?_
        refine lv_iconst (v := 0) hx hb dX7_load_111 (by decide) ?_
        obtain ⟨hPc, hDc, hFc⟩ := g5_sub3 (wc := [(a_k, (oc5 a_h a_j a_pt k_ln k_se k_lh k_br k_we k_me k_ce k_wy k_ho k_ov)), (a_h, (oc1 e_wa e_le e_st e_fo e_lc a_l a_g a_b a_s a_p a_w e_gb a_bb)), (a_g, (oc6 6 5 a_gn e_g)), (a_gn, (arI G 30 f_g)), (a_b, (oc6 5 24 a_bn e_b)), (a_bn, (arI G 120 f_b)), (a_p, (oc6 8 5 a_pn e_p)), (a_pn, (arI G 40 f_p)), (a_bb, (arJ G 24 f_bb)), (a_j, (oc2 a_as a_sk)), (a_as, (arI G 8 k_as)), (a_sk, (arJ G 50 k_sk)), (a_l, (arW G 6 f_l)), (a_pt, (arI G 200 k_pt))]) hP hD hS hA [0, 1, 2, 3, 4, 5, 6, 7, 8, 9, 10, 11, 12, 13] (by decide) rfl
        refine va_callv (va_runV (As := [.int z11, .int z14, .int z17, .int 0]) (rest := []) ⟨hx, hb, hml, hown, hts⟩ (k_runN l G a_k a_h a_g a_gn a_b a_bn a_p a_pn a_bb a_j a_as a_sk a_l a_pt a_s a_w H.size e_le e_st e_fo e_lc e_g e_b e_p k_ln k_se k_lh k_br k_we k_me k_ce k_wy k_ho k_ov z11 z14 z17 0 e_wa e_gb f_g f_b f_p f_bb k_as k_sk f_l k_pt h_e_g h_e_b h_e_p i_3 (e_gk) (e_pk) (e_gi) (e_f)) (cwV 4 hts gV_X7_76 rfl rfl rfl hv_X5_run ⟨Nat.le_of_ble_eq_true rfl, Nat.le_of_ble_eq_true rfl⟩) (g5_preV hPc hK hDc hN hT hS hFc (ci := 5) (q0 := 0) rfl rfl) rfl rfl hl.1 rfl (lv_room (Nat.le_of_ble_eq_true rfl)) dX7_load_112 ⟨Nat.le_of_ble_eq_true rfl, Nat.le_of_ble_eq_true rfl⟩) hS (fun q _ h => hFc q h) hFc (fun u t H1 locs ht hvm hw hB hz1 hk1 hS => ?_)
        obtain ⟨hP1, hD1⟩ := hB
        rw [ht] at hP1
        obtain ⟨z22, z23, z24, z25, z26, z27, z28, z29, z30, z31, z32, z33, z34, i_19, i_20, i_21, rfl⟩ := hw
        have i_19 : 0 ≤ z22.toInt ∧ z22.toInt ≤ 200 := i_19
        have i_20 : 0 ≤ z31.toInt ∧ z31.toInt ≤ 1 := i_20
        have i_21 : ∀ j : Nat, (j : Int) < z22.toInt → 0 ≤ (z32 j).toInt ∧ (z32 j).toInt ≤ 1535 := i_21
        obtain ⟨hP, hD⟩ := va_join (wr := [(a_th, (oc7 a_h a_k a_ba a_ad e_fu a_cn a_nx a_hp a_hl a_lv)), (a_ba, (arJ G 24 k_ba)), (a_ad, (arI G 1536 k_ad)), (a_s, (oc6 10 4 a_sn e_s)), (a_sn, (arI G 40 f_s))]) hP hD [0, 1, 2, 3, 4, 5, 6, 7, 8, 9, 10, 11, 12, 13] [14, 15, 16, 17, 18] rfl rfl (by decide) (by decide) hk1 hFc hP1 hD1
        generalize H1 = H at hP hS ⊢
        refine g5_rs [(a_th, (oc7 a_h a_k a_ba a_ad e_fu a_cn a_nx a_hp a_hl a_lv)), (a_ba, (arJ G 24 k_ba)), (a_ad, (arI G 1536 k_ad)), (a_s, (oc6 10 4 a_sn e_s)), (a_sn, (arI G 40 f_s)), (a_k, (oc5 a_h a_j a_pt z22 z23 z24 z25 z26 z27 z28 z29 z30 z31)), (a_h, (oc1 e_wa e_le e_st e_fo e_lc a_l a_g a_b a_s a_p a_w e_gb a_bb)), (a_g, (oc6 6 5 a_gn e_g)), (a_gn, (arI G 30 f_g)), (a_b, (oc6 5 24 a_bn e_b)), (a_bn, (arI G 120 f_b)), (a_p, (oc6 8 5 a_pn e_p)), (a_pn, (arI G 40 f_p)), (a_bb, (arJ G 24 f_bb)), (a_j, (oc2 a_as a_sk)), (a_as, (arI G 8 z33)), (a_sk, (arJ G 50 z34)), (a_l, (arW G 6 f_l)), (a_pt, (arI G 200 z32))] hP hD (fun hP hD => ?_)
        refine lv_aload_n hx hb dX7_load_115 rfl (lv_at hl 2 rfl) ?_
        refine lv_iload hx hb dX7_load_116 (lv_at hl 1 rfl) ?_
        refine lv_iconst (v := 3) hx hb dX7_load_118 (by decide) ?_
        obtain ⟨hPc, hDc, hFc⟩ := g5_sub3 (wc := [(a_s, (oc6 10 4 a_sn e_s)), (a_sn, (arI G 40 f_s))]) hP hD hS hA [3, 4] (by decide) rfl
        refine va_calli (va_runV (As := [.int k_i, .int 3]) (rest := []) ⟨hx, hb, hml, hown, hts⟩ (t_get_S l G a_s a_sn H.size e_s k_i 3 f_s h_e_s) (cwV 2 hts gV_X7_72 rfl rfl rfl hv_X6_get ⟨Nat.le_of_ble_eq_true rfl, Nat.le_of_ble_eq_true rfl⟩) (g5_preV hPc hK hDc hN hT hS hFc (ci := 6) (q0 := 0) rfl rfl) rfl rfl hl.1 rfl (lv_room (Nat.le_of_ble_eq_true rfl)) dX7_load_119 ⟨Nat.le_of_ble_eq_true rfl, Nat.le_of_ble_eq_true rfl⟩) hS (fun q _ h => hFc q h) hFc (fun r u t H1 locs ht hvm hw hB hz1 hk1 hS => ?_)
        obtain ⟨hP1, hD1⟩ := hB
        rw [ht] at hP1
        obtain ⟨z36, i_35, y37, rfl⟩ := hw
        have i_35 : z36 = tget f_s e_s.toInt 4 k_i.toInt (3 : Int32).toInt := i_35
        obtain ⟨hP, hD⟩ := va_join (wr := [(a_th, (oc7 a_h a_k a_ba a_ad e_fu a_cn a_nx a_hp a_hl a_lv)), (a_ba, (arJ G 24 k_ba)), (a_ad, (arI G 1536 k_ad)), (a_k, (oc5 a_h a_j a_pt z22 z23 z24 z25 z26 z27 z28 z29 z30 z31)), (a_h, (oc1 e_wa e_le e_st e_fo e_lc a_l a_g a_b a_s a_p a_w e_gb a_bb)), (a_g, (oc6 6 5 a_gn e_g)), (a_gn, (arI G 30 f_g)), (a_b, (oc6 5 24 a_bn e_b)), (a_bn, (arI G 120 f_b)), (a_p, (oc6 8 5 a_pn e_p)), (a_pn, (arI G 40 f_p)), (a_bb, (arJ G 24 f_bb)), (a_j, (oc2 a_as a_sk)), (a_as, (arI G 8 z33)), (a_sk, (arJ G 50 z34)), (a_l, (arW G 6 f_l)), (a_pt, (arI G 200 z32))]) hP hD [3, 4] [0, 1, 2, 5, 6, 7, 8, 9, 10, 11, 12, 13, 14, 15, 16, 17, 18] rfl rfl (by decide) (by decide) hk1 hFc hP1 hD1
        generalize H1 = H at hP hS ⊢
        refine g5_rs [(a_th, (oc7 a_h a_k a_ba a_ad e_fu a_cn a_nx a_hp a_hl a_lv)), (a_ba, (arJ G 24 k_ba)), (a_ad, (arI G 1536 k_ad)), (a_k, (oc5 a_h a_j a_pt z22 z23 z24 z25 z26 z27 z28 z29 z30 z31)), (a_h, (oc1 e_wa e_le e_st e_fo e_lc a_l a_g a_b a_s a_p a_w e_gb a_bb)), (a_g, (oc6 6 5 a_gn e_g)), (a_gn, (arI G 30 f_g)), (a_b, (oc6 5 24 a_bn e_b)), (a_bn, (arI G 120 f_b)), (a_p, (oc6 8 5 a_pn e_p)), (a_pn, (arI G 40 f_p)), (a_bb, (arJ G 24 f_bb)), (a_j, (oc2 a_as a_sk)), (a_as, (arI G 8 z33)), (a_sk, (arJ G 50 z34)), (a_l, (arW G 6 f_l)), (a_pt, (arI G 200 z32)), (a_s, (oc6 10 4 a_sn e_s)), (a_sn, (arI G 40 f_s))] hP hD (fun hP hD => ?_)
        refine g5_ti (v := z36) y37 ?_
        refine lv_iconst (v := 1) hx hb dX7_load_122 (by decide) ?_
        refine lv_icmp_ne (tgt := 138) hx hb dX7_load_123 (by decide) (fun c_38 => ?_) (fun c_38 => ?_)
        ·
          have n_38 : gNe (z36.toInt) (1) := by have z := g5_ne (a := z36.toInt) (b := 1) (by rfl) (by decide) c_38; unfold gNe; omega
          refine lv_aload_n hx hb dX7_load_138 rfl (lv_at hl 3 rfl) ?_
          obtain ⟨hPc, hDc, hFc⟩ := g5_sub3 (wc := [(a_th, (oc7 a_h a_k a_ba a_ad e_fu a_cn a_nx a_hp a_hl a_lv)), (a_k, (oc5 a_h a_j a_pt z22 z23 z24 z25 z26 z27 z28 z29 z30 z31)), (a_pt, (arI G 200 z32)), (a_ba, (arJ G 24 k_ba))]) hP hD hS hA [0, 3, 16, 1] (by decide) rfl
          refine va_callv (va_runV (As := []) (rest := []) ⟨hx, hb, hml, hown, hts⟩ (th_bar l G a_th a_k a_pt a_ba a_h a_ad a_cn a_nx a_hp a_hl a_lv a_j H.size e_fu z22 z23 z24 z25 z26 z27 z28 z29 z30 z31 z32 k_ba i_19 i_20 (i_21)) (cwV 0 hts gV_X7_86 rfl rfl rfl hv_X7_barPoints ⟨Nat.le_of_ble_eq_true rfl, Nat.le_of_ble_eq_true rfl⟩) (g5_preV hPc hK hDc hN hT hS hFc (ci := 7) (q0 := 0) rfl rfl) rfl rfl hl.1 rfl (lv_room (Nat.le_of_ble_eq_true rfl)) dX7_load_139 ⟨Nat.le_of_ble_eq_true rfl, Nat.le_of_ble_eq_true rfl⟩) hS (fun q _ h => hFc q h) hFc (fun u t H1 locs ht hvm hw hB hz1 hk1 hS => ?_)
          obtain ⟨hP1, hD1⟩ := hB
          rw [ht] at hP1
          obtain ⟨z39, rfl⟩ := hw
          obtain ⟨hP, hD⟩ := va_join (wr := [(a_ad, (arI G 1536 k_ad)), (a_h, (oc1 e_wa e_le e_st e_fo e_lc a_l a_g a_b a_s a_p a_w e_gb a_bb)), (a_g, (oc6 6 5 a_gn e_g)), (a_gn, (arI G 30 f_g)), (a_b, (oc6 5 24 a_bn e_b)), (a_bn, (arI G 120 f_b)), (a_p, (oc6 8 5 a_pn e_p)), (a_pn, (arI G 40 f_p)), (a_bb, (arJ G 24 f_bb)), (a_j, (oc2 a_as a_sk)), (a_as, (arI G 8 z33)), (a_sk, (arJ G 50 z34)), (a_l, (arW G 6 f_l)), (a_s, (oc6 10 4 a_sn e_s)), (a_sn, (arI G 40 f_s))]) hP hD [0, 3, 16, 1] [2, 4, 5, 6, 7, 8, 9, 10, 11, 12, 13, 14, 15, 17, 18] rfl rfl (by decide) (by decide) hk1 hFc hP1 hD1
          generalize H1 = H at hP hS ⊢
          refine g5_rs [(a_ad, (arI G 1536 k_ad)), (a_h, (oc1 e_wa e_le e_st e_fo e_lc a_l a_g a_b a_s a_p a_w e_gb a_bb)), (a_g, (oc6 6 5 a_gn e_g)), (a_gn, (arI G 30 f_g)), (a_b, (oc6 5 24 a_bn e_b)), (a_bn, (arI G 120 f_b)), (a_p, (oc6 8 5 a_pn e_p)), (a_pn, (arI G 40 f_p)), (a_bb, (arJ G 24 f_bb)), (a_j, (oc2 a_as a_sk)), (a_as, (arI G 8 z33)), (a_sk, (arJ G 50 z34)), (a_l, (arW G 6 f_l)), (a_s, (oc6 10 4 a_sn e_s)), (a_sn, (arI G 40 f_s)), (a_th, (oc7 a_h a_k a_ba a_ad e_fu a_cn a_nx a_hp a_hl a_lv)), (a_k, (oc5 a_h a_j a_pt z22 z23 z24 z25 z26 z27 z28 z29 z30 z31)), (a_pt, (arI G 200 z32)), (a_ba, (arJ G 24 z39))] hP hD (fun hP hD => ?_)
          refine lv_iinc (v := (k_i + 1)) (lv' := [(4, .int (k_i + 1)), (2, .int k_b), (3, .ref a_s), (0, .ref a_th), (1, .int p_s)]) hx hb dX7_load_142 hl (k := 1) rfl rfl (by decide) rfl (fun ls hl => ?_)
          have t_40 : (k_i + 1).toInt = k_i.toInt + 1 := g5_iadd (a := k_i.toInt) (b := 1) rfl (by decide) (by omega) (by omega)
          refine lv_goto (tgt := 68) hx hb dX7_load_145 (by decide) ?_
          exact ih_68_6 (k_b, (k_i + 1), z23, z24, z25, z26, z27, z28, z29, z30, z31, z32, z33, z34, z22, z39, k_ad) ls H locs (show Int.toNat (10 - (k_i + 1).toInt) < Int.toNat (10 - k_i.toInt) from g_up (show k_i.toInt < (k_i + 1).toInt by omega) (show k_i.toInt < 10 by omega)) ⟨lv_sub hl [1, 0, 2, 3, 4] rfl, hP.sub [16, 1, 2, 3, 4, 5, 6, 7, 13, 14, 8, 9, 10, 11, 12, 17, 15, 18, 0] rfl, hD.sub [16, 1, 2, 3, 4, 5, 6, 7, 13, 14, 8, 9, 10, 11, 12, 17, 15, 18, 0] (by decide) rfl, hS, ⟨by omega, by omega⟩, i_20, by omega, ld_stay i_5 e_sh (by omega) (by omega) (by omega)⟩
        ·
          have i_38 : z36.toInt = 1 := by have z := g5_neN (a := z36.toInt) (b := 1) (by rfl) (by decide) c_38; omega
          obtain ⟨gs_41, hg1_41, hg2_41, hg3_41⟩ := id i_5
          have hg4_41 : gs_41 < 5 := ld_lt hg1_41 e_sh e_s5 i_35 (by omega) (by omega) (by omega)
          have hg5_41 : mOK k_ad (gs_41 + 1) := mOK_up hg3_41
          refine lv_aload_n hx hb dX7_load_126 rfl (lv_at hl 3 rfl) ?_
          refine lv_iload_n hx hb dX7_load_127 rfl (lv_at hl 0 rfl) ?_
          obtain ⟨hPc, hDc, hFc⟩ := g5_sub3 (wc := [(a_th, (oc7 a_h a_k a_ba a_ad e_fu a_cn a_nx a_hp a_hl a_lv)), (a_k, (oc5 a_h a_j a_pt z22 z23 z24 z25 z26 z27 z28 z29 z30 z31)), (a_pt, (arI G 200 z32)), (a_ad, (arI G 1536 k_ad))]) hP hD hS hA [0, 3, 16, 2] (by decide) rfl
          refine va_callv (va_runV (As := [.int k_b]) (rest := []) ⟨hx, hb, hml, hown, hts⟩ (th_add l G a_th a_k a_pt a_ad a_h a_ba a_cn a_nx a_hp a_hl a_lv a_j H.size e_fu z22 z23 z24 z25 z26 z27 z28 z29 z30 z31 k_b z32 k_ad gs_41 i_19 i_20 (i_21) (hg4_41) (hg2_41) (hg5_41)) (cwV 1 hts gV_X7_82 rfl rfl rfl hv_X7_addPoints ⟨Nat.le_of_ble_eq_true rfl, Nat.le_of_ble_eq_true rfl⟩) (g5_preV hPc hK hDc hN hT hS hFc (ci := 7) (q0 := 0) rfl rfl) rfl rfl hl.1 rfl (lv_room (Nat.le_of_ble_eq_true rfl)) dX7_load_128 ⟨Nat.le_of_ble_eq_true rfl, Nat.le_of_ble_eq_true rfl⟩) hS (fun q _ h => hFc q h) hFc (fun u t H1 locs ht hvm hw hB hz1 hk1 hS => ?_)
          obtain ⟨hP1, hD1⟩ := hB
          rw [ht] at hP1
          obtain ⟨z43, i_42, rfl⟩ := hw
          have i_42 : mOK z43 (gs_41 + 1) := i_42
          obtain ⟨hP, hD⟩ := va_join (wr := [(a_ba, (arJ G 24 k_ba)), (a_h, (oc1 e_wa e_le e_st e_fo e_lc a_l a_g a_b a_s a_p a_w e_gb a_bb)), (a_g, (oc6 6 5 a_gn e_g)), (a_gn, (arI G 30 f_g)), (a_b, (oc6 5 24 a_bn e_b)), (a_bn, (arI G 120 f_b)), (a_p, (oc6 8 5 a_pn e_p)), (a_pn, (arI G 40 f_p)), (a_bb, (arJ G 24 f_bb)), (a_j, (oc2 a_as a_sk)), (a_as, (arI G 8 z33)), (a_sk, (arJ G 50 z34)), (a_l, (arW G 6 f_l)), (a_s, (oc6 10 4 a_sn e_s)), (a_sn, (arI G 40 f_s))]) hP hD [0, 3, 16, 2] [1, 4, 5, 6, 7, 8, 9, 10, 11, 12, 13, 14, 15, 17, 18] rfl rfl (by decide) (by decide) hk1 hFc hP1 hD1
          generalize H1 = H at hP hS ⊢
          refine g5_rs [(a_ba, (arJ G 24 k_ba)), (a_h, (oc1 e_wa e_le e_st e_fo e_lc a_l a_g a_b a_s a_p a_w e_gb a_bb)), (a_g, (oc6 6 5 a_gn e_g)), (a_gn, (arI G 30 f_g)), (a_b, (oc6 5 24 a_bn e_b)), (a_bn, (arI G 120 f_b)), (a_p, (oc6 8 5 a_pn e_p)), (a_pn, (arI G 40 f_p)), (a_bb, (arJ G 24 f_bb)), (a_j, (oc2 a_as a_sk)), (a_as, (arI G 8 z33)), (a_sk, (arJ G 50 z34)), (a_l, (arW G 6 f_l)), (a_s, (oc6 10 4 a_sn e_s)), (a_sn, (arI G 40 f_s)), (a_th, (oc7 a_h a_k a_ba a_ad e_fu a_cn a_nx a_hp a_hl a_lv)), (a_k, (oc5 a_h a_j a_pt z22 z23 z24 z25 z26 z27 z28 z29 z30 z31)), (a_pt, (arI G 200 z32)), (a_ad, (arI G 1536 z43))] hP hD (fun hP hD => ?_)
          refine lv_iload_n hx hb dX7_load_131 rfl (lv_at hl 0 rfl) ?_
          refine lv_iconst (v := 1) hx hb dX7_load_132 (by decide) ?_
          refine lv_ishl hx hb dX7_load_133 ?_
          refine lv_istore_n (lv' := [(2, .int (k_b <<< (1 &&& 31))), (4, .int k_i), (3, .ref a_s), (0, .ref a_th), (1, .int p_s)]) hx hb dX7_load_134 rfl hl (by decide) rfl (fun ls hl => ?_)
          refine lv_goto (tgt := 142) hx hb dX7_load_135 (by decide) ?_
          refine lv_iinc (v := (k_i + 1)) (lv' := [(4, .int (k_i + 1)), (2, .int (k_b <<< (1 &&& 31))), (3, .ref a_s), (0, .ref a_th), (1, .int p_s)]) hx hb dX7_load_142 hl (k := 1) rfl rfl (by decide) rfl (fun ls hl => ?_)
          have t_44 : (k_i + 1).toInt = k_i.toInt + 1 := g5_iadd (a := k_i.toInt) (b := 1) rfl (by decide) (by omega) (by omega)
          refine lv_goto (tgt := 68) hx hb dX7_load_145 (by decide) ?_
          exact ih_68_6 ((k_b <<< (1 &&& 31)), (k_i + 1), z23, z24, z25, z26, z27, z28, z29, z30, z31, z32, z33, z34, z22, k_ba, z43) ls H locs (show Int.toNat (10 - (k_i + 1).toInt) < Int.toNat (10 - k_i.toInt) from g_up (show k_i.toInt < (k_i + 1).toInt by omega) (show k_i.toInt < 10 by omega)) ⟨lv_sub hl [1, 0, 2, 3, 4] rfl, hP.sub [16, 1, 2, 3, 4, 5, 6, 7, 13, 14, 8, 9, 10, 11, 12, 17, 15, 0, 18] rfl, hD.sub [16, 1, 2, 3, 4, 5, 6, 7, 13, 14, 8, 9, 10, 11, 12, 17, 15, 0, 18] (by decide) rfl, hS, ⟨by omega, by omega⟩, i_20, by omega, ld_go hg1_41 hg2_41 hg4_41 i_42 i_35 (by omega) (by omega) (by omega)⟩
  ·
    have n_1 : gNe (e_st.toInt) ((-1)) := by have z := g5_eqN (a := e_st.toInt) (b := (-1)) (by rfl) (by decide) c_1; unfold gNe; omega
    refine lv_aload_n hx hb dX7_load_33 rfl (lv_at hl 0 rfl) ?_
    refine va_get (D := G.1) (ci := 7) (v := .ref a_ba) (C := RX7) (T := TX7) (N := 10) hx hb hts inG_X7 hown hK hP 16 rfl rfl 2 (by decide) (hts _ fl_X7_9) (fun _ h9 => h9) rfl dX7_load_34 ?_
    refine lv_iconst (v := 0) hx hb dX7_load_37 (by decide) ?_
    refine lv_dup2_11 hx hb dX7_load_38 rfl rfl ?_
    refine va_lald hx hb hK hP 17 1 rfl rfl (i := 0) (by unfold vp_in; decide) dX7_load_39 ?_
    refine g5_tl (v := ((fun _ => e_wa) 0)) rfl ?_
    refine lv_lconst (v := 1) hx hb dX7_load_40 (by decide) ?_
    refine lv_aload_n hx hb dX7_load_41 rfl (lv_at hl 0 rfl) ?_
    refine va_get (D := G.1) (ci := 7) (v := .ref a_h) (C := RX7) (T := TX7) (N := 10) hx hb hts inG_X7 hown hK hP 16 rfl rfl 0 (by decide) (hts _ fl_X7_34) (fun _ h9 => h9) rfl dX7_load_42 ?_
    refine va_get (D := G.1) (ci := 1) (v := .int e_st) (C := RX1) (T := TX1) (N := 13) hx hb hts inG_X1 hown hK hP 1 rfl rfl 2 (by decide) (hts _ fl_X7_67) (fun _ h9 => h9) rfl dX7_load_45 ?_
    refine lv_lshl (v := ((1 : Int64) <<< (e_st.toInt64 &&& 63))) hx hb dX7_load_48 rfl ?_
    refine lv_ldc2 (v := (-1)) hx hb hown (hts _ kl_X7_70) dX7_load_49 ?_
    refine lv_lxor hx hb dX7_load_52 ?_
    refine lv_lor hx hb dX7_load_53 ?_
    refine va_last hx hb hK hP hD hS 17 1 rfl rfl (i := 0) (x := (((fun _ => e_wa) 0) ||| (((1 : Int64) <<< (e_st.toInt64 &&& 63)) ^^^ (-1)))) (by unfold vp_in; decide) dX7_load_54 (fun H locs hP hD hS => ?_)
    refine g5_rs [(a_k, (oc5 a_h a_j a_pt e_ln e_se e_lh e_br e_we e_me e_ce e_wy e_ho e_ov)), (a_h, (oc1 e_wa e_le e_st e_fo e_lc a_l a_g a_b a_s a_p a_w e_gb a_bb)), (a_g, (oc6 6 5 a_gn e_g)), (a_gn, (arI G 30 f_g)), (a_b, (oc6 5 24 a_bn e_b)), (a_bn, (arI G 120 f_b)), (a_p, (oc6 8 5 a_pn e_p)), (a_pn, (arI G 40 f_p)), (a_s, (oc6 10 4 a_sn e_s)), (a_sn, (arI G 40 f_s)), (a_bb, (arJ G 24 f_bb)), (a_j, (oc2 a_as a_sk)), (a_as, (arI G 8 f_as)), (a_sk, (arJ G 50 f_sk)), (a_l, (arW G 6 f_l)), (a_pt, (arI G 200 f_pt)), (a_th, (oc7 a_h a_k a_ba a_ad e_fu a_cn a_nx a_hp a_hl a_lv)), (a_ba, (arJ G 24 (vp_updL (fun _ => e_wa) 0 (((fun _ => e_wa) 0) ||| (((1 : Int64) <<< (e_st.toInt64 &&& 63)) ^^^ (-1)))))), (a_ad, (arI G 1536 (fun _ => (0 : Int32))))] hP hD (fun hP hD => ?_)
    refine lv_iconst (v := 1) hx hb dX7_load_55 (by decide) ?_
    refine lv_istore_n (lv' := [(2, .int 1), (0, .ref a_th), (1, .int p_s)]) hx hb dX7_load_56 rfl hl (by decide) rfl (fun ls hl => ?_)
    refine lv_aload_n hx hb dX7_load_57 rfl (lv_at hl 1 rfl) ?_
    refine va_get (D := G.1) (ci := 7) (v := .ref a_h) (C := RX7) (T := TX7) (N := 10) hx hb hts inG_X7 hown hK hP 16 rfl rfl 0 (by decide) (hts _ fl_X7_34) (fun _ h9 => h9) rfl dX7_load_58 ?_
    refine va_get (D := G.1) (ci := 1) (v := .ref a_s) (C := RX1) (T := TX1) (N := 13) hx hb hts inG_X1 hown hK hP 1 rfl rfl 8 (by decide) (hts _ fl_X7_42) (fun _ h9 => h9) rfl dX7_load_61 ?_
    refine lv_astore_n (lv' := [(3, .ref a_s), (2, .int 1), (0, .ref a_th), (1, .int p_s)]) hx hb dX7_load_64 rfl hl (by decide) rfl (fun ls hl => ?_)
    refine lv_iconst (v := 0) hx hb dX7_load_65 (by decide) ?_
    refine lv_istore (lv' := [(4, .int 0), (3, .ref a_s), (2, .int 1), (0, .ref a_th), (1, .int p_s)]) hx hb dX7_load_66 hl (by decide) rfl (fun ls hl => ?_)
    refine g5_loop (α := (Int32) × (Int32) × (Int32) × (Int32) × (Int32) × (Int32) × (Int32) × (Int32) × (Int32) × (Int32) × (Int32) × (Nat → Int32) × (Nat → Int32) × (Nat → Int64) × (Int32) × (Nat → Int64) × (Nat → Int32)) (fun (q : (Int32) × (Int32) × (Int32) × (Int32) × (Int32) × (Int32) × (Int32) × (Int32) × (Int32) × (Int32) × (Int32) × (Nat → Int32) × (Nat → Int32) × (Nat → Int64) × (Int32) × (Nat → Int64) × (Nat → Int32)) (ls : Array Slot) (H : Heap) (locs : List Loc) => match q with | (k_b, k_i, k_se, k_lh, k_br, k_we, k_me, k_ce, k_wy, k_ho, k_ov, k_pt, k_as, k_sk, k_ln, k_ba, k_ad) => lv_has ls 5 [(2, .int k_b), (4, .int k_i), (3, .ref a_s), (0, .ref a_th), (1, .int p_s)] ∧ va_P G.1 vwCl [(a_k, (oc5 a_h a_j a_pt k_ln k_se k_lh k_br k_we k_me k_ce k_wy k_ho k_ov)), (a_h, (oc1 e_wa e_le e_st e_fo e_lc a_l a_g a_b a_s a_p a_w e_gb a_bb)), (a_g, (oc6 6 5 a_gn e_g)), (a_gn, (arI G 30 f_g)), (a_b, (oc6 5 24 a_bn e_b)), (a_bn, (arI G 120 f_b)), (a_p, (oc6 8 5 a_pn e_p)), (a_pn, (arI G 40 f_p)), (a_s, (oc6 10 4 a_sn e_s)), (a_sn, (arI G 40 f_s)), (a_bb, (arJ G 24 f_bb)), (a_j, (oc2 a_as a_sk)), (a_as, (arI G 8 k_as)), (a_sk, (arJ G 50 k_sk)), (a_l, (arW G 6 f_l)), (a_pt, (arI G 200 k_pt)), (a_th, (oc7 a_h a_k a_ba a_ad e_fu a_cn a_nx a_hp a_hl a_lv)), (a_ba, (arJ G 24 k_ba)), (a_ad, (arI G 1536 k_ad))] H ∧ va_D A [(a_k, (oc5 a_h a_j a_pt k_ln k_se k_lh k_br k_we k_me k_ce k_wy k_ho k_ov)), (a_h, (oc1 e_wa e_le e_st e_fo e_lc a_l a_g a_b a_s a_p a_w e_gb a_bb)), (a_g, (oc6 6 5 a_gn e_g)), (a_gn, (arI G 30 f_g)), (a_b, (oc6 5 24 a_bn e_b)), (a_bn, (arI G 120 f_b)), (a_p, (oc6 8 5 a_pn e_p)), (a_pn, (arI G 40 f_p)), (a_s, (oc6 10 4 a_sn e_s)), (a_sn, (arI G 40 f_s)), (a_bb, (arJ G 24 f_bb)), (a_j, (oc2 a_as a_sk)), (a_as, (arI G 8 k_as)), (a_sk, (arJ G 50 k_sk)), (a_l, (arW G 6 f_l)), (a_pt, (arI G 200 k_pt)), (a_th, (oc7 a_h a_k a_ba a_ad e_fu a_cn a_nx a_hp a_hl a_lv)), (a_ba, (arJ G 24 k_ba)), (a_ad, (arI G 1536 k_ad))] ∧ va_S A s.heap H locs ∧ (0 ≤ k_i.toInt ∧ k_i.toInt ≤ 10) ∧ (0 ≤ k_ov.toInt ∧ k_ov.toInt ≤ 1) ∧ (k_i.toInt ≤ e_s.toInt) ∧ (LDI f_s e_s.toInt k_i.toInt k_b k_ad)) (fun (q : (Int32) × (Int32) × (Int32) × (Int32) × (Int32) × (Int32) × (Int32) × (Int32) × (Int32) × (Int32) × (Int32) × (Nat → Int32) × (Nat → Int32) × (Nat → Int64) × (Int32) × (Nat → Int64) × (Nat → Int32)) => match q with | (k_b, k_i, k_se, k_lh, k_br, k_we, k_me, k_ce, k_wy, k_ho, k_ov, k_pt, k_as, k_sk, k_ln, k_ba, k_ad) => Int.toNat (10 - k_i.toInt)) (1, 0, e_se, e_lh, e_br, e_we, e_me, e_ce, e_wy, e_ho, e_ov, f_pt, f_as, f_sk, e_ln, (vp_updL (fun _ => e_wa) 0 (((fun _ => e_wa) 0) ||| (((1 : Int64) <<< (e_st.toInt64 &&& 63)) ^^^ (-1)))), (fun _ => (0 : Int32))) ⟨lv_sub hl [2, 0, 1, 3, 4] rfl, hP, hD, hS, ⟨by decide, by decide⟩, h_e_ov, by have z0 : (0 : Int32).toInt = 0 := (by decide); omega, ld_0⟩ ?_
    rintro ⟨k_b, k_i, k_se, k_lh, k_br, k_we, k_me, k_ce, k_wy, k_ho, k_ov, k_pt, k_as, k_sk, k_ln, k_ba, k_ad⟩ ls H locs ⟨hl, hP, hD, hS, i_45, i_46, i_47, i_48⟩ ih_68_49
    have hl : lv_has ls 5 [(2, .int k_b), (4, .int k_i), (3, .ref a_s), (0, .ref a_th), (1, .int p_s)] := hl
    have i_45 : 0 ≤ k_i.toInt ∧ k_i.toInt ≤ 10 := i_45
    have i_46 : 0 ≤ k_ov.toInt ∧ k_ov.toInt ≤ 1 := i_46
    have i_47 : k_i.toInt ≤ e_s.toInt := i_47
    have i_48 : LDI f_s e_s.toInt k_i.toInt k_b k_ad := i_48
    refine g5_rs [(a_k, (oc5 a_h a_j a_pt k_ln k_se k_lh k_br k_we k_me k_ce k_wy k_ho k_ov)), (a_h, (oc1 e_wa e_le e_st e_fo e_lc a_l a_g a_b a_s a_p a_w e_gb a_bb)), (a_g, (oc6 6 5 a_gn e_g)), (a_gn, (arI G 30 f_g)), (a_b, (oc6 5 24 a_bn e_b)), (a_bn, (arI G 120 f_b)), (a_p, (oc6 8 5 a_pn e_p)), (a_pn, (arI G 40 f_p)), (a_s, (oc6 10 4 a_sn e_s)), (a_sn, (arI G 40 f_s)), (a_bb, (arJ G 24 f_bb)), (a_j, (oc2 a_as a_sk)), (a_as, (arI G 8 k_as)), (a_sk, (arJ G 50 k_sk)), (a_l, (arW G 6 f_l)), (a_pt, (arI G 200 k_pt)), (a_th, (oc7 a_h a_k a_ba a_ad e_fu a_cn a_nx a_hp a_hl a_lv)), (a_ba, (arJ G 24 k_ba)), (a_ad, (arI G 1536 k_ad))] hP hD (fun hP hD => ?_)
    refine lv_iload hx hb dX7_load_68 (lv_at hl 1 rfl) ?_
    refine lv_aload_n hx hb dX7_load_70 rfl (lv_at hl 2 rfl) ?_
    refine va_get (D := G.1) (ci := 6) (v := .int e_s) (C := RX6) (T := TX6) (N := 4) hx hb hts inG_X6 hown hK hP 8 rfl rfl 3 (by decide) (hts _ fl_X7_48) (fun _ h9 => h9) rfl dX7_load_71 ?_
    refine lv_icmp_ge (tgt := 148) hx hb dX7_load_74 (by decide) (fun c_50 => ?_) (fun c_50 => ?_)
    ·
      have i_50 : k_i.toInt ≥ e_s.toInt := by have z := g5_ge (a := k_i.toInt) (b := e_s.toInt) (by rfl) (by rfl) c_50; omega
      refine lv_aload_n hx hb dX7_load_148 rfl (lv_at hl 3 rfl) ?_
      refine lv_iload_n hx hb dX7_load_149 rfl (lv_at hl 0 rfl) ?_
      refine lv_iconst (v := 1) hx hb dX7_load_150 (by decide) ?_
      refine lv_isub hx hb dX7_load_151 ?_
      refine va_put (D := G.1) (ci := 7) (v := .int (k_b - 1)) (ty := .int) (C := RX7) (T := TX7) (N := 10) hx hb hts inG_X7 tyX7 tyX7_ok nmX7 hown hK hP hD hS 16 rfl rfl 4 (by decide) (hts _ fl_X7_89) (fun _ h9 => h9) rfl (by decide +kernel) rfl rfl (Nat.le_of_ble_eq_true rfl) dX7_load_152 (fun H locs hP hD hS => ?_)
      refine g5_rs [(a_k, (oc5 a_h a_j a_pt k_ln k_se k_lh k_br k_we k_me k_ce k_wy k_ho k_ov)), (a_h, (oc1 e_wa e_le e_st e_fo e_lc a_l a_g a_b a_s a_p a_w e_gb a_bb)), (a_g, (oc6 6 5 a_gn e_g)), (a_gn, (arI G 30 f_g)), (a_b, (oc6 5 24 a_bn e_b)), (a_bn, (arI G 120 f_b)), (a_p, (oc6 8 5 a_pn e_p)), (a_pn, (arI G 40 f_p)), (a_s, (oc6 10 4 a_sn e_s)), (a_sn, (arI G 40 f_s)), (a_bb, (arJ G 24 f_bb)), (a_j, (oc2 a_as a_sk)), (a_as, (arI G 8 k_as)), (a_sk, (arJ G 50 k_sk)), (a_l, (arW G 6 f_l)), (a_pt, (arI G 200 k_pt)), (a_th, (oc7 a_h a_k a_ba a_ad (k_b - 1) a_cn a_nx a_hp a_hl a_lv)), (a_ba, (arJ G 24 k_ba)), (a_ad, (arI G 1536 k_ad))] hP hD (fun hP hD => ?_)
      exact W.vret hx hb hr (fun t ht hW => ⟨⟨[(a_k, (oc5 a_h a_j a_pt k_ln k_se k_lh k_br k_we k_me k_ce k_wy k_ho k_ov)), (a_h, (oc1 e_wa e_le e_st e_fo e_lc a_l a_g a_b a_s a_p a_w e_gb a_bb)), (a_g, (oc6 6 5 a_gn e_g)), (a_gn, (arI G 30 f_g)), (a_b, (oc6 5 24 a_bn e_b)), (a_bn, (arI G 120 f_b)), (a_p, (oc6 8 5 a_pn e_p)), (a_pn, (arI G 40 f_p)), (a_s, (oc6 10 4 a_sn e_s)), (a_sn, (arI G 40 f_s)), (a_bb, (arJ G 24 f_bb)), (a_j, (oc2 a_as a_sk)), (a_as, (arI G 8 k_as)), (a_sk, (arJ G 50 k_sk)), (a_l, (arW G 6 f_l)), (a_pt, (arI G 200 k_pt)), (a_th, (oc7 a_h a_k a_ba a_ad (k_b - 1) a_cn a_nx a_hp a_hl a_lv)), (a_ba, (arJ G 24 k_ba)), (a_ad, (arI G 1536 k_ad))], rfl, ⟨k_ln, k_se, k_lh, k_br, k_we, k_me, k_ce, k_wy, k_ho, k_ov, k_pt, k_as, k_sk, (k_b - 1), k_ba, k_ad, i_46, ld_end i_48 e_sh e_s5 (by omega) (by omega), rfl⟩, by rw [ht]; exact hP.sub [0, 1, 2, 3, 4, 5, 6, 7, 8, 9, 10, 11, 12, 13, 14, 15, 16, 17, 18] rfl, hD.sub [0, 1, 2, 3, 4, 5, 6, 7, 8, 9, 10, 11, 12, 13, 14, 15, 16, 17, 18] (by decide) rfl⟩, hS.F ht⟩) hS.2.2 dX7_load_155
    ·
      have i_50 : k_i.toInt < e_s.toInt := by have z := g5_geN (a := k_i.toInt) (b := e_s.toInt) (by rfl) (by rfl) c_50; omega
      refine lv_iload_n hx hb dX7_load_77 rfl (lv_at hl 4 rfl) ?_
      refine lv_iload hx hb dX7_load_78 (lv_at hl 1 rfl) ?_
      refine lv_ishr hx hb dX7_load_80 ?_
      refine lv_iconst (v := 1) hx hb dX7_load_81 (by decide) ?_
      refine lv_iand hx hb dX7_load_82 ?_
      refine lv_if_eq (tgt := 142) hx hb dX7_load_83 (by decide) (fun c_51 => ?_) (fun c_51 => ?_)
      ·
        have i_51 : ((p_s >>> (k_i &&& 31)) &&& 1).toInt = 0 := by have z := g5_eq (a := ((p_s >>> (k_i &&& 31)) &&& 1).toInt) (b := 0) (by rfl) (by decide) c_51; omega
        refine lv_iinc (v := (k_i + 1)) (lv' := [(4, .int (k_i + 1)), (2, .int k_b), (3, .ref a_s), (0, .ref a_th), (1, .int p_s)]) hx hb dX7_load_142 hl (k := 1) rfl rfl (by decide) rfl (fun ls hl => ?_)
        have t_52 : (k_i + 1).toInt = k_i.toInt + 1 := g5_iadd (a := k_i.toInt) (b := 1) rfl (by decide) (by omega) (by omega)
        refine lv_goto (tgt := 68) hx hb dX7_load_145 (by decide) ?_
        exact ih_68_49 (k_b, (k_i + 1), k_se, k_lh, k_br, k_we, k_me, k_ce, k_wy, k_ho, k_ov, k_pt, k_as, k_sk, k_ln, k_ba, k_ad) ls H locs (show Int.toNat (10 - (k_i + 1).toInt) < Int.toNat (10 - k_i.toInt) from g_up (show k_i.toInt < (k_i + 1).toInt by omega) (show k_i.toInt < 10 by omega)) ⟨lv_sub hl [1, 0, 2, 3, 4] rfl, hP, hD, hS, ⟨by omega, by omega⟩, i_46, by omega, ld_stay i_48 e_sh (by omega) (by omega) (by omega)⟩
      ·
        have n_51 : gNe (((p_s >>> (k_i &&& 31)) &&& 1).toInt) (0) := by have z := g5_eqN (a := ((p_s >>> (k_i &&& 31)) &&& 1).toInt) (b := 0) (by rfl) (by decide) c_51; unfold gNe; omega
        refine lv_aload_n hx hb dX7_load_86 rfl (lv_at hl 3 rfl) ?_
        refine va_get (D := G.1) (ci := 7) (v := .ref a_k) (C := RX7) (T := TX7) (N := 10) hx hb hts inG_X7 hown hK hP 16 rfl rfl 1 (by decide) (hts _ fl_X7_38) (fun _ h9 => h9) rfl dX7_load_87 ?_
        refine lv_aload_n hx hb dX7_load_90 rfl (lv_at hl 2 rfl) ?_
        refine lv_iload hx hb dX7_load_91 (lv_at hl 1 rfl) ?_
        refine lv_iconst (v := 0) hx hb dX7_load_93 (by decide) ?_
        obtain ⟨hPc, hDc, hFc⟩ := g5_sub3 (wc := [(a_s, (oc6 10 4 a_sn e_s)), (a_sn, (arI G 40 f_s))]) hP hD hS hA [8, 9] (by decide) rfl
        refine va_calli (va_runV (As := [.int k_i, .int 0]) (rest := [.ref a_k]) ⟨hx, hb, hml, hown, hts⟩ (t_get_S l G a_s a_sn H.size e_s k_i 0 f_s h_e_s) (cwV 2 hts gV_X7_72 rfl rfl rfl hv_X6_get ⟨Nat.le_of_ble_eq_true rfl, Nat.le_of_ble_eq_true rfl⟩) (g5_preV hPc hK hDc hN hT hS hFc (ci := 6) (q0 := 0) rfl rfl) rfl rfl hl.1 rfl (lv_room (Nat.le_of_ble_eq_true rfl)) dX7_load_94 ⟨Nat.le_of_ble_eq_true rfl, Nat.le_of_ble_eq_true rfl⟩) hS (fun q _ h => hFc q h) hFc (fun r u t H1 locs ht hvm hw hB hz1 hk1 hS => ?_)
        obtain ⟨hP1, hD1⟩ := hB
        rw [ht] at hP1
        obtain ⟨z54, i_53, y55, rfl⟩ := hw
        have i_53 : z54 = tget f_s e_s.toInt 4 k_i.toInt (0 : Int32).toInt := i_53
        obtain ⟨hP, hD⟩ := va_join (wr := [(a_k, (oc5 a_h a_j a_pt k_ln k_se k_lh k_br k_we k_me k_ce k_wy k_ho k_ov)), (a_h, (oc1 e_wa e_le e_st e_fo e_lc a_l a_g a_b a_s a_p a_w e_gb a_bb)), (a_g, (oc6 6 5 a_gn e_g)), (a_gn, (arI G 30 f_g)), (a_b, (oc6 5 24 a_bn e_b)), (a_bn, (arI G 120 f_b)), (a_p, (oc6 8 5 a_pn e_p)), (a_pn, (arI G 40 f_p)), (a_bb, (arJ G 24 f_bb)), (a_j, (oc2 a_as a_sk)), (a_as, (arI G 8 k_as)), (a_sk, (arJ G 50 k_sk)), (a_l, (arW G 6 f_l)), (a_pt, (arI G 200 k_pt)), (a_th, (oc7 a_h a_k a_ba a_ad e_fu a_cn a_nx a_hp a_hl a_lv)), (a_ba, (arJ G 24 k_ba)), (a_ad, (arI G 1536 k_ad))]) hP hD [8, 9] [0, 1, 2, 3, 4, 5, 6, 7, 10, 11, 12, 13, 14, 15, 16, 17, 18] rfl rfl (by decide) (by decide) hk1 hFc hP1 hD1
        generalize H1 = H at hP hS ⊢
        refine g5_rs [(a_k, (oc5 a_h a_j a_pt k_ln k_se k_lh k_br k_we k_me k_ce k_wy k_ho k_ov)), (a_h, (oc1 e_wa e_le e_st e_fo e_lc a_l a_g a_b a_s a_p a_w e_gb a_bb)), (a_g, (oc6 6 5 a_gn e_g)), (a_gn, (arI G 30 f_g)), (a_b, (oc6 5 24 a_bn e_b)), (a_bn, (arI G 120 f_b)), (a_p, (oc6 8 5 a_pn e_p)), (a_pn, (arI G 40 f_p)), (a_bb, (arJ G 24 f_bb)), (a_j, (oc2 a_as a_sk)), (a_as, (arI G 8 k_as)), (a_sk, (arJ G 50 k_sk)), (a_l, (arW G 6 f_l)), (a_pt, (arI G 200 k_pt)), (a_th, (oc7 a_h a_k a_ba a_ad e_fu a_cn a_nx a_hp a_hl a_lv)), (a_ba, (arJ G 24 k_ba)), (a_ad, (arI G 1536 k_ad)), (a_s, (oc6 10 4 a_sn e_s)), (a_sn, (arI G 40 f_s))] hP hD (fun hP hD => ?_)
        refine g5_ti (v := z54) y55 ?_
        refine lv_aload_n hx hb dX7_load_97 rfl (lv_at hl 2 rfl) ?_
        refine lv_iload hx hb dX7_load_98 (lv_at hl 1 rfl) ?_
        refine lv_iconst (v := 1) hx hb dX7_load_100 (by decide) ?_
        obtain ⟨hPc, hDc, hFc⟩ := g5_sub3 (wc := [(a_s, (oc6 10 4 a_sn e_s)), (a_sn, (arI G 40 f_s))]) hP hD hS hA [17, 18] (by decide) rfl
        refine va_calli (va_runV (As := [.int k_i, .int 1]) (rest := [.int z54, .ref a_k]) ⟨hx, hb, hml, hown, hts⟩ (t_get_S l G a_s a_sn H.size e_s k_i 1 f_s h_e_s) (cwV 2 hts gV_X7_72 rfl rfl rfl hv_X6_get ⟨Nat.le_of_ble_eq_true rfl, Nat.le_of_ble_eq_true rfl⟩) (g5_preV hPc hK hDc hN hT hS hFc (ci := 6) (q0 := 0) rfl rfl) rfl rfl hl.1 rfl (lv_room (Nat.le_of_ble_eq_true rfl)) dX7_load_101 ⟨Nat.le_of_ble_eq_true rfl, Nat.le_of_ble_eq_true rfl⟩) hS (fun q _ h => hFc q h) hFc (fun r u t H1 locs ht hvm hw hB hz1 hk1 hS => ?_)
        obtain ⟨hP1, hD1⟩ := hB
        rw [ht] at hP1
        obtain ⟨z57, i_56, y58, rfl⟩ := hw
        have i_56 : z57 = tget f_s e_s.toInt 4 k_i.toInt (1 : Int32).toInt := i_56
        obtain ⟨hP, hD⟩ := va_join (wr := [(a_k, (oc5 a_h a_j a_pt k_ln k_se k_lh k_br k_we k_me k_ce k_wy k_ho k_ov)), (a_h, (oc1 e_wa e_le e_st e_fo e_lc a_l a_g a_b a_s a_p a_w e_gb a_bb)), (a_g, (oc6 6 5 a_gn e_g)), (a_gn, (arI G 30 f_g)), (a_b, (oc6 5 24 a_bn e_b)), (a_bn, (arI G 120 f_b)), (a_p, (oc6 8 5 a_pn e_p)), (a_pn, (arI G 40 f_p)), (a_bb, (arJ G 24 f_bb)), (a_j, (oc2 a_as a_sk)), (a_as, (arI G 8 k_as)), (a_sk, (arJ G 50 k_sk)), (a_l, (arW G 6 f_l)), (a_pt, (arI G 200 k_pt)), (a_th, (oc7 a_h a_k a_ba a_ad e_fu a_cn a_nx a_hp a_hl a_lv)), (a_ba, (arJ G 24 k_ba)), (a_ad, (arI G 1536 k_ad))]) hP hD [17, 18] [0, 1, 2, 3, 4, 5, 6, 7, 8, 9, 10, 11, 12, 13, 14, 15, 16] rfl rfl (by decide) (by decide) hk1 hFc hP1 hD1
        generalize H1 = H at hP hS ⊢
        refine g5_rs [(a_k, (oc5 a_h a_j a_pt k_ln k_se k_lh k_br k_we k_me k_ce k_wy k_ho k_ov)), (a_h, (oc1 e_wa e_le e_st e_fo e_lc a_l a_g a_b a_s a_p a_w e_gb a_bb)), (a_g, (oc6 6 5 a_gn e_g)), (a_gn, (arI G 30 f_g)), (a_b, (oc6 5 24 a_bn e_b)), (a_bn, (arI G 120 f_b)), (a_p, (oc6 8 5 a_pn e_p)), (a_pn, (arI G 40 f_p)), (a_bb, (arJ G 24 f_bb)), (a_j, (oc2 a_as a_sk)), (a_as, (arI G 8 k_as)), (a_sk, (arJ G 50 k_sk)), (a_l, (arW G 6 f_l)), (a_pt, (arI G 200 k_pt)), (a_th, (oc7 a_h a_k a_ba a_ad e_fu a_cn a_nx a_hp a_hl a_lv)), (a_ba, (arJ G 24 k_ba)), (a_ad, (arI G 1536 k_ad)), (a_s, (oc6 10 4 a_sn e_s)), (a_sn, (arI G 40 f_s))] hP hD (fun hP hD => ?_)
        refine g5_ti (v := z57) y58 ?_
        refine lv_aload_n hx hb dX7_load_104 rfl (lv_at hl 2 rfl) ?_
        refine lv_iload hx hb dX7_load_105 (lv_at hl 1 rfl) ?_
        refine lv_iconst (v := 2) hx hb dX7_load_107 (by decide) ?_
        obtain ⟨hPc, hDc, hFc⟩ := g5_sub3 (wc := [(a_s, (oc6 10 4 a_sn e_s)), (a_sn, (arI G 40 f_s))]) hP hD hS hA [17, 18] (by decide) rfl
        refine va_calli (va_runV (As := [.int k_i, .int 2]) (rest := [.int z57, .int z54, .ref a_k]) ⟨hx, hb, hml, hown, hts⟩ (t_get_S l G a_s a_sn H.size e_s k_i 2 f_s h_e_s) (cwV 2 hts gV_X7_72 rfl rfl rfl hv_X6_get ⟨Nat.le_of_ble_eq_true rfl, Nat.le_of_ble_eq_true rfl⟩) (g5_preV hPc hK hDc hN hT hS hFc (ci := 6) (q0 := 0) rfl rfl) rfl rfl hl.1 rfl (lv_room (Nat.le_of_ble_eq_true rfl)) dX7_load_108 ⟨Nat.le_of_ble_eq_true rfl, Nat.le_of_ble_eq_true rfl⟩) hS (fun q _ h => hFc q h) hFc (fun r u t H1 locs ht hvm hw hB hz1 hk1 hS => ?_)
        obtain ⟨hP1, hD1⟩ := hB
        rw [ht] at hP1
        obtain ⟨z60, i_59, y61, rfl⟩ := hw
        have i_59 : z60 = tget f_s e_s.toInt 4 k_i.toInt (2 : Int32).toInt := i_59
        obtain ⟨hP, hD⟩ := va_join (wr := [(a_k, (oc5 a_h a_j a_pt k_ln k_se k_lh k_br k_we k_me k_ce k_wy k_ho k_ov)), (a_h, (oc1 e_wa e_le e_st e_fo e_lc a_l a_g a_b a_s a_p a_w e_gb a_bb)), (a_g, (oc6 6 5 a_gn e_g)), (a_gn, (arI G 30 f_g)), (a_b, (oc6 5 24 a_bn e_b)), (a_bn, (arI G 120 f_b)), (a_p, (oc6 8 5 a_pn e_p)), (a_pn, (arI G 40 f_p)), (a_bb, (arJ G 24 f_bb)), (a_j, (oc2 a_as a_sk)), (a_as, (arI G 8 k_as)), (a_sk, (arJ G 50 k_sk)), (a_l, (arW G 6 f_l)), (a_pt, (arI G 200 k_pt)), (a_th, (oc7 a_h a_k a_ba a_ad e_fu a_cn a_nx a_hp a_hl a_lv)), (a_ba, (arJ G 24 k_ba)), (a_ad, (arI G 1536 k_ad))]) hP hD [17, 18] [0, 1, 2, 3, 4, 5, 6, 7, 8, 9, 10, 11, 12, 13, 14, 15, 16] rfl rfl (by decide) (by decide) hk1 hFc hP1 hD1
        generalize H1 = H at hP hS ⊢
        refine g5_rs [(a_k, (oc5 a_h a_j a_pt k_ln k_se k_lh k_br k_we k_me k_ce k_wy k_ho k_ov)), (a_h, (oc1 e_wa e_le e_st e_fo e_lc a_l a_g a_b a_s a_p a_w e_gb a_bb)), (a_g, (oc6 6 5 a_gn e_g)), (a_gn, (arI G 30 f_g)), (a_b, (oc6 5 24 a_bn e_b)), (a_bn, (arI G 120 f_b)), (a_p, (oc6 8 5 a_pn e_p)), (a_pn, (arI G 40 f_p)), (a_bb, (arJ G 24 f_bb)), (a_j, (oc2 a_as a_sk)), (a_as, (arI G 8 k_as)), (a_sk, (arJ G 50 k_sk)), (a_l, (arW G 6 f_l)), (a_pt, (arI G 200 k_pt)), (a_th, (oc7 a_h a_k a_ba a_ad e_fu a_cn a_nx a_hp a_hl a_lv)), (a_ba, (arJ G 24 k_ba)), (a_ad, (arI G 1536 k_ad)), (a_s, (oc6 10 4 a_sn e_s)), (a_sn, (arI G 40 f_s))] hP hD (fun hP hD => ?_)
        refine g5_ti (v := z60) y61 ?_
        refine lv_iconst (v := 0) hx hb dX7_load_111 (by decide) ?_
        obtain ⟨hPc, hDc, hFc⟩ := g5_sub3 (wc := [(a_k, (oc5 a_h a_j a_pt k_ln k_se k_lh k_br k_we k_me k_ce k_wy k_ho k_ov)), (a_h, (oc1 e_wa e_le e_st e_fo e_lc a_l a_g a_b a_s a_p a_w e_gb a_bb)), (a_g, (oc6 6 5 a_gn e_g)), (a_gn, (arI G 30 f_g)), (a_b, (oc6 5 24 a_bn e_b)), (a_bn, (arI G 120 f_b)), (a_p, (oc6 8 5 a_pn e_p)), (a_pn, (arI G 40 f_p)), (a_bb, (arJ G 24 f_bb)), (a_j, (oc2 a_as a_sk)), (a_as, (arI G 8 k_as)), (a_sk, (arJ G 50 k_sk)), (a_l, (arW G 6 f_l)), (a_pt, (arI G 200 k_pt))]) hP hD hS hA [0, 1, 2, 3, 4, 5, 6, 7, 8, 9, 10, 11, 12, 13] (by decide) rfl
        refine va_callv (va_runV (As := [.int z54, .int z57, .int z60, .int 0]) (rest := []) ⟨hx, hb, hml, hown, hts⟩ (k_runN l G a_k a_h a_g a_gn a_b a_bn a_p a_pn a_bb a_j a_as a_sk a_l a_pt a_s a_w H.size e_le e_st e_fo e_lc e_g e_b e_p k_ln k_se k_lh k_br k_we k_me k_ce k_wy k_ho k_ov z54 z57 z60 0 e_wa e_gb f_g f_b f_p f_bb k_as k_sk f_l k_pt h_e_g h_e_b h_e_p i_46 (e_gk) (e_pk) (e_gi) (e_f)) (cwV 4 hts gV_X7_76 rfl rfl rfl hv_X5_run ⟨Nat.le_of_ble_eq_true rfl, Nat.le_of_ble_eq_true rfl⟩) (g5_preV hPc hK hDc hN hT hS hFc (ci := 5) (q0 := 0) rfl rfl) rfl rfl hl.1 rfl (lv_room (Nat.le_of_ble_eq_true rfl)) dX7_load_112 ⟨Nat.le_of_ble_eq_true rfl, Nat.le_of_ble_eq_true rfl⟩) hS (fun q _ h => hFc q h) hFc (fun u t H1 locs ht hvm hw hB hz1 hk1 hS => ?_)
        obtain ⟨hP1, hD1⟩ := hB
        rw [ht] at hP1
        obtain ⟨z65, z66, z67, z68, z69, z70, z71, z72, z73, z74, z75, z76, z77, i_62, i_63, i_64, rfl⟩ := hw
        have i_62 : 0 ≤ z65.toInt ∧ z65.toInt ≤ 200 := i_62
        have i_63 : 0 ≤ z74.toInt ∧ z74.toInt ≤ 1 := i_63
        have i_64 : ∀ j : Nat, (j : Int) < z65.toInt → 0 ≤ (z75 j).toInt ∧ (z75 j).toInt ≤ 1535 := i_64
        obtain ⟨hP, hD⟩ := va_join (wr := [(a_th, (oc7 a_h a_k a_ba a_ad e_fu a_cn a_nx a_hp a_hl a_lv)), (a_ba, (arJ G 24 k_ba)), (a_ad, (arI G 1536 k_ad)), (a_s, (oc6 10 4 a_sn e_s)), (a_sn, (arI G 40 f_s))]) hP hD [0, 1, 2, 3, 4, 5, 6, 7, 8, 9, 10, 11, 12, 13] [14, 15, 16, 17, 18] rfl rfl (by decide) (by decide) hk1 hFc hP1 hD1
        generalize H1 = H at hP hS ⊢
        refine g5_rs [(a_th, (oc7 a_h a_k a_ba a_ad e_fu a_cn a_nx a_hp a_hl a_lv)), (a_ba, (arJ G 24 k_ba)), (a_ad, (arI G 1536 k_ad)), (a_s, (oc6 10 4 a_sn e_s)), (a_sn, (arI G 40 f_s)), (a_k, (oc5 a_h a_j a_pt z65 z66 z67 z68 z69 z70 z71 z72 z73 z74)), (a_h, (oc1 e_wa e_le e_st e_fo e_lc a_l a_g a_b a_s a_p a_w e_gb a_bb)), (a_g, (oc6 6 5 a_gn e_g)), (a_gn, (arI G 30 f_g)), (a_b, (oc6 5 24 a_bn e_b)), (a_bn, (arI G 120 f_b)), (a_p, (oc6 8 5 a_pn e_p)), (a_pn, (arI G 40 f_p)), (a_bb, (arJ G 24 f_bb)), (a_j, (oc2 a_as a_sk)), (a_as, (arI G 8 z76)), (a_sk, (arJ G 50 z77)), (a_l, (arW G 6 f_l)), (a_pt, (arI G 200 z75))] hP hD (fun hP hD => ?_)
        refine lv_aload_n hx hb dX7_load_115 rfl (lv_at hl 2 rfl) ?_
        refine lv_iload hx hb dX7_load_116 (lv_at hl 1 rfl) ?_
        refine lv_iconst (v := 3) hx hb dX7_load_118 (by decide) ?_
        obtain ⟨hPc, hDc, hFc⟩ := g5_sub3 (wc := [(a_s, (oc6 10 4 a_sn e_s)), (a_sn, (arI G 40 f_s))]) hP hD hS hA [3, 4] (by decide) rfl
        refine va_calli (va_runV (As := [.int k_i, .int 3]) (rest := []) ⟨hx, hb, hml, hown, hts⟩ (t_get_S l G a_s a_sn H.size e_s k_i 3 f_s h_e_s) (cwV 2 hts gV_X7_72 rfl rfl rfl hv_X6_get ⟨Nat.le_of_ble_eq_true rfl, Nat.le_of_ble_eq_true rfl⟩) (g5_preV hPc hK hDc hN hT hS hFc (ci := 6) (q0 := 0) rfl rfl) rfl rfl hl.1 rfl (lv_room (Nat.le_of_ble_eq_true rfl)) dX7_load_119 ⟨Nat.le_of_ble_eq_true rfl, Nat.le_of_ble_eq_true rfl⟩) hS (fun q _ h => hFc q h) hFc (fun r u t H1 locs ht hvm hw hB hz1 hk1 hS => ?_)
        obtain ⟨hP1, hD1⟩ := hB
        rw [ht] at hP1
        obtain ⟨z79, i_78, y80, rfl⟩ := hw
        have i_78 : z79 = tget f_s e_s.toInt 4 k_i.toInt (3 : Int32).toInt := i_78
        obtain ⟨hP, hD⟩ := va_join (wr := [(a_th, (oc7 a_h a_k a_ba a_ad e_fu a_cn a_nx a_hp a_hl a_lv)), (a_ba, (arJ G 24 k_ba)), (a_ad, (arI G 1536 k_ad)), (a_k, (oc5 a_h a_j a_pt z65 z66 z67 z68 z69 z70 z71 z72 z73 z74)), (a_h, (oc1 e_wa e_le e_st e_fo e_lc a_l a_g a_b a_s a_p a_w e_gb a_bb)), (a_g, (oc6 6 5 a_gn e_g)), (a_gn, (arI G 30 f_g)), (a_b, (oc6 5 24 a_bn e_b)), (a_bn, (arI G 120 f_b)), (a_p, (oc6 8 5 a_pn e_p)), (a_pn, (arI G 40 f_p)), (a_bb, (arJ G 24 f_bb)), (a_j, (oc2 a_as a_sk)), (a_as, (arI G 8 z76)), (a_sk, (arJ G 50 z77)), (a_l, (arW G 6 f_l)), (a_pt, (arI G 200 z75))]) hP hD [3, 4] [0, 1, 2, 5, 6, 7, 8, 9, 10, 11, 12, 13, 14, 15, 16, 17, 18] rfl rfl (by decide) (by decide) hk1 hFc hP1 hD1
        generalize H1 = H at hP hS ⊢
        refine g5_rs [(a_th, (oc7 a_h a_k a_ba a_ad e_fu a_cn a_nx a_hp a_hl a_lv)), (a_ba, (arJ G 24 k_ba)), (a_ad, (arI G 1536 k_ad)), (a_k, (oc5 a_h a_j a_pt z65 z66 z67 z68 z69 z70 z71 z72 z73 z74)), (a_h, (oc1 e_wa e_le e_st e_fo e_lc a_l a_g a_b a_s a_p a_w e_gb a_bb)), (a_g, (oc6 6 5 a_gn e_g)), (a_gn, (arI G 30 f_g)), (a_b, (oc6 5 24 a_bn e_b)), (a_bn, (arI G 120 f_b)), (a_p, (oc6 8 5 a_pn e_p)), (a_pn, (arI G 40 f_p)), (a_bb, (arJ G 24 f_bb)), (a_j, (oc2 a_as a_sk)), (a_as, (arI G 8 z76)), (a_sk, (arJ G 50 z77)), (a_l, (arW G 6 f_l)), (a_pt, (arI G 200 z75)), (a_s, (oc6 10 4 a_sn e_s)), (a_sn, (arI G 40 f_s))] hP hD (fun hP hD => ?_)
        refine g5_ti (v := z79) y80 ?_
        refine lv_iconst (v := 1) hx hb dX7_load_122 (by decide) ?_
        refine lv_icmp_ne (tgt := 138) hx hb dX7_load_123 (by decide) (fun c_81 => ?_) (fun c_81 => ?_)
        ·
          have n_81 : gNe (z79.toInt) (1) := by have z := g5_ne (a := z79.toInt) (b := 1) (by rfl) (by decide) c_81; unfold gNe; omega
          refine lv_aload_n hx hb dX7_load_138 rfl (lv_at hl 3 rfl) ?_
          obtain ⟨hPc, hDc, hFc⟩ := g5_sub3 (wc := [(a_th, (oc7 a_h a_k a_ba a_ad e_fu a_cn a_nx a_hp a_hl a_lv)), (a_k, (oc5 a_h a_j a_pt z65 z66 z67 z68 z69 z70 z71 z72 z73 z74)), (a_pt, (arI G 200 z75)), (a_ba, (arJ G 24 k_ba))]) hP hD hS hA [0, 3, 16, 1] (by decide) rfl
          refine va_callv (va_runV (As := []) (rest := []) ⟨hx, hb, hml, hown, hts⟩ (th_bar l G a_th a_k a_pt a_ba a_h a_ad a_cn a_nx a_hp a_hl a_lv a_j H.size e_fu z65 z66 z67 z68 z69 z70 z71 z72 z73 z74 z75 k_ba i_62 i_63 (i_64)) (cwV 0 hts gV_X7_86 rfl rfl rfl hv_X7_barPoints ⟨Nat.le_of_ble_eq_true rfl, Nat.le_of_ble_eq_true rfl⟩) (g5_preV hPc hK hDc hN hT hS hFc (ci := 7) (q0 := 0) rfl rfl) rfl rfl hl.1 rfl (lv_room (Nat.le_of_ble_eq_true rfl)) dX7_load_139 ⟨Nat.le_of_ble_eq_true rfl, Nat.le_of_ble_eq_true rfl⟩) hS (fun q _ h => hFc q h) hFc (fun u t H1 locs ht hvm hw hB hz1 hk1 hS => ?_)
          obtain ⟨hP1, hD1⟩ := hB
          rw [ht] at hP1
          obtain ⟨z82, rfl⟩ := hw
          obtain ⟨hP, hD⟩ := va_join (wr := [(a_ad, (arI G 1536 k_ad)), (a_h, (oc1 e_wa e_le e_st e_fo e_lc a_l a_g a_b a_s a_p a_w e_gb a_bb)), (a_g, (oc6 6 5 a_gn e_g)), (a_gn, (arI G 30 f_g)), (a_b, (oc6 5 24 a_bn e_b)), (a_bn, (arI G 120 f_b)), (a_p, (oc6 8 5 a_pn e_p)), (a_pn, (arI G 40 f_p)), (a_bb, (arJ G 24 f_bb)), (a_j, (oc2 a_as a_sk)), (a_as, (arI G 8 z76)), (a_sk, (arJ G 50 z77)), (a_l, (arW G 6 f_l)), (a_s, (oc6 10 4 a_sn e_s)), (a_sn, (arI G 40 f_s))]) hP hD [0, 3, 16, 1] [2, 4, 5, 6, 7, 8, 9, 10, 11, 12, 13, 14, 15, 17, 18] rfl rfl (by decide) (by decide) hk1 hFc hP1 hD1
          generalize H1 = H at hP hS ⊢
          refine g5_rs [(a_ad, (arI G 1536 k_ad)), (a_h, (oc1 e_wa e_le e_st e_fo e_lc a_l a_g a_b a_s a_p a_w e_gb a_bb)), (a_g, (oc6 6 5 a_gn e_g)), (a_gn, (arI G 30 f_g)), (a_b, (oc6 5 24 a_bn e_b)), (a_bn, (arI G 120 f_b)), (a_p, (oc6 8 5 a_pn e_p)), (a_pn, (arI G 40 f_p)), (a_bb, (arJ G 24 f_bb)), (a_j, (oc2 a_as a_sk)), (a_as, (arI G 8 z76)), (a_sk, (arJ G 50 z77)), (a_l, (arW G 6 f_l)), (a_s, (oc6 10 4 a_sn e_s)), (a_sn, (arI G 40 f_s)), (a_th, (oc7 a_h a_k a_ba a_ad e_fu a_cn a_nx a_hp a_hl a_lv)), (a_k, (oc5 a_h a_j a_pt z65 z66 z67 z68 z69 z70 z71 z72 z73 z74)), (a_pt, (arI G 200 z75)), (a_ba, (arJ G 24 z82))] hP hD (fun hP hD => ?_)
          refine lv_iinc (v := (k_i + 1)) (lv' := [(4, .int (k_i + 1)), (2, .int k_b), (3, .ref a_s), (0, .ref a_th), (1, .int p_s)]) hx hb dX7_load_142 hl (k := 1) rfl rfl (by decide) rfl (fun ls hl => ?_)
          have t_83 : (k_i + 1).toInt = k_i.toInt + 1 := g5_iadd (a := k_i.toInt) (b := 1) rfl (by decide) (by omega) (by omega)
          refine lv_goto (tgt := 68) hx hb dX7_load_145 (by decide) ?_
          exact ih_68_49 (k_b, (k_i + 1), z66, z67, z68, z69, z70, z71, z72, z73, z74, z75, z76, z77, z65, z82, k_ad) ls H locs (show Int.toNat (10 - (k_i + 1).toInt) < Int.toNat (10 - k_i.toInt) from g_up (show k_i.toInt < (k_i + 1).toInt by omega) (show k_i.toInt < 10 by omega)) ⟨lv_sub hl [1, 0, 2, 3, 4] rfl, hP.sub [16, 1, 2, 3, 4, 5, 6, 7, 13, 14, 8, 9, 10, 11, 12, 17, 15, 18, 0] rfl, hD.sub [16, 1, 2, 3, 4, 5, 6, 7, 13, 14, 8, 9, 10, 11, 12, 17, 15, 18, 0] (by decide) rfl, hS, ⟨by omega, by omega⟩, i_63, by omega, ld_stay i_48 e_sh (by omega) (by omega) (by omega)⟩
        ·
          have i_81 : z79.toInt = 1 := by have z := g5_neN (a := z79.toInt) (b := 1) (by rfl) (by decide) c_81; omega
          obtain ⟨gs_84, hg1_84, hg2_84, hg3_84⟩ := id i_48
          have hg4_84 : gs_84 < 5 := ld_lt hg1_84 e_sh e_s5 i_78 (by omega) (by omega) (by omega)
          have hg5_84 : mOK k_ad (gs_84 + 1) := mOK_up hg3_84
          refine lv_aload_n hx hb dX7_load_126 rfl (lv_at hl 3 rfl) ?_
          refine lv_iload_n hx hb dX7_load_127 rfl (lv_at hl 0 rfl) ?_
          obtain ⟨hPc, hDc, hFc⟩ := g5_sub3 (wc := [(a_th, (oc7 a_h a_k a_ba a_ad e_fu a_cn a_nx a_hp a_hl a_lv)), (a_k, (oc5 a_h a_j a_pt z65 z66 z67 z68 z69 z70 z71 z72 z73 z74)), (a_pt, (arI G 200 z75)), (a_ad, (arI G 1536 k_ad))]) hP hD hS hA [0, 3, 16, 2] (by decide) rfl
          refine va_callv (va_runV (As := [.int k_b]) (rest := []) ⟨hx, hb, hml, hown, hts⟩ (th_add l G a_th a_k a_pt a_ad a_h a_ba a_cn a_nx a_hp a_hl a_lv a_j H.size e_fu z65 z66 z67 z68 z69 z70 z71 z72 z73 z74 k_b z75 k_ad gs_84 i_62 i_63 (i_64) (hg4_84) (hg2_84) (hg5_84)) (cwV 1 hts gV_X7_82 rfl rfl rfl hv_X7_addPoints ⟨Nat.le_of_ble_eq_true rfl, Nat.le_of_ble_eq_true rfl⟩) (g5_preV hPc hK hDc hN hT hS hFc (ci := 7) (q0 := 0) rfl rfl) rfl rfl hl.1 rfl (lv_room (Nat.le_of_ble_eq_true rfl)) dX7_load_128 ⟨Nat.le_of_ble_eq_true rfl, Nat.le_of_ble_eq_true rfl⟩) hS (fun q _ h => hFc q h) hFc (fun u t H1 locs ht hvm hw hB hz1 hk1 hS => ?_)
          obtain ⟨hP1, hD1⟩ := hB
          rw [ht] at hP1
          obtain ⟨z86, i_85, rfl⟩ := hw
          have i_85 : mOK z86 (gs_84 + 1) := i_85
          obtain ⟨hP, hD⟩ := va_join (wr := [(a_ba, (arJ G 24 k_ba)), (a_h, (oc1 e_wa e_le e_st e_fo e_lc a_l a_g a_b a_s a_p a_w e_gb a_bb)), (a_g, (oc6 6 5 a_gn e_g)), (a_gn, (arI G 30 f_g)), (a_b, (oc6 5 24 a_bn e_b)), (a_bn, (arI G 120 f_b)), (a_p, (oc6 8 5 a_pn e_p)), (a_pn, (arI G 40 f_p)), (a_bb, (arJ G 24 f_bb)), (a_j, (oc2 a_as a_sk)), (a_as, (arI G 8 z76)), (a_sk, (arJ G 50 z77)), (a_l, (arW G 6 f_l)), (a_s, (oc6 10 4 a_sn e_s)), (a_sn, (arI G 40 f_s))]) hP hD [0, 3, 16, 2] [1, 4, 5, 6, 7, 8, 9, 10, 11, 12, 13, 14, 15, 17, 18] rfl rfl (by decide) (by decide) hk1 hFc hP1 hD1
          generalize H1 = H at hP hS ⊢
          refine g5_rs [(a_ba, (arJ G 24 k_ba)), (a_h, (oc1 e_wa e_le e_st e_fo e_lc a_l a_g a_b a_s a_p a_w e_gb a_bb)), (a_g, (oc6 6 5 a_gn e_g)), (a_gn, (arI G 30 f_g)), (a_b, (oc6 5 24 a_bn e_b)), (a_bn, (arI G 120 f_b)), (a_p, (oc6 8 5 a_pn e_p)), (a_pn, (arI G 40 f_p)), (a_bb, (arJ G 24 f_bb)), (a_j, (oc2 a_as a_sk)), (a_as, (arI G 8 z76)), (a_sk, (arJ G 50 z77)), (a_l, (arW G 6 f_l)), (a_s, (oc6 10 4 a_sn e_s)), (a_sn, (arI G 40 f_s)), (a_th, (oc7 a_h a_k a_ba a_ad e_fu a_cn a_nx a_hp a_hl a_lv)), (a_k, (oc5 a_h a_j a_pt z65 z66 z67 z68 z69 z70 z71 z72 z73 z74)), (a_pt, (arI G 200 z75)), (a_ad, (arI G 1536 z86))] hP hD (fun hP hD => ?_)
          refine lv_iload_n hx hb dX7_load_131 rfl (lv_at hl 0 rfl) ?_
          refine lv_iconst (v := 1) hx hb dX7_load_132 (by decide) ?_
          refine lv_ishl hx hb dX7_load_133 ?_
          refine lv_istore_n (lv' := [(2, .int (k_b <<< (1 &&& 31))), (4, .int k_i), (3, .ref a_s), (0, .ref a_th), (1, .int p_s)]) hx hb dX7_load_134 rfl hl (by decide) rfl (fun ls hl => ?_)
          refine lv_goto (tgt := 142) hx hb dX7_load_135 (by decide) ?_
          refine lv_iinc (v := (k_i + 1)) (lv' := [(4, .int (k_i + 1)), (2, .int (k_b <<< (1 &&& 31))), (3, .ref a_s), (0, .ref a_th), (1, .int p_s)]) hx hb dX7_load_142 hl (k := 1) rfl rfl (by decide) rfl (fun ls hl => ?_)
          have t_87 : (k_i + 1).toInt = k_i.toInt + 1 := g5_iadd (a := k_i.toInt) (b := 1) rfl (by decide) (by omega) (by omega)
          refine lv_goto (tgt := 68) hx hb dX7_load_145 (by decide) ?_
          exact ih_68_49 ((k_b <<< (1 &&& 31)), (k_i + 1), z66, z67, z68, z69, z70, z71, z72, z73, z74, z75, z76, z77, z65, k_ba, z86) ls H locs (show Int.toNat (10 - (k_i + 1).toInt) < Int.toNat (10 - k_i.toInt) from g_up (show k_i.toInt < (k_i + 1).toInt by omega) (show k_i.toInt < 10 by omega)) ⟨lv_sub hl [1, 0, 2, 3, 4] rfl, hP.sub [16, 1, 2, 3, 4, 5, 6, 7, 13, 14, 8, 9, 10, 11, 12, 17, 15, 0, 18] rfl, hD.sub [16, 1, 2, 3, 4, 5, 6, 7, 13, 14, 8, 9, 10, 11, 12, 17, 15, 0, 18] (by decide) rfl, hS, ⟨by omega, by omega⟩, i_63, by omega, ld_go hg1_84 hg2_84 hg4_84 i_85 i_78 (by omega) (by omega) (by omega)⟩
