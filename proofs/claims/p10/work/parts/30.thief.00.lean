theorem dJ7_fill_53178_0 : decode cJ7_fill_53178 0 = .ok (.iconst 0, 1) := by decide +kernel
theorem dJ7_fill_53178_1 : decode cJ7_fill_53178 1 = .ok (.istore_n 2, 1) := by decide +kernel
theorem dJ7_fill_53178_2 : decode cJ7_fill_53178 2 = .ok (.aload_n 0, 1) := by decide +kernel
theorem dJ7_fill_53178_3 : decode cJ7_fill_53178 3 = .ok (.arraylength, 1) := by decide +kernel
theorem dJ7_fill_53178_4 : decode cJ7_fill_53178 4 = .ok (.istore_n 3, 1) := by decide +kernel
theorem dJ7_fill_53178_5 : decode cJ7_fill_53178 5 = .ok (.iload_n 2, 1) := by decide +kernel
theorem dJ7_fill_53178_6 : decode cJ7_fill_53178 6 = .ok (.iload_n 3, 1) := by decide +kernel
theorem dJ7_fill_53178_7 : decode cJ7_fill_53178 7 = .ok (.if_icmp .ge 13, 3) := by decide +kernel
theorem dJ7_fill_53178_10 : decode cJ7_fill_53178 10 = .ok (.aload_n 0, 1) := by decide +kernel
theorem dJ7_fill_53178_11 : decode cJ7_fill_53178 11 = .ok (.iload_n 2, 1) := by decide +kernel
theorem dJ7_fill_53178_12 : decode cJ7_fill_53178 12 = .ok (.iload_n 1, 1) := by decide +kernel
theorem dJ7_fill_53178_13 : decode cJ7_fill_53178 13 = .ok (.iastore, 1) := by decide +kernel
theorem dJ7_fill_53178_14 : decode cJ7_fill_53178 14 = .ok (.iinc 2 1, 3) := by decide +kernel
theorem dJ7_fill_53178_17 : decode cJ7_fill_53178 17 = .ok (.goto (-12), 3) := by decide +kernel
theorem dJ7_fill_53178_20 : decode cJ7_fill_53178 20 = .ok (.return_, 1) := by decide +kernel
set_option maxHeartbeats 4000000 in
set_option maxRecDepth 100000 in
theorem k_fillI1536 (l : Launch) (G : g5_G) (a_0 : Nat) (sz : Nat) (p_v : Int32) (f_a : Nat → Int32) : Met l yJ7_fill_53178 (wsG yJ7_fill_53178 cJ7_fill_53178 4 none) ({ frames := 0, cells := 0, slots := 0, locals := 0 }) (va_Pc [.ref a_0, .int p_v] (g5_P G [(a_0, .inl (G.2 0, 1536, .inl f_a))] sz)) (va_Qv (fun (u : va_W) => ((u = [(a_0, .inl (G.2 0, 1536, .inl (fun _ => p_v)))]))) (g5_B G (va_A [(a_0, .inl (G.2 0, 1536, .inl f_a))] sz)) (va_A [(a_0, .inl (G.2 0, 1536, .inl f_a))] sz)) 0 0 (va_A [(a_0, .inl (G.2 0, 1536, .inl f_a))] sz) := by
  refine Met.ofW (cc := cJ7_fill_53178) (maxL := 4) (ret := none) (by decide) rfl ?_
  intro p e s m args below meth c s₁ B hml hv
  obtain ⟨rfl, hsz, hP, hK, hD0, hN, hT⟩ := hv
  have hx := B.exec
  have hb := B.bytes
  have hr := B.returns
  have hts : ∀ w ∈ tblG, w.before _ s = true := fun w h => atoms_spec (ws := (wsG yJ7_fill_53178 cJ7_fill_53178 4 none)) B.pre w (List.mem_cons_of_mem _ h)
  have hown : s.vm.findClass RJ7 = some m.cls := findClass_of_methodNamed B.named
  have hlocks := B.notSynchronized
  subst hsz
  have hD := hD0.self (sz := s.heap.size)
  generalize hAe : va_A [(a_0, .inl (G.2 0, 1536, .inl f_a))] s.heap.size = A at hD hT ⊢
  have hA : ∀ q : Nat, s.heap.size ≤ q → A q := fun q h => by rw [← hAe]; exact Or.inr h
  have hS : va_S A s.heap s.heap [] := va_S.rf
  have hP : va_P G.1 vwCl [(a_0, .inl (G.2 0, 1536, .inl f_a))] s.heap := hP
  have hl := lv_entry ([.ref a_0, .int p_v]) (n := 4) (Nat.le_of_ble_eq_true rfl)
  rw [lg_entry_eq]
  generalize (lg_sl ([.ref a_0, .int p_v]) ++ List.replicate (4 - (lg_sl ([.ref a_0, .int p_v])).length) Slot.unset).toArray = ls at hl ⊢
  have hl : lv_has ls 4 [(0, .ref a_0), (1, .int p_v)] := hl
  refine lv_iconst (v := 0) hx hb dJ7_fill_53178_0 (by decide) ?_
  refine lv_istore_n (lv' := [(2, .int 0), (0, .ref a_0), (1, .int p_v)]) hx hb dJ7_fill_53178_1 rfl hl (by decide) rfl (fun ls hl => ?_)
  refine lv_aload_n hx hb dJ7_fill_53178_2 rfl (lv_at hl 1 rfl) ?_
  refine va_alen hx hb hK hP 0 0 rfl rfl (v := 1536) (by show Int32.ofNat 1536 = 1536; decide) dJ7_fill_53178_3 ?_
  refine lv_istore_n (lv' := [(3, .int 1536), (2, .int 0), (0, .ref a_0), (1, .int p_v)]) hx hb dJ7_fill_53178_4 rfl hl (by decide) rfl (fun ls hl => ?_)
  refine g5_loop (α := (Int32) × (Nat → Int32)) (fun (q : (Int32) × (Nat → Int32)) (ls : Array Slot) (H : Heap) (locs : List Loc) => match q with | (k_i, k_f) => lv_has ls 4 [(2, .int k_i), (3, .int 1536), (0, .ref a_0), (1, .int p_v)] ∧ va_P G.1 vwCl [(a_0, .inl (G.2 0, 1536, .inl k_f))] H ∧ va_D A [(a_0, .inl (G.2 0, 1536, .inl k_f))] ∧ va_S A s.heap H locs ∧ (0 ≤ k_i.toInt ∧ k_i.toInt ≤ 1536) ∧ (∀ j : Nat, (j : Int) < k_i.toInt → k_f j = (fun _ => p_v) j)) (fun (q : (Int32) × (Nat → Int32)) => match q with | (k_i, k_f) => Int.toNat (1536 - k_i.toInt)) (0, f_a) ⟨lv_sub hl [1, 0, 2, 3] rfl, hP, hD, hS, ⟨by decide, by decide⟩, fun j h => absurd h (by have z : (0 : Int32).toInt = 0 := (by decide); omega)⟩ ?_
  rintro ⟨k_i, k_f⟩ ls H locs ⟨hl, hP, hD, hS, i_1, i_2⟩ ih_5_3
  have hl : lv_has ls 4 [(2, .int k_i), (3, .int 1536), (0, .ref a_0), (1, .int p_v)] := hl
  have i_1 : 0 ≤ k_i.toInt ∧ k_i.toInt ≤ 1536 := i_1
  have i_2 : ∀ j : Nat, (j : Int) < k_i.toInt → k_f j = (fun _ => p_v) j := i_2
  have hP : va_P G.1 vwCl [(a_0, .inl (G.2 0, 1536, .inl k_f))] H := hP
  have hD : va_D A [(a_0, .inl (G.2 0, 1536, .inl k_f))] := hD
  refine lv_iload_n hx hb dJ7_fill_53178_5 rfl (lv_at hl 0 rfl) ?_
  refine lv_iload_n hx hb dJ7_fill_53178_6 rfl (lv_at hl 1 rfl) ?_
  refine lv_icmp_ge (tgt := 20) hx hb dJ7_fill_53178_7 (by decide) (fun c_4 => ?_) (fun c_4 => ?_)
  ·
    have i_4 : k_i.toInt ≥ 1536 := by have z := g5_ge (a := k_i.toInt) (b := 1536) (by rfl) (by decide) c_4; omega
    obtain ⟨hP, hD⟩ := g5_cvI hP hD 0 (f := k_f) (g := (fun _ => p_v)) rfl (fun j h => i_2 j (by omega))
    have hP : va_P G.1 vwCl [(a_0, .inl (G.2 0, 1536, .inl (fun _ => p_v)))] H := hP
    have hD : va_D A [(a_0, .inl (G.2 0, 1536, .inl (fun _ => p_v)))] := hD
    exact W.vret hx hb hr (fun t ht hW => ⟨⟨[(a_0, .inl (G.2 0, 1536, .inl (fun _ => p_v)))], rfl, rfl, by rw [ht]; exact hP.sub [0] rfl, hD.sub [0] (by decide) rfl⟩, hS.F ht⟩) hS.2.2 dJ7_fill_53178_20
  ·
    have i_4 : k_i.toInt < 1536 := by have z := g5_geN (a := k_i.toInt) (b := 1536) (by rfl) (by decide) c_4; omega
    refine lv_aload_n hx hb dJ7_fill_53178_10 rfl (lv_at hl 2 rfl) ?_
    refine lv_iload_n hx hb dJ7_fill_53178_11 rfl (lv_at hl 0 rfl) ?_
    refine lv_iload_n hx hb dJ7_fill_53178_12 rfl (lv_at hl 3 rfl) ?_
    refine va_iast hx hb hK hP hD hS 0 0 rfl rfl (i := k_i) (x := p_v) (vp_in_iff.mpr ⟨by omega, by omega⟩) dJ7_fill_53178_13 (fun H locs hP hD hS => ?_)
    have hP : va_P G.1 vwCl [(a_0, .inl (G.2 0, 1536, .inl (upd k_f k_i.toNatClampNeg p_v)))] H := hP
    have hD : va_D A [(a_0, .inl (G.2 0, 1536, .inl (upd k_f k_i.toNatClampNeg p_v)))] := hD
    refine lv_iinc (v := (k_i + 1)) (lv' := [(2, .int (k_i + 1)), (3, .int 1536), (0, .ref a_0), (1, .int p_v)]) hx hb dJ7_fill_53178_14 hl (k := 0) rfl rfl (by decide) rfl (fun ls hl => ?_)
    have t_5 : (k_i + 1).toInt = k_i.toInt + 1 := g5_iadd (a := k_i.toInt) (b := 1) rfl (by decide) (by omega) (by omega)
    refine lv_goto (tgt := 5) hx hb dJ7_fill_53178_17 (by decide) ?_
    exact ih_5_3 ((k_i + 1), (upd k_f k_i.toNatClampNeg p_v)) ls H locs (show Int.toNat (1536 - (k_i + 1).toInt) < Int.toNat (1536 - k_i.toInt) from g_up (show k_i.toInt < (k_i + 1).toInt by omega) (show k_i.toInt < 1536 by omega)) ⟨lv_sub hl [0, 1, 2, 3] rfl, hP, hD, hS, ⟨by omega, by omega⟩, g5_fillI i_2 (by omega) (by omega) rfl⟩
set_option maxHeartbeats 4000000 in
set_option maxRecDepth 100000 in
theorem k_fillJ2048 (l : Launch) (G : g5_G) (a_0 : Nat) (sz : Nat) (p_v : Int64) (f_a : Nat → Int64) : Met l yJ7_fill_d0a16 (wsG yJ7_fill_d0a16 cJ7_fill_d0a16 5 none) ({ frames := 0, cells := 0, slots := 0, locals := 0 }) (va_Pc [.ref a_0, .long p_v] (g5_P G [(a_0, .inl (G.2 1, 2048, .inr (.inl f_a)))] sz)) (va_Qv (fun (u : va_W) => ((u = [(a_0, .inl (G.2 1, 2048, .inr (.inl (fun _ => p_v))))]))) (g5_B G (va_A [(a_0, .inl (G.2 1, 2048, .inr (.inl f_a)))] sz)) (va_A [(a_0, .inl (G.2 1, 2048, .inr (.inl f_a)))] sz)) 0 0 (va_A [(a_0, .inl (G.2 1, 2048, .inr (.inl f_a)))] sz) := by
  refine Met.ofW (cc := cJ7_fill_d0a16) (maxL := 5) (ret := none) (by decide) rfl ?_
  intro p e s m args below meth c s₁ B hml hv
  obtain ⟨rfl, hsz, hP, hK, hD0, hN, hT⟩ := hv
  have hx := B.exec
  have hb := B.bytes
  have hr := B.returns
  have hts : ∀ w ∈ tblG, w.before _ s = true := fun w h => atoms_spec (ws := (wsG yJ7_fill_d0a16 cJ7_fill_d0a16 5 none)) B.pre w (List.mem_cons_of_mem _ h)
  have hown : s.vm.findClass RJ7 = some m.cls := findClass_of_methodNamed B.named
  have hlocks := B.notSynchronized
  subst hsz
  have hD := hD0.self (sz := s.heap.size)
  generalize hAe : va_A [(a_0, .inl (G.2 1, 2048, .inr (.inl f_a)))] s.heap.size = A at hD hT ⊢
  have hA : ∀ q : Nat, s.heap.size ≤ q → A q := fun q h => by rw [← hAe]; exact Or.inr h
  have hS : va_S A s.heap s.heap [] := va_S.rf
  have hP : va_P G.1 vwCl [(a_0, .inl (G.2 1, 2048, .inr (.inl f_a)))] s.heap := hP
  have hl := lv_entry ([.ref a_0, .long p_v]) (n := 5) (Nat.le_of_ble_eq_true rfl)
  rw [lg_entry_eq]
  generalize (lg_sl ([.ref a_0, .long p_v]) ++ List.replicate (5 - (lg_sl ([.ref a_0, .long p_v])).length) Slot.unset).toArray = ls at hl ⊢
  have hl : lv_has ls 5 [(0, .ref a_0), (1, .long p_v)] := hl
  refine lv_iconst (v := 0) hx hb dJ7_fill_d0a16_0 (by decide) ?_
  refine lv_istore_n (lv' := [(3, .int 0), (0, .ref a_0), (1, .long p_v)]) hx hb dJ7_fill_d0a16_1 rfl hl (by decide) rfl (fun ls hl => ?_)
  refine lv_aload_n hx hb dJ7_fill_d0a16_2 rfl (lv_at hl 1 rfl) ?_
  refine va_alen hx hb hK hP 0 1 rfl rfl (v := 2048) (by show Int32.ofNat 2048 = 2048; decide) dJ7_fill_d0a16_3 ?_
  refine lv_istore (lv' := [(4, .int 2048), (3, .int 0), (0, .ref a_0), (1, .long p_v)]) hx hb dJ7_fill_d0a16_4 hl (by decide) rfl (fun ls hl => ?_)
  refine g5_loop (α := (Int32) × (Nat → Int64)) (fun (q : (Int32) × (Nat → Int64)) (ls : Array Slot) (H : Heap) (locs : List Loc) => match q with | (k_i, k_f) => lv_has ls 5 [(3, .int k_i), (4, .int 2048), (0, .ref a_0), (1, .long p_v)] ∧ va_P G.1 vwCl [(a_0, .inl (G.2 1, 2048, .inr (.inl k_f)))] H ∧ va_D A [(a_0, .inl (G.2 1, 2048, .inr (.inl k_f)))] ∧ va_S A s.heap H locs ∧ (0 ≤ k_i.toInt ∧ k_i.toInt ≤ 2048) ∧ (∀ j : Nat, (j : Int) < k_i.toInt → k_f j = (fun _ => p_v) j)) (fun (q : (Int32) × (Nat → Int64)) => match q with | (k_i, k_f) => Int.toNat (2048 - k_i.toInt)) (0, f_a) ⟨lv_sub hl [1, 0, 2, 3] rfl, hP, hD, hS, ⟨by decide, by decide⟩, fun j h => absurd h (by have z : (0 : Int32).toInt = 0 := (by decide); omega)⟩ ?_
  rintro ⟨k_i, k_f⟩ ls H locs ⟨hl, hP, hD, hS, i_1, i_2⟩ ih_6_3
  have hl : lv_has ls 5 [(3, .int k_i), (4, .int 2048), (0, .ref a_0), (1, .long p_v)] := hl
  have i_1 : 0 ≤ k_i.toInt ∧ k_i.toInt ≤ 2048 := i_1
  have i_2 : ∀ j : Nat, (j : Int) < k_i.toInt → k_f j = (fun _ => p_v) j := i_2
  have hP : va_P G.1 vwCl [(a_0, .inl (G.2 1, 2048, .inr (.inl k_f)))] H := hP
  have hD : va_D A [(a_0, .inl (G.2 1, 2048, .inr (.inl k_f)))] := hD
  refine lv_iload_n hx hb dJ7_fill_d0a16_6 rfl (lv_at hl 0 rfl) ?_
  refine lv_iload hx hb dJ7_fill_d0a16_7 (lv_at hl 1 rfl) ?_
  refine lv_icmp_ge (tgt := 22) hx hb dJ7_fill_d0a16_9 (by decide) (fun c_4 => ?_) (fun c_4 => ?_)
  ·
    have i_4 : k_i.toInt ≥ 2048 := by have z := g5_ge (a := k_i.toInt) (b := 2048) (by rfl) (by decide) c_4; omega
    obtain ⟨hP, hD⟩ := g5_cvJ hP hD 0 (f := k_f) (g := (fun _ => p_v)) rfl (fun j h => i_2 j (by omega))
    have hP : va_P G.1 vwCl [(a_0, .inl (G.2 1, 2048, .inr (.inl (fun _ => p_v))))] H := hP
    have hD : va_D A [(a_0, .inl (G.2 1, 2048, .inr (.inl (fun _ => p_v))))] := hD
    exact W.vret hx hb hr (fun t ht hW => ⟨⟨[(a_0, .inl (G.2 1, 2048, .inr (.inl (fun _ => p_v))))], rfl, rfl, by rw [ht]; exact hP.sub [0] rfl, hD.sub [0] (by decide) rfl⟩, hS.F ht⟩) hS.2.2 dJ7_fill_d0a16_22
  ·
    have i_4 : k_i.toInt < 2048 := by have z := g5_geN (a := k_i.toInt) (b := 2048) (by rfl) (by decide) c_4; omega
    refine lv_aload_n hx hb dJ7_fill_d0a16_12 rfl (lv_at hl 2 rfl) ?_
    refine lv_iload_n hx hb dJ7_fill_d0a16_13 rfl (lv_at hl 0 rfl) ?_
    refine lv_lload_n hx hb dJ7_fill_d0a16_14 rfl (lv_at hl 3 rfl) ?_
    refine va_last hx hb hK hP hD hS 0 1 rfl rfl (i := k_i) (x := p_v) (vp_in_iff.mpr ⟨by omega, by omega⟩) dJ7_fill_d0a16_15 (fun H locs hP hD hS => ?_)
    have hP : va_P G.1 vwCl [(a_0, .inl (G.2 1, 2048, .inr (.inl (vp_updL k_f k_i.toNatClampNeg p_v))))] H := hP
    have hD : va_D A [(a_0, .inl (G.2 1, 2048, .inr (.inl (vp_updL k_f k_i.toNatClampNeg p_v))))] := hD
    refine lv_iinc (v := (k_i + 1)) (lv' := [(3, .int (k_i + 1)), (4, .int 2048), (0, .ref a_0), (1, .long p_v)]) hx hb dJ7_fill_d0a16_16 hl (k := 0) rfl rfl (by decide) rfl (fun ls hl => ?_)
    have t_5 : (k_i + 1).toInt = k_i.toInt + 1 := g5_iadd (a := k_i.toInt) (b := 1) rfl (by decide) (by omega) (by omega)
    refine lv_goto (tgt := 6) hx hb dJ7_fill_d0a16_19 (by decide) ?_
    exact ih_6_3 ((k_i + 1), (vp_updL k_f k_i.toNatClampNeg p_v)) ls H locs (show Int.toNat (2048 - (k_i + 1).toInt) < Int.toNat (2048 - k_i.toInt) from g_up (show k_i.toInt < (k_i + 1).toInt by omega) (show k_i.toInt < 2048 by omega)) ⟨lv_sub hl [0, 1, 2, 3] rfl, hP, hD, hS, ⟨by omega, by omega⟩, g5_fillJ i_2 (by omega) (by omega) rfl⟩
theorem dX7_load_0 : decode cX7_load 0 = .ok (.aload_n 0, 1) := by decide +kernel
theorem dX7_load_1 : decode cX7_load 1 = .ok (.getfield 9, 3) := by decide +kernel
theorem dX7_load_4 : decode cX7_load 4 = .ok (.aload_n 0, 1) := by decide +kernel
theorem dX7_load_5 : decode cX7_load 5 = .ok (.getfield 34, 3) := by decide +kernel
theorem dX7_load_8 : decode cX7_load 8 = .ok (.getfield 54, 3) := by decide +kernel
theorem dX7_load_11 : decode cX7_load 11 = .ok (.invokestatic 58, 3) := by decide +kernel
theorem dX7_load_14 : decode cX7_load 14 = .ok (.aload_n 0, 1) := by decide +kernel
theorem dX7_load_15 : decode cX7_load 15 = .ok (.getfield 15, 3) := by decide +kernel
theorem dX7_load_18 : decode cX7_load 18 = .ok (.iconst 0, 1) := by decide +kernel
theorem dX7_load_19 : decode cX7_load 19 = .ok (.invokestatic 64, 3) := by decide +kernel
theorem dX7_load_22 : decode cX7_load 22 = .ok (.aload_n 0, 1) := by decide +kernel
theorem dX7_load_23 : decode cX7_load 23 = .ok (.getfield 34, 3) := by decide +kernel
theorem dX7_load_26 : decode cX7_load 26 = .ok (.getfield 67, 3) := by decide +kernel
theorem dX7_load_29 : decode cX7_load 29 = .ok (.iconst (-1), 1) := by decide +kernel
theorem dX7_load_30 : decode cX7_load 30 = .ok (.if_icmp .eq 25, 3) := by decide +kernel
theorem dX7_load_33 : decode cX7_load 33 = .ok (.aload_n 0, 1) := by decide +kernel
theorem dX7_load_34 : decode cX7_load 34 = .ok (.getfield 9, 3) := by decide +kernel
theorem dX7_load_37 : decode cX7_load 37 = .ok (.iconst 0, 1) := by decide +kernel
theorem dX7_load_38 : decode cX7_load 38 = .ok (.dup2, 1) := by decide +kernel
theorem dX7_load_39 : decode cX7_load 39 = .ok (.laload, 1) := by decide +kernel
theorem dX7_load_40 : decode cX7_load 40 = .ok (.lconst 1, 1) := by decide +kernel
theorem dX7_load_41 : decode cX7_load 41 = .ok (.aload_n 0, 1) := by decide +kernel
theorem dX7_load_42 : decode cX7_load 42 = .ok (.getfield 34, 3) := by decide +kernel
theorem dX7_load_45 : decode cX7_load 45 = .ok (.getfield 67, 3) := by decide +kernel
theorem dX7_load_48 : decode cX7_load 48 = .ok (.lshl, 1) := by decide +kernel
theorem dX7_load_49 : decode cX7_load 49 = .ok (.ldc2_w 70, 3) := by decide +kernel
theorem dX7_load_52 : decode cX7_load 52 = .ok (.lxor, 1) := by decide +kernel
theorem dX7_load_53 : decode cX7_load 53 = .ok (.lor, 1) := by decide +kernel
theorem dX7_load_54 : decode cX7_load 54 = .ok (.lastore, 1) := by decide +kernel
theorem dX7_load_55 : decode cX7_load 55 = .ok (.iconst 1, 1) := by decide +kernel
theorem dX7_load_56 : decode cX7_load 56 = .ok (.istore_n 2, 1) := by decide +kernel
theorem dX7_load_57 : decode cX7_load 57 = .ok (.aload_n 0, 1) := by decide +kernel
theorem dX7_load_58 : decode cX7_load 58 = .ok (.getfield 34, 3) := by decide +kernel
theorem dX7_load_61 : decode cX7_load 61 = .ok (.getfield 42, 3) := by decide +kernel
theorem dX7_load_64 : decode cX7_load 64 = .ok (.astore_n 3, 1) := by decide +kernel
theorem dX7_load_65 : decode cX7_load 65 = .ok (.iconst 0, 1) := by decide +kernel
theorem dX7_load_66 : decode cX7_load 66 = .ok (.istore 4, 2) := by decide +kernel
theorem dX7_load_68 : decode cX7_load 68 = .ok (.iload 4, 2) := by decide +kernel
theorem dX7_load_70 : decode cX7_load 70 = .ok (.aload_n 3, 1) := by decide +kernel
theorem dX7_load_71 : decode cX7_load 71 = .ok (.getfield 48, 3) := by decide +kernel
theorem dX7_load_74 : decode cX7_load 74 = .ok (.if_icmp .ge 74, 3) := by decide +kernel
theorem dX7_load_77 : decode cX7_load 77 = .ok (.iload_n 1, 1) := by decide +kernel
theorem dX7_load_78 : decode cX7_load 78 = .ok (.iload 4, 2) := by decide +kernel
theorem dX7_load_80 : decode cX7_load 80 = .ok (.ishr, 1) := by decide +kernel
theorem dX7_load_81 : decode cX7_load 81 = .ok (.iconst 1, 1) := by decide +kernel
theorem dX7_load_82 : decode cX7_load 82 = .ok (.iand, 1) := by decide +kernel
theorem dX7_load_83 : decode cX7_load 83 = .ok (.ifCond .eq 59, 3) := by decide +kernel
theorem dX7_load_86 : decode cX7_load 86 = .ok (.aload_n 0, 1) := by decide +kernel
theorem dX7_load_87 : decode cX7_load 87 = .ok (.getfield 38, 3) := by decide +kernel
theorem dX7_load_90 : decode cX7_load 90 = .ok (.aload_n 3, 1) := by decide +kernel
theorem dX7_load_91 : decode cX7_load 91 = .ok (.iload 4, 2) := by decide +kernel
theorem dX7_load_93 : decode cX7_load 93 = .ok (.iconst 0, 1) := by decide +kernel
theorem dX7_load_94 : decode cX7_load 94 = .ok (.invokevirtual 72, 3) := by decide +kernel
theorem dX7_load_97 : decode cX7_load 97 = .ok (.aload_n 3, 1) := by decide +kernel
theorem dX7_load_98 : decode cX7_load 98 = .ok (.iload 4, 2) := by decide +kernel
theorem dX7_load_100 : decode cX7_load 100 = .ok (.iconst 1, 1) := by decide +kernel
theorem dX7_load_101 : decode cX7_load 101 = .ok (.invokevirtual 72, 3) := by decide +kernel
theorem dX7_load_104 : decode cX7_load 104 = .ok (.aload_n 3, 1) := by decide +kernel
theorem dX7_load_105 : decode cX7_load 105 = .ok (.iload 4, 2) := by decide +kernel
theorem dX7_load_107 : decode cX7_load 107 = .ok (.iconst 2, 1) := by decide +kernel
theorem dX7_load_108 : decode cX7_load 108 = .ok (.invokevirtual 72, 3) := by decide +kernel
theorem dX7_load_111 : decode cX7_load 111 = .ok (.iconst 0, 1) := by decide +kernel
theorem dX7_load_112 : decode cX7_load 112 = .ok (.invokevirtual 76, 3) := by decide +kernel
theorem dX7_load_115 : decode cX7_load 115 = .ok (.aload_n 3, 1) := by decide +kernel
theorem dX7_load_116 : decode cX7_load 116 = .ok (.iload 4, 2) := by decide +kernel
theorem dX7_load_118 : decode cX7_load 118 = .ok (.iconst 3, 1) := by decide +kernel
theorem dX7_load_119 : decode cX7_load 119 = .ok (.invokevirtual 72, 3) := by decide +kernel
theorem dX7_load_122 : decode cX7_load 122 = .ok (.iconst 1, 1) := by decide +kernel
theorem dX7_load_123 : decode cX7_load 123 = .ok (.if_icmp .ne 15, 3) := by decide +kernel
theorem dX7_load_126 : decode cX7_load 126 = .ok (.aload_n 0, 1) := by decide +kernel
theorem dX7_load_127 : decode cX7_load 127 = .ok (.iload_n 2, 1) := by decide +kernel
theorem dX7_load_128 : decode cX7_load 128 = .ok (.invokevirtual 82, 3) := by decide +kernel
theorem dX7_load_131 : decode cX7_load 131 = .ok (.iload_n 2, 1) := by decide +kernel
theorem dX7_load_132 : decode cX7_load 132 = .ok (.iconst 1, 1) := by decide +kernel
theorem dX7_load_133 : decode cX7_load 133 = .ok (.ishl, 1) := by decide +kernel
theorem dX7_load_134 : decode cX7_load 134 = .ok (.istore_n 2, 1) := by decide +kernel
theorem dX7_load_135 : decode cX7_load 135 = .ok (.goto 7, 3) := by decide +kernel
theorem dX7_load_138 : decode cX7_load 138 = .ok (.aload_n 0, 1) := by decide +kernel
theorem dX7_load_139 : decode cX7_load 139 = .ok (.invokevirtual 86, 3) := by decide +kernel
theorem dX7_load_142 : decode cX7_load 142 = .ok (.iinc 4 1, 3) := by decide +kernel
theorem dX7_load_145 : decode cX7_load 145 = .ok (.goto (-77), 3) := by decide +kernel
theorem dX7_load_148 : decode cX7_load 148 = .ok (.aload_n 0, 1) := by decide +kernel
theorem dX7_load_149 : decode cX7_load 149 = .ok (.iload_n 2, 1) := by decide +kernel
theorem dX7_load_150 : decode cX7_load 150 = .ok (.iconst 1, 1) := by decide +kernel
theorem dX7_load_151 : decode cX7_load 151 = .ok (.isub, 1) := by decide +kernel
theorem dX7_load_152 : decode cX7_load 152 = .ok (.putfield 89, 3) := by decide +kernel
theorem dX7_load_155 : decode cX7_load 155 = .ok (.return_, 1) := by decide +kernel
theorem fl_X7_34 : Cond.fieldLink RX7 34 "LateGlass$Thief" "house" "LLateGlass$House;" ∈ tblG := tg 317 (by decide +kernel) (by decide +kernel)
theorem fl_X7_54 : Cond.fieldLink RX7 54 "LateGlass$House" "walls" "J" ∈ tblG := tg 156 (by decide +kernel) (by decide +kernel)
theorem ml_X7_58 : Cond.methodLink RX7 58 yJ7_fill_d0a16 ∈ tblG := tg 963 (by decide +kernel) (by decide +kernel)
theorem gS_X7_58 : GoodIn tblG (va_wsS RX7 58 yJ7_fill_d0a16 (wsG yJ7_fill_d0a16 cJ7_fill_d0a16 5 none)) := tgS ml_X7_58 st_J7_fill_d0a16 ini_J7 gW_J7_fill_d0a16
theorem ml_X7_64 : Cond.methodLink RX7 64 yJ7_fill_53178 ∈ tblG := tg 964 (by decide +kernel) (by decide +kernel)
theorem st_J7_fill_53178 : Cond.static yJ7_fill_53178 ∈ tblG := tg 965 (by decide +kernel) (by decide +kernel)
theorem cd_J7_fill_53178 : Cond.code yJ7_fill_53178 cJ7_fill_53178 4 none ∈ tblG := tg 966 (by decide +kernel) (by decide +kernel)
theorem gW_J7_fill_53178 : GoodIn tblG (wsG yJ7_fill_53178 cJ7_fill_53178 4 none) := tgi cd_J7_fill_53178
theorem gS_X7_64 : GoodIn tblG (va_wsS RX7 64 yJ7_fill_53178 (wsG yJ7_fill_53178 cJ7_fill_53178 4 none)) := tgS ml_X7_64 st_J7_fill_53178 ini_J7 gW_J7_fill_53178
theorem hs_J7_fill_53178 : yJ7_fill_53178.cls ≠ "java/lang/invoke/MethodHandle" ∧ yJ7_fill_53178.cls ≠ "java/lang/invoke/VarHandle" ∧ (parseMethodDescriptor yJ7_fill_53178.desc).map (fun d => d.parameters.length) = some 2 := by decide +kernel
theorem fl_X7_67 : Cond.fieldLink RX7 67 "LateGlass$House" "start" "I" ∈ tblG := tg 162 (by decide +kernel) (by decide +kernel)
theorem fl_X7_42 : Cond.fieldLink RX7 42 "LateGlass$House" "sightings" "LLateGlass$Table;" ∈ tblG := tg 179 (by decide +kernel) (by decide +kernel)
theorem fl_X7_48 : Cond.fieldLink RX7 48 "LateGlass$Table" "rows" "I" ∈ tblG := tg 137 (by decide +kernel) (by decide +kernel)
theorem ml_X7_72 : Cond.methodLink RX7 72 yX6_get ∈ tblG := tg 968 (by decide +kernel) (by decide +kernel)
theorem gV_X7_72 : GoodIn tblG (wsV RX7 72 RX6 yX6_get (wsG yX6_get cX6_get 3 (some .int))) := tgV ml_X7_72 im_X6_get se_X6_get ini_X6 gW_X6_get
theorem ml_X7_76 : Cond.methodLink RX7 76 yX5_run ∈ tblG := tg 969 (by decide +kernel) (by decide +kernel)
theorem gV_X7_76 : GoodIn tblG (wsV RX7 76 RX5 yX5_run (wsG yX5_run cX5_run 9 none)) := tgV ml_X7_76 im_X5_run se_X5_run ini_X5 gW_X5_run
theorem ml_X7_86 : Cond.methodLink RX7 86 yX7_barPoints ∈ tblG := tg 974 (by decide +kernel) (by decide +kernel)
theorem im_X7_barPoints : Cond.instanceMethod yX7_barPoints ∈ tblG := tg 975 (by decide +kernel) (by decide +kernel)
theorem se_X7_barPoints : Cond.selects RX7 yX7_barPoints yX7_barPoints ∈ tblG := tg 976 (by decide +kernel) (by decide +kernel)
theorem cd_X7_barPoints : Cond.code yX7_barPoints cX7_barPoints 2 none ∈ tblG := tg 977 (by decide +kernel) (by decide +kernel)
theorem gW_X7_barPoints : GoodIn tblG (wsG yX7_barPoints cX7_barPoints 2 none) := tgi cd_X7_barPoints
theorem gV_X7_86 : GoodIn tblG (wsV RX7 86 RX7 yX7_barPoints (wsG yX7_barPoints cX7_barPoints 2 none)) := tgV ml_X7_86 im_X7_barPoints se_X7_barPoints ini_X7 gW_X7_barPoints
theorem hv_X7_barPoints : yX7_barPoints.cls = RX7 ∧ yX7_barPoints.cls ≠ "java/lang/invoke/MethodHandle" ∧ yX7_barPoints.cls ≠ "java/lang/invoke/VarHandle" ∧ (parseMethodDescriptor yX7_barPoints.desc).map (fun d => d.parameters.length) = some 0 := by decide +kernel
theorem ml_X7_82 : Cond.methodLink RX7 82 yX7_addPoints ∈ tblG := tg 970 (by decide +kernel) (by decide +kernel)
theorem im_X7_addPoints : Cond.instanceMethod yX7_addPoints ∈ tblG := tg 972 (by decide +kernel) (by decide +kernel)
theorem se_X7_addPoints : Cond.selects RX7 yX7_addPoints yX7_addPoints ∈ tblG := tg 20 (by decide +kernel) (by decide +kernel)
theorem cd_X7_addPoints : Cond.code yX7_addPoints cX7_addPoints 3 none ∈ tblG := tg 973 (by decide +kernel) (by decide +kernel)
theorem gW_X7_addPoints : GoodIn tblG (wsG yX7_addPoints cX7_addPoints 3 none) := tgi cd_X7_addPoints
theorem gV_X7_82 : GoodIn tblG (wsV RX7 82 RX7 yX7_addPoints (wsG yX7_addPoints cX7_addPoints 3 none)) := tgV ml_X7_82 im_X7_addPoints se_X7_addPoints ini_X7 gW_X7_addPoints
theorem hv_X7_addPoints : yX7_addPoints.cls = RX7 ∧ yX7_addPoints.cls ≠ "java/lang/invoke/MethodHandle" ∧ yX7_addPoints.cls ≠ "java/lang/invoke/VarHandle" ∧ (parseMethodDescriptor yX7_addPoints.desc).map (fun d => d.parameters.length) = some 1 := by decide +kernel
theorem kl_X7_70 : Cond.constantLong RX7 70 (-1) ∈ tblG := tg 967 (by decide +kernel) (by decide +kernel)
