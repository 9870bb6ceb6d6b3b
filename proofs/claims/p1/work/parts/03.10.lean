set_option maxHeartbeats 4000000 in
set_option maxRecDepth 100000 in
theorem kX11_where (l : Launch) (G : g5_G) (a0 a1 a2 a3 a4 a5 a6 a7 a8 a9 a10 a11 a12 a13 a14 a15 a16 a17 a18 a19 a20 : Nat) (sz : Nat) (n0 : Int32) (n1 : Int32) : Met l yX11_where (wsG yX11_where cX11_where 3 (some .int)) ({ frames := 1, cells := 0, slots := 0, locals := 22 }) (va_Pc [.ref a0, .int n0, .int n1] (g5_P G [(a0, .inr (11, [.ref a1, .ref a2, .ref a3, .ref a4, .ref a5, .ref a6, .ref a7, .ref a8, .ref a9, .ref a10, .int 0, .int 0, .int (-1), .ref a11, .int 0, .ref a12, .int 0])), (a1, .inr (1, [.long 0, .int 1000, .int (-1), .int (-1), .int 0, .ref a13, .ref a14, .ref a15, .ref a16, .ref a17, .ref a18, .long 0, .ref a19])), (a15, .inr (6, [.int 5, .int 24, .ref a20, .int 0]))] sz)) (va_Qi (fun (r : Int32) (u : va_W) => ((n0.toInt < 0) ∧ (r = (-1)) ∧ (u = [])) ∨ ((n0.toInt ≥ 0) ∧ (n0.toInt ≥ 0) ∧ (r = (-1)) ∧ (u = []))) (g5_B G (va_A [(a0, .inr (11, [.ref a1, .ref a2, .ref a3, .ref a4, .ref a5, .ref a6, .ref a7, .ref a8, .ref a9, .ref a10, .int 0, .int 0, .int (-1), .ref a11, .int 0, .ref a12, .int 0])), (a1, .inr (1, [.long 0, .int 1000, .int (-1), .int (-1), .int 0, .ref a13, .ref a14, .ref a15, .ref a16, .ref a17, .ref a18, .long 0, .ref a19])), (a15, .inr (6, [.int 5, .int 24, .ref a20, .int 0]))] sz)) (va_A [(a0, .inr (11, [.ref a1, .ref a2, .ref a3, .ref a4, .ref a5, .ref a6, .ref a7, .ref a8, .ref a9, .ref a10, .int 0, .int 0, .int (-1), .ref a11, .int 0, .ref a12, .int 0])), (a1, .inr (1, [.long 0, .int 1000, .int (-1), .int (-1), .int 0, .ref a13, .ref a14, .ref a15, .ref a16, .ref a17, .ref a18, .long 0, .ref a19])), (a15, .inr (6, [.int 5, .int 24, .ref a20, .int 0]))] sz)) 0 0 (va_A [(a0, .inr (11, [.ref a1, .ref a2, .ref a3, .ref a4, .ref a5, .ref a6, .ref a7, .ref a8, .ref a9, .ref a10, .int 0, .int 0, .int (-1), .ref a11, .int 0, .ref a12, .int 0])), (a1, .inr (1, [.long 0, .int 1000, .int (-1), .int (-1), .int 0, .ref a13, .ref a14, .ref a15, .ref a16, .ref a17, .ref a18, .long 0, .ref a19])), (a15, .inr (6, [.int 5, .int 24, .ref a20, .int 0]))] sz) := by
  refine Met.ofW (cc := cX11_where) (maxL := 3) (ret := (some .int)) (by decide) rfl ?_
  intro p e s m args below meth c s₁ B hml hv
  obtain ⟨rfl, hsz, hP, hK, hD0, hN, hT⟩ := hv
  have hx := B.exec
  have hb := B.bytes
  have hr := B.returns
  have hts : ∀ w ∈ tblG, w.before _ s = true := fun w h => atoms_spec (ws := (wsG yX11_where cX11_where 3 (some .int))) B.pre w (List.mem_cons_of_mem _ h)
  have hown : s.vm.findClass RX11 = some m.cls := findClass_of_methodNamed B.named
  have hlocks := B.notSynchronized
  subst hsz
  have hD := hD0.self (sz := s.heap.size)
  generalize hAe : va_A [(a0, .inr (11, [.ref a1, .ref a2, .ref a3, .ref a4, .ref a5, .ref a6, .ref a7, .ref a8, .ref a9, .ref a10, .int 0, .int 0, .int (-1), .ref a11, .int 0, .ref a12, .int 0])), (a1, .inr (1, [.long 0, .int 1000, .int (-1), .int (-1), .int 0, .ref a13, .ref a14, .ref a15, .ref a16, .ref a17, .ref a18, .long 0, .ref a19])), (a15, .inr (6, [.int 5, .int 24, .ref a20, .int 0]))] s.heap.size = A at hD hT ⊢
  have hA : ∀ q : Nat, s.heap.size ≤ q → A q := fun q h => by rw [← hAe]; exact Or.inr h
  have hS : va_S A s.heap s.heap [] := va_S.rf
  have hP : va_P G.1 vwCl [(a0, .inr (11, [.ref a1, .ref a2, .ref a3, .ref a4, .ref a5, .ref a6, .ref a7, .ref a8, .ref a9, .ref a10, .int 0, .int 0, .int (-1), .ref a11, .int 0, .ref a12, .int 0])), (a1, .inr (1, [.long 0, .int 1000, .int (-1), .int (-1), .int 0, .ref a13, .ref a14, .ref a15, .ref a16, .ref a17, .ref a18, .long 0, .ref a19])), (a15, .inr (6, [.int 5, .int 24, .ref a20, .int 0]))] s.heap := hP
  have hl := lv_entry ([.ref a0, .int n0, .int n1]) (n := 3) (Nat.le_of_ble_eq_true rfl)
  rw [lg_entry_eq]
  generalize (lg_sl ([.ref a0, .int n0, .int n1]) ++ List.replicate (3 - (lg_sl ([.ref a0, .int n0, .int n1])).length) Slot.unset).toArray = ls at hl ⊢
  have hl : lv_has ls 3 [(0, .ref a0), (1, .int n0), (2, .int n1)] := hl
  refine lv_aload_n hx hb dX11_where_0 rfl (lv_at hl 0 rfl) ?_
  refine va_get (D := G.1) (ci := 11) (v := .ref a1) (C := RX11) (T := TX11) (N := 17) hx hb hts inG_X11 hown hK hP 0 rfl rfl 0 (by decide) (hts _ fl_X11_12) (fun _ h9 => h9) rfl dX11_where_1 ?_
  refine va_get (D := G.1) (ci := 1) (v := .ref a15) (C := RX1) (T := TX1) (N := 13) hx hb hts inG_X1 hown hK hP 1 rfl rfl 7 (by decide) (hts _ fl_X11_167) (fun _ h9 => h9) rfl dX11_where_4 ?_
  refine lv_iload_n hx hb dX11_where_7 rfl (lv_at hl 1 rfl) ?_
  refine lv_iload_n hx hb dX11_where_8 rfl (lv_at hl 2 rfl) ?_
  have hPc := hP.sub (ws' := [(a15, .inr (6, [.int 5, .int 24, .ref a20, .int 0]))]) [2] rfl
  have hDc := hD.sub (ws' := [(a15, .inr (6, [.int 5, .int 24, .ref a20, .int 0]))]) [2] (by decide) rfl
  have hFc := va_free (wc := [(a15, .inr (6, [.int 5, .int 24, .ref a20, .int 0]))]) hD hS hA [2] rfl
  refine va_calli (va_runV (As := [.int n0, .int n1]) (rest := []) ⟨hx, hb, hml, hown, hts⟩ (kX6_get_2 l G a15 a20 s.heap.size n0 n1) (cwV 2 hts gV_X11_163 rfl rfl rfl hv_X6_get ⟨Nat.le_of_ble_eq_true rfl, Nat.le_of_ble_eq_true rfl⟩) (g5_preV hPc hK hDc hN hT hS hFc (ci := 6) (q0 := 0) rfl rfl) rfl rfl hl.1 rfl (lv_room (Nat.le_of_ble_eq_true rfl)) dX11_where_9 ⟨Nat.le_of_ble_eq_true rfl, Nat.le_of_ble_eq_true rfl⟩) hS (fun q _ h => hFc q h) hFc (fun r u t H1 locs ht hvm hw hB hz1 hk1 hS => ?_)
  obtain ⟨hP1, hD1⟩ := hB
  rw [ht] at hP1
  rcases hw with ⟨i_1, rfl, rfl⟩ | ⟨i_2, i_3, rfl, rfl⟩
  ·
    obtain ⟨hP, hD⟩ := va_join (wr := [(a0, .inr (11, [.ref a1, .ref a2, .ref a3, .ref a4, .ref a5, .ref a6, .ref a7, .ref a8, .ref a9, .ref a10, .int 0, .int 0, .int (-1), .ref a11, .int 0, .ref a12, .int 0])), (a1, .inr (1, [.long 0, .int 1000, .int (-1), .int (-1), .int 0, .ref a13, .ref a14, .ref a15, .ref a16, .ref a17, .ref a18, .long 0, .ref a19]))]) (w1 := [(a15, .inr (6, [.int 5, .int 24, .ref a20, .int 0]))]) hP hD [2] [0, 1] rfl rfl (by decide) (by decide) hk1 hFc hP1 hD1
    generalize H1 = H at hP hS ⊢
    have hP : va_P G.1 vwCl [(a0, .inr (11, [.ref a1, .ref a2, .ref a3, .ref a4, .ref a5, .ref a6, .ref a7, .ref a8, .ref a9, .ref a10, .int 0, .int 0, .int (-1), .ref a11, .int 0, .ref a12, .int 0])), (a1, .inr (1, [.long 0, .int 1000, .int (-1), .int (-1), .int 0, .ref a13, .ref a14, .ref a15, .ref a16, .ref a17, .ref a18, .long 0, .ref a19])), (a15, .inr (6, [.int 5, .int 24, .ref a20, .int 0]))] H := hP
    have hD : va_D A [(a0, .inr (11, [.ref a1, .ref a2, .ref a3, .ref a4, .ref a5, .ref a6, .ref a7, .ref a8, .ref a9, .ref a10, .int 0, .int 0, .int (-1), .ref a11, .int 0, .ref a12, .int 0])), (a1, .inr (1, [.long 0, .int 1000, .int (-1), .int (-1), .int 0, .ref a13, .ref a14, .ref a15, .ref a16, .ref a17, .ref a18, .long 0, .ref a19])), (a15, .inr (6, [.int 5, .int 24, .ref a20, .int 0]))] := hD
    have hP := hP.sub (ws' := []) [] rfl
    have hD := hD.sub (ws' := []) [] (by decide) rfl
    exact W.iret (v := (-1)) hx hb hr (fun t ht hW => ⟨⟨(-1), [], rfl, Or.inl (⟨i_1, rfl, rfl⟩), by rw [ht]; exact hP, hD⟩, hS.F ht⟩) hS.2.2 dX11_where_12
  ·
    obtain ⟨hP, hD⟩ := va_join (wr := [(a0, .inr (11, [.ref a1, .ref a2, .ref a3, .ref a4, .ref a5, .ref a6, .ref a7, .ref a8, .ref a9, .ref a10, .int 0, .int 0, .int (-1), .ref a11, .int 0, .ref a12, .int 0])), (a1, .inr (1, [.long 0, .int 1000, .int (-1), .int (-1), .int 0, .ref a13, .ref a14, .ref a15, .ref a16, .ref a17, .ref a18, .long 0, .ref a19]))]) (w1 := [(a15, .inr (6, [.int 5, .int 24, .ref a20, .int 0]))]) hP hD [2] [0, 1] rfl rfl (by decide) (by decide) hk1 hFc hP1 hD1
    generalize H1 = H at hP hS ⊢
    have hP : va_P G.1 vwCl [(a0, .inr (11, [.ref a1, .ref a2, .ref a3, .ref a4, .ref a5, .ref a6, .ref a7, .ref a8, .ref a9, .ref a10, .int 0, .int 0, .int (-1), .ref a11, .int 0, .ref a12, .int 0])), (a1, .inr (1, [.long 0, .int 1000, .int (-1), .int (-1), .int 0, .ref a13, .ref a14, .ref a15, .ref a16, .ref a17, .ref a18, .long 0, .ref a19])), (a15, .inr (6, [.int 5, .int 24, .ref a20, .int 0]))] H := hP
    have hD : va_D A [(a0, .inr (11, [.ref a1, .ref a2, .ref a3, .ref a4, .ref a5, .ref a6, .ref a7, .ref a8, .ref a9, .ref a10, .int 0, .int 0, .int (-1), .ref a11, .int 0, .ref a12, .int 0])), (a1, .inr (1, [.long 0, .int 1000, .int (-1), .int (-1), .int 0, .ref a13, .ref a14, .ref a15, .ref a16, .ref a17, .ref a18, .long 0, .ref a19])), (a15, .inr (6, [.int 5, .int 24, .ref a20, .int 0]))] := hD
    have hP := hP.sub (ws' := []) [] rfl
    have hD := hD.sub (ws' := []) [] (by decide) rfl
    exact W.iret (v := (-1)) hx hb hr (fun t ht hW => ⟨⟨(-1), [], rfl, Or.inr (⟨i_2, i_3, rfl, rfl⟩), by rw [ht]; exact hP, hD⟩, hS.F ht⟩) hS.2.2 dX11_where_12
theorem fl_X11_182 : Cond.fieldLink RX11 182 "LateGlass$House" "least" "I" ∈ tblG := tg 159 (by decide +kernel) (by decide +kernel)
set_option maxHeartbeats 4000000 in
set_option maxRecDepth 100000 in
theorem kX11_done_3 (l : Launch) (G : g5_G) (a0 a1 a2 a3 a4 a5 a6 a7 a8 a9 a10 a11 a12 : Nat) (sz : Nat) : Met l yX11_done (wsG yX11_done cX11_done 2 (some .int)) ({ frames := 0, cells := 0, slots := 0, locals := 0 }) (va_Pc [.ref a0, .int 1000] (g5_P G [(a0, .inr (11, [.ref a1, .ref a2, .ref a3, .ref a4, .ref a5, .ref a6, .ref a7, .ref a8, .ref a9, .ref a10, .int 0, .int 0, .int (-1), .ref a11, .int 0, .ref a12, .int 0]))] sz)) (va_Qi (fun (r : Int32) (u : va_W) => ((r = 1000) ∧ (u = [(a0, .inr (11, [.ref a1, .ref a2, .ref a3, .ref a4, .ref a5, .ref a6, .ref a7, .ref a8, .ref a9, .ref a10, .int 0, .int 0, .int (-1), .ref a11, .int 0, .ref a12, .int 0]))]))) (g5_B G (va_A [(a0, .inr (11, [.ref a1, .ref a2, .ref a3, .ref a4, .ref a5, .ref a6, .ref a7, .ref a8, .ref a9, .ref a10, .int 0, .int 0, .int (-1), .ref a11, .int 0, .ref a12, .int 0]))] sz)) (va_A [(a0, .inr (11, [.ref a1, .ref a2, .ref a3, .ref a4, .ref a5, .ref a6, .ref a7, .ref a8, .ref a9, .ref a10, .int 0, .int 0, .int (-1), .ref a11, .int 0, .ref a12, .int 0]))] sz)) 0 0 (va_A [(a0, .inr (11, [.ref a1, .ref a2, .ref a3, .ref a4, .ref a5, .ref a6, .ref a7, .ref a8, .ref a9, .ref a10, .int 0, .int 0, .int (-1), .ref a11, .int 0, .ref a12, .int 0]))] sz) := by
  refine Met.ofW (cc := cX11_done) (maxL := 2) (ret := (some .int)) (by decide) rfl ?_
  intro p e s m args below meth c s₁ B hml hv
  obtain ⟨rfl, hsz, hP, hK, hD0, hN, hT⟩ := hv
  have hx := B.exec
  have hb := B.bytes
  have hr := B.returns
  have hts : ∀ w ∈ tblG, w.before _ s = true := fun w h => atoms_spec (ws := (wsG yX11_done cX11_done 2 (some .int))) B.pre w (List.mem_cons_of_mem _ h)
  have hown : s.vm.findClass RX11 = some m.cls := findClass_of_methodNamed B.named
  have hlocks := B.notSynchronized
  subst hsz
  have hD := hD0.self (sz := s.heap.size)
  generalize hAe : va_A [(a0, .inr (11, [.ref a1, .ref a2, .ref a3, .ref a4, .ref a5, .ref a6, .ref a7, .ref a8, .ref a9, .ref a10, .int 0, .int 0, .int (-1), .ref a11, .int 0, .ref a12, .int 0]))] s.heap.size = A at hD hT ⊢
  have hA : ∀ q : Nat, s.heap.size ≤ q → A q := fun q h => by rw [← hAe]; exact Or.inr h
  have hS : va_S A s.heap s.heap [] := va_S.rf
  have hP : va_P G.1 vwCl [(a0, .inr (11, [.ref a1, .ref a2, .ref a3, .ref a4, .ref a5, .ref a6, .ref a7, .ref a8, .ref a9, .ref a10, .int 0, .int 0, .int (-1), .ref a11, .int 0, .ref a12, .int 0]))] s.heap := hP
  have hl := lv_entry ([.ref a0, .int 1000]) (n := 2) (Nat.le_of_ble_eq_true rfl)
  rw [lg_entry_eq]
  generalize (lg_sl ([.ref a0, .int 1000]) ++ List.replicate (2 - (lg_sl ([.ref a0, .int 1000])).length) Slot.unset).toArray = ls at hl ⊢
  have hl : lv_has ls 2 [(0, .ref a0), (1, .int 1000)] := hl
  refine lv_aload_n hx hb dX11_done_0 rfl (lv_at hl 0 rfl) ?_
  refine lv_iconst (v := 0) hx hb dX11_done_1 (by decide) ?_
  refine va_put (D := G.1) (ci := 11) (v := .int 0) (ty := .int) (C := RX11) (T := TX11) (N := 17) hx hb hts inG_X11 tyX11 tyX11_ok nmX11 hown hK hP hD hS 0 rfl rfl 16 (by decide) (hts _ fl_X11_94) (fun _ h9 => h9) rfl (by decide +kernel) rfl rfl (Nat.le_of_ble_eq_true rfl) dX11_done_2 (fun H locs hP hD hS => ?_)
  have hP : va_P G.1 vwCl [(a0, .inr (11, [.ref a1, .ref a2, .ref a3, .ref a4, .ref a5, .ref a6, .ref a7, .ref a8, .ref a9, .ref a10, .int 0, .int 0, .int (-1), .ref a11, .int 0, .ref a12, .int 0]))] H := hP
  have hD : va_D A [(a0, .inr (11, [.ref a1, .ref a2, .ref a3, .ref a4, .ref a5, .ref a6, .ref a7, .ref a8, .ref a9, .ref a10, .int 0, .int 0, .int (-1), .ref a11, .int 0, .ref a12, .int 0]))] := hD
  refine lv_iload_n hx hb dX11_done_5 rfl (lv_at hl 1 rfl) ?_
  exact W.iret (v := 1000) hx hb hr (fun t ht hW => ⟨⟨1000, [(a0, .inr (11, [.ref a1, .ref a2, .ref a3, .ref a4, .ref a5, .ref a6, .ref a7, .ref a8, .ref a9, .ref a10, .int 0, .int 0, .int (-1), .ref a11, .int 0, .ref a12, .int 0]))], rfl, ⟨rfl, rfl⟩, by rw [ht]; exact hP, hD⟩, hS.F ht⟩) hS.2.2 dX11_done_6
theorem dX11_least_0 : decode cX11_least 0 = .ok (.iload_n 1, 1) := by decide +kernel
theorem dX11_least_1 : decode cX11_least 1 = .ok (.ifCond .lt 9, 3) := by decide +kernel
theorem dX11_least_4 : decode cX11_least 4 = .ok (.iload_n 1, 1) := by decide +kernel
theorem dX11_least_5 : decode cX11_least 5 = .ok (.ldc 181, 2) := by decide +kernel
theorem dX11_least_7 : decode cX11_least 7 = .ok (.if_icmp .le 9, 3) := by decide +kernel
theorem dX11_least_10 : decode cX11_least 10 = .ok (.aload_n 0, 1) := by decide +kernel
theorem dX11_least_11 : decode cX11_least 11 = .ok (.iconst (-1), 1) := by decide +kernel
theorem dX11_least_12 : decode cX11_least 12 = .ok (.invokevirtual 104, 3) := by decide +kernel
theorem dX11_least_15 : decode cX11_least 15 = .ok (.ireturn, 1) := by decide +kernel
theorem dX11_least_16 : decode cX11_least 16 = .ok (.aload_n 0, 1) := by decide +kernel
theorem dX11_least_17 : decode cX11_least 17 = .ok (.getfield 12, 3) := by decide +kernel
theorem dX11_least_20 : decode cX11_least 20 = .ok (.getfield 182, 3) := by decide +kernel
theorem dX11_least_23 : decode cX11_least 23 = .ok (.istore_n 2, 1) := by decide +kernel
theorem dX11_least_24 : decode cX11_least 24 = .ok (.aload_n 0, 1) := by decide +kernel
theorem dX11_least_25 : decode cX11_least 25 = .ok (.getfield 12, 3) := by decide +kernel
theorem dX11_least_28 : decode cX11_least 28 = .ok (.iload_n 1, 1) := by decide +kernel
theorem dX11_least_29 : decode cX11_least 29 = .ok (.putfield 182, 3) := by decide +kernel
theorem dX11_least_32 : decode cX11_least 32 = .ok (.aload_n 0, 1) := by decide +kernel
theorem dX11_least_33 : decode cX11_least 33 = .ok (.iload_n 2, 1) := by decide +kernel
theorem dX11_least_34 : decode cX11_least 34 = .ok (.invokevirtual 121, 3) := by decide +kernel
theorem dX11_least_37 : decode cX11_least 37 = .ok (.ireturn, 1) := by decide +kernel
set_option maxHeartbeats 4000000 in
set_option maxRecDepth 100000 in
theorem kX11_least (l : Launch) (G : g5_G) (a0 a1 a2 a3 a4 a5 a6 a7 a8 a9 a10 a11 a12 a13 a14 a15 a16 a17 a18 a19 : Nat) (sz : Nat) (n0 : Int32) : Met l yX11_least (wsG yX11_least cX11_least 3 (some .int)) ({ frames := 1, cells := 0, slots := 0, locals := 22 }) (va_Pc [.ref a0, .int n0] (g5_P G [(a0, .inr (11, [.ref a1, .ref a2, .ref a3, .ref a4, .ref a5, .ref a6, .ref a7, .ref a8, .ref a9, .ref a10, .int 0, .int 0, .int (-1), .ref a11, .int 0, .ref a12, .int 0])), (a12, .inl (G.2 0, 5, .inl (fun _ => 0))), (a1, .inr (1, [.long 0, .int 1000, .int (-1), .int (-1), .int 0, .ref a13, .ref a14, .ref a15, .ref a16, .ref a17, .ref a18, .long 0, .ref a19]))] sz)) (va_Qi (fun (r : Int32) (u : va_W) => ((n0.toInt < 0) ∧ (r = (-1)) ∧ (u = [])) ∨ ((n0.toInt ≥ 0) ∧ (n0.toInt ≤ 1000000) ∧ (r = 1000) ∧ (u = [])) ∨ ((n0.toInt ≥ 0) ∧ (n0.toInt > 1000000) ∧ (r = (-1)) ∧ (u = []))) (g5_B G (va_A [(a0, .inr (11, [.ref a1, .ref a2, .ref a3, .ref a4, .ref a5, .ref a6, .ref a7, .ref a8, .ref a9, .ref a10, .int 0, .int 0, .int (-1), .ref a11, .int 0, .ref a12, .int 0])), (a12, .inl (G.2 0, 5, .inl (fun _ => 0))), (a1, .inr (1, [.long 0, .int 1000, .int (-1), .int (-1), .int 0, .ref a13, .ref a14, .ref a15, .ref a16, .ref a17, .ref a18, .long 0, .ref a19]))] sz)) (va_A [(a0, .inr (11, [.ref a1, .ref a2, .ref a3, .ref a4, .ref a5, .ref a6, .ref a7, .ref a8, .ref a9, .ref a10, .int 0, .int 0, .int (-1), .ref a11, .int 0, .ref a12, .int 0])), (a12, .inl (G.2 0, 5, .inl (fun _ => 0))), (a1, .inr (1, [.long 0, .int 1000, .int (-1), .int (-1), .int 0, .ref a13, .ref a14, .ref a15, .ref a16, .ref a17, .ref a18, .long 0, .ref a19]))] sz)) 0 0 (va_A [(a0, .inr (11, [.ref a1, .ref a2, .ref a3, .ref a4, .ref a5, .ref a6, .ref a7, .ref a8, .ref a9, .ref a10, .int 0, .int 0, .int (-1), .ref a11, .int 0, .ref a12, .int 0])), (a12, .inl (G.2 0, 5, .inl (fun _ => 0))), (a1, .inr (1, [.long 0, .int 1000, .int (-1), .int (-1), .int 0, .ref a13, .ref a14, .ref a15, .ref a16, .ref a17, .ref a18, .long 0, .ref a19]))] sz) := by
  refine Met.ofW (cc := cX11_least) (maxL := 3) (ret := (some .int)) (by decide) rfl ?_
  intro p e s m args below meth c s₁ B hml hv
  obtain ⟨rfl, hsz, hP, hK, hD0, hN, hT⟩ := hv
  have hx := B.exec
  have hb := B.bytes
  have hr := B.returns
  have hts : ∀ w ∈ tblG, w.before _ s = true := fun w h => atoms_spec (ws := (wsG yX11_least cX11_least 3 (some .int))) B.pre w (List.mem_cons_of_mem _ h)
  have hown : s.vm.findClass RX11 = some m.cls := findClass_of_methodNamed B.named
  have hlocks := B.notSynchronized
  subst hsz
  have hD := hD0.self (sz := s.heap.size)
  generalize hAe : va_A [(a0, .inr (11, [.ref a1, .ref a2, .ref a3, .ref a4, .ref a5, .ref a6, .ref a7, .ref a8, .ref a9, .ref a10, .int 0, .int 0, .int (-1), .ref a11, .int 0, .ref a12, .int 0])), (a12, .inl (G.2 0, 5, .inl (fun _ => 0))), (a1, .inr (1, [.long 0, .int 1000, .int (-1), .int (-1), .int 0, .ref a13, .ref a14, .ref a15, .ref a16, .ref a17, .ref a18, .long 0, .ref a19]))] s.heap.size = A at hD hT ⊢
  have hA : ∀ q : Nat, s.heap.size ≤ q → A q := fun q h => by rw [← hAe]; exact Or.inr h
  have hS : va_S A s.heap s.heap [] := va_S.rf
  have hP : va_P G.1 vwCl [(a0, .inr (11, [.ref a1, .ref a2, .ref a3, .ref a4, .ref a5, .ref a6, .ref a7, .ref a8, .ref a9, .ref a10, .int 0, .int 0, .int (-1), .ref a11, .int 0, .ref a12, .int 0])), (a12, .inl (G.2 0, 5, .inl (fun _ => 0))), (a1, .inr (1, [.long 0, .int 1000, .int (-1), .int (-1), .int 0, .ref a13, .ref a14, .ref a15, .ref a16, .ref a17, .ref a18, .long 0, .ref a19]))] s.heap := hP
  have hl := lv_entry ([.ref a0, .int n0]) (n := 3) (Nat.le_of_ble_eq_true rfl)
  rw [lg_entry_eq]
  generalize (lg_sl ([.ref a0, .int n0]) ++ List.replicate (3 - (lg_sl ([.ref a0, .int n0])).length) Slot.unset).toArray = ls at hl ⊢
  have hl : lv_has ls 3 [(0, .ref a0), (1, .int n0)] := hl
  refine lv_iload_n hx hb dX11_least_0 rfl (lv_at hl 1 rfl) ?_
  refine lv_if_lt (tgt := 10) hx hb dX11_least_1 (by decide) (fun c_1 => ?_) (fun c_1 => ?_)
  ·
    have i_1 : n0.toInt < 0 := by have z := g5_lt (a := n0.toInt) (b := 0) (by rfl) (by decide) c_1; omega
    refine lv_aload_n hx hb dX11_least_10 rfl (lv_at hl 0 rfl) ?_
    refine lv_iconst (v := (-1)) hx hb dX11_least_11 (by decide) ?_
    have hPc := hP.sub (ws' := [(a0, .inr (11, [.ref a1, .ref a2, .ref a3, .ref a4, .ref a5, .ref a6, .ref a7, .ref a8, .ref a9, .ref a10, .int 0, .int 0, .int (-1), .ref a11, .int 0, .ref a12, .int 0])), (a12, .inl (G.2 0, 5, .inl (fun _ => 0)))]) [0, 1] rfl
    have hDc := hD.sub (ws' := [(a0, .inr (11, [.ref a1, .ref a2, .ref a3, .ref a4, .ref a5, .ref a6, .ref a7, .ref a8, .ref a9, .ref a10, .int 0, .int 0, .int (-1), .ref a11, .int 0, .ref a12, .int 0])), (a12, .inl (G.2 0, 5, .inl (fun _ => 0)))]) [0, 1] (by decide) rfl
    have hFc := va_free (wc := [(a0, .inr (11, [.ref a1, .ref a2, .ref a3, .ref a4, .ref a5, .ref a6, .ref a7, .ref a8, .ref a9, .ref a10, .int 0, .int 0, .int (-1), .ref a11, .int 0, .ref a12, .int 0])), (a12, .inl (G.2 0, 5, .inl (fun _ => 0)))]) hD hS hA [0, 1] rfl
    refine va_calli (va_runV (As := [.int (-1)]) (rest := []) ⟨hx, hb, hml, hown, hts⟩ (kX11_refuse l G a0 a1 a2 a3 a4 a5 a6 a7 a8 a9 a10 a11 a12 s.heap.size) (cwV 1 hts gV_X11_104 rfl rfl rfl hv_X11_refuse ⟨Nat.le_of_ble_eq_true rfl, Nat.le_of_ble_eq_true rfl⟩) (g5_preV hPc hK hDc hN hT hS hFc (ci := 11) (q0 := 0) rfl rfl) rfl rfl hl.1 rfl (lv_room (Nat.le_of_ble_eq_true rfl)) dX11_least_12 ⟨Nat.le_of_ble_eq_true rfl, Nat.le_of_ble_eq_true rfl⟩) hS (fun q _ h => hFc q h) hFc (fun r u t H1 locs ht hvm hw hB hz1 hk1 hS => ?_)
    obtain ⟨hP1, hD1⟩ := hB
    rw [ht] at hP1
    obtain ⟨rfl, rfl⟩ := hw
    obtain ⟨hP, hD⟩ := va_join (wr := [(a1, .inr (1, [.long 0, .int 1000, .int (-1), .int (-1), .int 0, .ref a13, .ref a14, .ref a15, .ref a16, .ref a17, .ref a18, .long 0, .ref a19]))]) (w1 := [(a0, .inr (11, [.ref a1, .ref a2, .ref a3, .ref a4, .ref a5, .ref a6, .ref a7, .ref a8, .ref a9, .ref a10, .int 0, .int 0, .int (-1), .ref a11, .int 0, .ref a12, .int (-1)])), (a12, .inl (G.2 0, 5, .inl (upd (fun _ => 0) 0 1)))]) hP hD [0, 1] [2] rfl rfl (by decide) (by decide) hk1 hFc hP1 hD1
    generalize H1 = H at hP hS ⊢
    have hP : va_P G.1 vwCl [(a1, .inr (1, [.long 0, .int 1000, .int (-1), .int (-1), .int 0, .ref a13, .ref a14, .ref a15, .ref a16, .ref a17, .ref a18, .long 0, .ref a19])), (a0, .inr (11, [.ref a1, .ref a2, .ref a3, .ref a4, .ref a5, .ref a6, .ref a7, .ref a8, .ref a9, .ref a10, .int 0, .int 0, .int (-1), .ref a11, .int 0, .ref a12, .int (-1)])), (a12, .inl (G.2 0, 5, .inl (upd (fun _ => 0) 0 1)))] H := hP
    have hD : va_D A [(a1, .inr (1, [.long 0, .int 1000, .int (-1), .int (-1), .int 0, .ref a13, .ref a14, .ref a15, .ref a16, .ref a17, .ref a18, .long 0, .ref a19])), (a0, .inr (11, [.ref a1, .ref a2, .ref a3, .ref a4, .ref a5, .ref a6, .ref a7, .ref a8, .ref a9, .ref a10, .int 0, .int 0, .int (-1), .ref a11, .int 0, .ref a12, .int (-1)])), (a12, .inl (G.2 0, 5, .inl (upd (fun _ => 0) 0 1)))] := hD
    have hP := hP.sub (ws' := []) [] rfl
    have hD := hD.sub (ws' := []) [] (by decide) rfl
    exact W.iret (v := (-1)) hx hb hr (fun t ht hW => ⟨⟨(-1), [], rfl, Or.inl (⟨i_1, rfl, rfl⟩), by rw [ht]; exact hP, hD⟩, hS.F ht⟩) hS.2.2 dX11_least_15
  ·
    have i_1 : n0.toInt ≥ 0 := by have z := g5_ltN (a := n0.toInt) (b := 0) (by rfl) (by decide) c_1; omega
    refine lv_iload_n hx hb dX11_least_4 rfl (lv_at hl 1 rfl) ?_
    refine lv_ldc (v := 1000000) hx hb hown (hts _ ki_X11_181) dX11_least_5 ?_
    refine lv_icmp_le (tgt := 16) hx hb dX11_least_7 (by decide) (fun c_2 => ?_) (fun c_2 => ?_)
    ·
      have i_2 : n0.toInt ≤ 1000000 := by have z := g5_le (a := n0.toInt) (b := 1000000) (by rfl) (by decide) c_2; omega
      refine lv_aload_n hx hb dX11_least_16 rfl (lv_at hl 0 rfl) ?_
      refine va_get (D := G.1) (ci := 11) (v := .ref a1) (C := RX11) (T := TX11) (N := 17) hx hb hts inG_X11 hown hK hP 0 rfl rfl 0 (by decide) (hts _ fl_X11_12) (fun _ h9 => h9) rfl dX11_least_17 ?_
      refine va_get (D := G.1) (ci := 1) (v := .int 1000) (C := RX1) (T := TX1) (N := 13) hx hb hts inG_X1 hown hK hP 2 rfl rfl 1 (by decide) (hts _ fl_X11_182) (fun _ h9 => h9) rfl dX11_least_20 ?_
      refine lv_istore_n (lv' := [(2, .int 1000), (0, .ref a0), (1, .int n0)]) hx hb dX11_least_23 rfl hl (by decide) rfl (fun ls hl => ?_)
      refine lv_aload_n hx hb dX11_least_24 rfl (lv_at hl 1 rfl) ?_
      refine va_get (D := G.1) (ci := 11) (v := .ref a1) (C := RX11) (T := TX11) (N := 17) hx hb hts inG_X11 hown hK hP 0 rfl rfl 0 (by decide) (hts _ fl_X11_12) (fun _ h9 => h9) rfl dX11_least_25 ?_
      refine lv_iload_n hx hb dX11_least_28 rfl (lv_at hl 2 rfl) ?_
      refine va_put (D := G.1) (ci := 1) (v := .int n0) (ty := .int) (C := RX1) (T := TX1) (N := 13) hx hb hts inG_X1 tyX1 tyX1_ok nmX1 hown hK hP hD hS 2 rfl rfl 1 (by decide) (hts _ fl_X11_182) (fun _ h9 => h9) rfl (by decide +kernel) rfl rfl (Nat.le_of_ble_eq_true rfl) dX11_least_29 (fun H locs hP hD hS => ?_)
      have hP : va_P G.1 vwCl [(a0, .inr (11, [.ref a1, .ref a2, .ref a3, .ref a4, .ref a5, .ref a6, .ref a7, .ref a8, .ref a9, .ref a10, .int 0, .int 0, .int (-1), .ref a11, .int 0, .ref a12, .int 0])), (a12, .inl (G.2 0, 5, .inl (fun _ => 0))), (a1, .inr (1, [.long 0, .int n0, .int (-1), .int (-1), .int 0, .ref a13, .ref a14, .ref a15, .ref a16, .ref a17, .ref a18, .long 0, .ref a19]))] H := hP
      have hD : va_D A [(a0, .inr (11, [.ref a1, .ref a2, .ref a3, .ref a4, .ref a5, .ref a6, .ref a7, .ref a8, .ref a9, .ref a10, .int 0, .int 0, .int (-1), .ref a11, .int 0, .ref a12, .int 0])), (a12, .inl (G.2 0, 5, .inl (fun _ => 0))), (a1, .inr (1, [.long 0, .int n0, .int (-1), .int (-1), .int 0, .ref a13, .ref a14, .ref a15, .ref a16, .ref a17, .ref a18, .long 0, .ref a19]))] := hD
      refine lv_aload_n hx hb dX11_least_32 rfl (lv_at hl 1 rfl) ?_
      refine lv_iload_n hx hb dX11_least_33 rfl (lv_at hl 0 rfl) ?_
      have hPc := hP.sub (ws' := [(a0, .inr (11, [.ref a1, .ref a2, .ref a3, .ref a4, .ref a5, .ref a6, .ref a7, .ref a8, .ref a9, .ref a10, .int 0, .int 0, .int (-1), .ref a11, .int 0, .ref a12, .int 0]))]) [0] rfl
      have hDc := hD.sub (ws' := [(a0, .inr (11, [.ref a1, .ref a2, .ref a3, .ref a4, .ref a5, .ref a6, .ref a7, .ref a8, .ref a9, .ref a10, .int 0, .int 0, .int (-1), .ref a11, .int 0, .ref a12, .int 0]))]) [0] (by decide) rfl
      have hFc := va_free (wc := [(a0, .inr (11, [.ref a1, .ref a2, .ref a3, .ref a4, .ref a5, .ref a6, .ref a7, .ref a8, .ref a9, .ref a10, .int 0, .int 0, .int (-1), .ref a11, .int 0, .ref a12, .int 0]))]) hD hS hA [0] rfl
      refine va_calli (va_runV (As := [.int 1000]) (rest := []) ⟨hx, hb, hml, hown, hts⟩ (kX11_done_3 l G a0 a1 a2 a3 a4 a5 a6 a7 a8 a9 a10 a11 a12 H.size) (cwV 1 hts gV_X11_121 rfl rfl rfl hv_X11_done ⟨Nat.le_of_ble_eq_true rfl, Nat.le_of_ble_eq_true rfl⟩) (g5_preV hPc hK hDc hN hT hS hFc (ci := 11) (q0 := 0) rfl rfl) rfl rfl hl.1 rfl (lv_room (Nat.le_of_ble_eq_true rfl)) dX11_least_34 ⟨Nat.le_of_ble_eq_true rfl, Nat.le_of_ble_eq_true rfl⟩) hS (fun q _ h => hFc q h) hFc (fun r u t H1 locs ht hvm hw hB hz1 hk1 hS => ?_)
      obtain ⟨hP1, hD1⟩ := hB
      rw [ht] at hP1
      obtain ⟨rfl, rfl⟩ := hw
      obtain ⟨hP, hD⟩ := va_join (wr := [(a12, .inl (G.2 0, 5, .inl (fun _ => 0))), (a1, .inr (1, [.long 0, .int n0, .int (-1), .int (-1), .int 0, .ref a13, .ref a14, .ref a15, .ref a16, .ref a17, .ref a18, .long 0, .ref a19]))]) (w1 := [(a0, .inr (11, [.ref a1, .ref a2, .ref a3, .ref a4, .ref a5, .ref a6, .ref a7, .ref a8, .ref a9, .ref a10, .int 0, .int 0, .int (-1), .ref a11, .int 0, .ref a12, .int 0]))]) hP hD [0] [1, 2] rfl rfl (by decide) (by decide) hk1 hFc hP1 hD1
      generalize H1 = H at hP hS ⊢
      have hP : va_P G.1 vwCl [(a12, .inl (G.2 0, 5, .inl (fun _ => 0))), (a1, .inr (1, [.long 0, .int n0, .int (-1), .int (-1), .int 0, .ref a13, .ref a14, .ref a15, .ref a16, .ref a17, .ref a18, .long 0, .ref a19])), (a0, .inr (11, [.ref a1, .ref a2, .ref a3, .ref a4, .ref a5, .ref a6, .ref a7, .ref a8, .ref a9, .ref a10, .int 0, .int 0, .int (-1), .ref a11, .int 0, .ref a12, .int 0]))] H := hP
      have hD : va_D A [(a12, .inl (G.2 0, 5, .inl (fun _ => 0))), (a1, .inr (1, [.long 0, .int n0, .int (-1), .int (-1), .int 0, .ref a13, .ref a14, .ref a15, .ref a16, .ref a17, .ref a18, .long 0, .ref a19])), (a0, .inr (11, [.ref a1, .ref a2, .ref a3, .ref a4, .ref a5, .ref a6, .ref a7, .ref a8, .ref a9, .ref a10, .int 0, .int 0, .int (-1), .ref a11, .int 0, .ref a12, .int 0]))] := hD
      have hP := hP.sub (ws' := []) [] rfl
      have hD := hD.sub (ws' := []) [] (by decide) rfl
      exact W.iret (v := 1000) hx hb hr (fun t ht hW => ⟨⟨1000, [], rfl, Or.inr (Or.inl (⟨i_1, i_2, rfl, rfl⟩)), by rw [ht]; exact hP, hD⟩, hS.F ht⟩) hS.2.2 dX11_least_37
    ·
      have i_2 : n0.toInt > 1000000 := by have z := g5_leN (a := n0.toInt) (b := 1000000) (by rfl) (by decide) c_2; omega
      refine lv_aload_n hx hb dX11_least_10 rfl (lv_at hl 0 rfl) ?_
      refine lv_iconst (v := (-1)) hx hb dX11_least_11 (by decide) ?_
      have hPc := hP.sub (ws' := [(a0, .inr (11, [.ref a1, .ref a2, .ref a3, .ref a4, .ref a5, .ref a6, .ref a7, .ref a8, .ref a9, .ref a10, .int 0, .int 0, .int (-1), .ref a11, .int 0, .ref a12, .int 0])), (a12, .inl (G.2 0, 5, .inl (fun _ => 0)))]) [0, 1] rfl
      have hDc := hD.sub (ws' := [(a0, .inr (11, [.ref a1, .ref a2, .ref a3, .ref a4, .ref a5, .ref a6, .ref a7, .ref a8, .ref a9, .ref a10, .int 0, .int 0, .int (-1), .ref a11, .int 0, .ref a12, .int 0])), (a12, .inl (G.2 0, 5, .inl (fun _ => 0)))]) [0, 1] (by decide) rfl
      have hFc := va_free (wc := [(a0, .inr (11, [.ref a1, .ref a2, .ref a3, .ref a4, .ref a5, .ref a6, .ref a7, .ref a8, .ref a9, .ref a10, .int 0, .int 0, .int (-1), .ref a11, .int 0, .ref a12, .int 0])), (a12, .inl (G.2 0, 5, .inl (fun _ => 0)))]) hD hS hA [0, 1] rfl
      refine va_calli (va_runV (As := [.int (-1)]) (rest := []) ⟨hx, hb, hml, hown, hts⟩ (kX11_refuse l G a0 a1 a2 a3 a4 a5 a6 a7 a8 a9 a10 a11 a12 s.heap.size) (cwV 1 hts gV_X11_104 rfl rfl rfl hv_X11_refuse ⟨Nat.le_of_ble_eq_true rfl, Nat.le_of_ble_eq_true rfl⟩) (g5_preV hPc hK hDc hN hT hS hFc (ci := 11) (q0 := 0) rfl rfl) rfl rfl hl.1 rfl (lv_room (Nat.le_of_ble_eq_true rfl)) dX11_least_12 ⟨Nat.le_of_ble_eq_true rfl, Nat.le_of_ble_eq_true rfl⟩) hS (fun q _ h => hFc q h) hFc (fun r u t H1 locs ht hvm hw hB hz1 hk1 hS => ?_)
      obtain ⟨hP1, hD1⟩ := hB
      rw [ht] at hP1
      obtain ⟨rfl, rfl⟩ := hw
      obtain ⟨hP, hD⟩ := va_join (wr := [(a1, .inr (1, [.long 0, .int 1000, .int (-1), .int (-1), .int 0, .ref a13, .ref a14, .ref a15, .ref a16, .ref a17, .ref a18, .long 0, .ref a19]))]) (w1 := [(a0, .inr (11, [.ref a1, .ref a2, .ref a3, .ref a4, .ref a5, .ref a6, .ref a7, .ref a8, .ref a9, .ref a10, .int 0, .int 0, .int (-1), .ref a11, .int 0, .ref a12, .int (-1)])), (a12, .inl (G.2 0, 5, .inl (upd (fun _ => 0) 0 1)))]) hP hD [0, 1] [2] rfl rfl (by decide) (by decide) hk1 hFc hP1 hD1
      generalize H1 = H at hP hS ⊢
      have hP : va_P G.1 vwCl [(a1, .inr (1, [.long 0, .int 1000, .int (-1), .int (-1), .int 0, .ref a13, .ref a14, .ref a15, .ref a16, .ref a17, .ref a18, .long 0, .ref a19])), (a0, .inr (11, [.ref a1, .ref a2, .ref a3, .ref a4, .ref a5, .ref a6, .ref a7, .ref a8, .ref a9, .ref a10, .int 0, .int 0, .int (-1), .ref a11, .int 0, .ref a12, .int (-1)])), (a12, .inl (G.2 0, 5, .inl (upd (fun _ => 0) 0 1)))] H := hP
      have hD : va_D A [(a1, .inr (1, [.long 0, .int 1000, .int (-1), .int (-1), .int 0, .ref a13, .ref a14, .ref a15, .ref a16, .ref a17, .ref a18, .long 0, .ref a19])), (a0, .inr (11, [.ref a1, .ref a2, .ref a3, .ref a4, .ref a5, .ref a6, .ref a7, .ref a8, .ref a9, .ref a10, .int 0, .int 0, .int (-1), .ref a11, .int 0, .ref a12, .int (-1)])), (a12, .inl (G.2 0, 5, .inl (upd (fun _ => 0) 0 1)))] := hD
      have hP := hP.sub (ws' := []) [] rfl
      have hD := hD.sub (ws' := []) [] (by decide) rfl
      exact W.iret (v := (-1)) hx hb hr (fun t ht hW => ⟨⟨(-1), [], rfl, Or.inr (Or.inr (⟨i_1, i_2, rfl, rfl⟩)), by rw [ht]; exact hP, hD⟩, hS.F ht⟩) hS.2.2 dX11_least_15
theorem dX11_write_0 : decode cX11_write 0 = .ok (.bipush 24, 2) := by decide +kernel
theorem dX11_write_2 : decode cX11_write 2 = .ok (.istore_n 2, 1) := by decide +kernel
theorem dX11_write_3 : decode cX11_write 3 = .ok (.iload_n 2, 1) := by decide +kernel
theorem dX11_write_4 : decode cX11_write 4 = .ok (.ifCond .lt 47, 3) := by decide +kernel
theorem dX11_write_7 : decode cX11_write 7 = .ok (.aload_n 0, 1) := by decide +kernel
theorem dX11_write_8 : decode cX11_write 8 = .ok (.getfield 74, 3) := by decide +kernel
theorem dX11_write_11 : decode cX11_write 11 = .ok (.aload_n 0, 1) := by decide +kernel
theorem dX11_write_12 : decode cX11_write 12 = .ok (.getfield 70, 3) := by decide +kernel
theorem dX11_write_15 : decode cX11_write 15 = .ok (.arraylength, 1) := by decide +kernel
theorem dX11_write_16 : decode cX11_write 16 = .ok (.if_icmp .ge 35, 3) := by decide +kernel
theorem dX11_write_19 : decode cX11_write 19 = .ok (.aload_n 0, 1) := by decide +kernel
theorem dX11_write_20 : decode cX11_write 20 = .ok (.getfield 70, 3) := by decide +kernel
theorem dX11_write_23 : decode cX11_write 23 = .ok (.aload_n 0, 1) := by decide +kernel
theorem dX11_write_24 : decode cX11_write 24 = .ok (.getfield 74, 3) := by decide +kernel
theorem dX11_write_27 : decode cX11_write 27 = .ok (.iload_n 1, 1) := by decide +kernel
theorem dX11_write_28 : decode cX11_write 28 = .ok (.iload_n 2, 1) := by decide +kernel
theorem dX11_write_29 : decode cX11_write 29 = .ok (.iushr, 1) := by decide +kernel
theorem dX11_write_30 : decode cX11_write 30 = .ok (.sipush 255, 3) := by decide +kernel
theorem dX11_write_33 : decode cX11_write 33 = .ok (.iand, 1) := by decide +kernel
theorem dX11_write_34 : decode cX11_write 34 = .ok (.iastore, 1) := by decide +kernel
theorem dX11_write_35 : decode cX11_write 35 = .ok (.aload_n 0, 1) := by decide +kernel
theorem dX11_write_36 : decode cX11_write 36 = .ok (.dup, 1) := by decide +kernel
theorem dX11_write_37 : decode cX11_write 37 = .ok (.getfield 74, 3) := by decide +kernel
theorem dX11_write_40 : decode cX11_write 40 = .ok (.iconst 1, 1) := by decide +kernel
theorem dX11_write_41 : decode cX11_write 41 = .ok (.iadd, 1) := by decide +kernel
theorem dX11_write_42 : decode cX11_write 42 = .ok (.putfield 74, 3) := by decide +kernel
theorem dX11_write_45 : decode cX11_write 45 = .ok (.iinc 2 (-8), 3) := by decide +kernel
theorem dX11_write_48 : decode cX11_write 48 = .ok (.goto (-45), 3) := by decide +kernel
theorem dX11_write_51 : decode cX11_write 51 = .ok (.return_, 1) := by decide +kernel
set_option maxHeartbeats 4000000 in
set_option maxRecDepth 100000 in
theorem kX11_write (l : Launch) (G : g5_G) (a0 a1 a2 a3 a4 a5 a6 a7 a8 a9 a10 a11 a12 : Nat) (sz : Nat) (n0 : Int32) : Met l yX11_write (wsG yX11_write cX11_write 3 none) ({ frames := 0, cells := 0, slots := 0, locals := 0 }) (va_Pc [.ref a0, .int n0] (g5_P G [(a0, .inr (11, [.ref a1, .ref a2, .ref a3, .ref a4, .ref a5, .ref a6, .ref a7, .ref a8, .ref a9, .ref a10, .int 0, .int 0, .int (-1), .ref a11, .int 0, .ref a12, .int 0])), (a10, .inl (G.2 0, 400, .inl (fun _ => 0)))] sz)) (va_Qv (fun (u : va_W) => ((u = [(a0, .inr (11, [.ref a1, .ref a2, .ref a3, .ref a4, .ref a5, .ref a6, .ref a7, .ref a8, .ref a9, .ref a10, .int 4, .int 0, .int (-1), .ref a11, .int 0, .ref a12, .int 0])), (a10, .inl (G.2 0, 400, .inl (upd (upd (upd (upd (fun _ => 0) 0 (((n0.toUInt32 >>> ((24 : Int32).toUInt32 &&& Int32.toUInt32 31)).toInt32) &&& 255)) 1 (((n0.toUInt32 >>> ((16 : Int32).toUInt32 &&& Int32.toUInt32 31)).toInt32) &&& 255)) 2 (((n0.toUInt32 >>> ((8 : Int32).toUInt32 &&& Int32.toUInt32 31)).toInt32) &&& 255)) 3 (((n0.toUInt32 >>> ((0 : Int32).toUInt32 &&& Int32.toUInt32 31)).toInt32) &&& 255))))]))) (g5_B G (va_A [(a0, .inr (11, [.ref a1, .ref a2, .ref a3, .ref a4, .ref a5, .ref a6, .ref a7, .ref a8, .ref a9, .ref a10, .int 0, .int 0, .int (-1), .ref a11, .int 0, .ref a12, .int 0])), (a10, .inl (G.2 0, 400, .inl (fun _ => 0)))] sz)) (va_A [(a0, .inr (11, [.ref a1, .ref a2, .ref a3, .ref a4, .ref a5, .ref a6, .ref a7, .ref a8, .ref a9, .ref a10, .int 0, .int 0, .int (-1), .ref a11, .int 0, .ref a12, .int 0])), (a10, .inl (G.2 0, 400, .inl (fun _ => 0)))] sz)) 0 0 (va_A [(a0, .inr (11, [.ref a1, .ref a2, .ref a3, .ref a4, .ref a5, .ref a6, .ref a7, .ref a8, .ref a9, .ref a10, .int 0, .int 0, .int (-1), .ref a11, .int 0, .ref a12, .int 0])), (a10, .inl (G.2 0, 400, .inl (fun _ => 0)))] sz) := by
  refine Met.ofW (cc := cX11_write) (maxL := 3) (ret := none) (by decide) rfl ?_
  intro p e s m args below meth c s₁ B hml hv
  obtain ⟨rfl, hsz, hP, hK, hD0, hN, hT⟩ := hv
  have hx := B.exec
  have hb := B.bytes
  have hr := B.returns
  have hts : ∀ w ∈ tblG, w.before _ s = true := fun w h => atoms_spec (ws := (wsG yX11_write cX11_write 3 none)) B.pre w (List.mem_cons_of_mem _ h)
  have hown : s.vm.findClass RX11 = some m.cls := findClass_of_methodNamed B.named
  have hlocks := B.notSynchronized
  subst hsz
  have hD := hD0.self (sz := s.heap.size)
  generalize hAe : va_A [(a0, .inr (11, [.ref a1, .ref a2, .ref a3, .ref a4, .ref a5, .ref a6, .ref a7, .ref a8, .ref a9, .ref a10, .int 0, .int 0, .int (-1), .ref a11, .int 0, .ref a12, .int 0])), (a10, .inl (G.2 0, 400, .inl (fun _ => 0)))] s.heap.size = A at hD hT ⊢
  have hA : ∀ q : Nat, s.heap.size ≤ q → A q := fun q h => by rw [← hAe]; exact Or.inr h
  have hS : va_S A s.heap s.heap [] := va_S.rf
  have hP : va_P G.1 vwCl [(a0, .inr (11, [.ref a1, .ref a2, .ref a3, .ref a4, .ref a5, .ref a6, .ref a7, .ref a8, .ref a9, .ref a10, .int 0, .int 0, .int (-1), .ref a11, .int 0, .ref a12, .int 0])), (a10, .inl (G.2 0, 400, .inl (fun _ => 0)))] s.heap := hP
  have hl := lv_entry ([.ref a0, .int n0]) (n := 3) (Nat.le_of_ble_eq_true rfl)
  rw [lg_entry_eq]
  generalize (lg_sl ([.ref a0, .int n0]) ++ List.replicate (3 - (lg_sl ([.ref a0, .int n0])).length) Slot.unset).toArray = ls at hl ⊢
  have hl : lv_has ls 3 [(0, .ref a0), (1, .int n0)] := hl
  refine lv_bipush (v := 24) hx hb dX11_write_0 (by decide) ?_
  refine lv_istore_n (lv' := [(2, .int 24), (0, .ref a0), (1, .int n0)]) hx hb dX11_write_2 rfl hl (by decide) rfl (fun ls hl => ?_)
  refine lv_iload_n hx hb dX11_write_3 rfl (lv_at hl 0 rfl) ?_
  refine lv_if_lt (tgt := 51) hx hb dX11_write_4 (by decide) (fun c_1 => ?_) (fun c_1 => ?_)
  ·
    exact absurd c_1 (by decide)
  ·
    refine lv_aload_n hx hb dX11_write_7 rfl (lv_at hl 1 rfl) ?_
    refine va_get (D := G.1) (ci := 11) (v := .int 0) (C := RX11) (T := TX11) (N := 17) hx hb hts inG_X11 hown hK hP 0 rfl rfl 10 (by decide) (hts _ fl_X11_74) (fun _ h9 => h9) rfl dX11_write_8 ?_
    refine lv_aload_n hx hb dX11_write_11 rfl (lv_at hl 1 rfl) ?_
    refine va_get (D := G.1) (ci := 11) (v := .ref a10) (C := RX11) (T := TX11) (N := 17) hx hb hts inG_X11 hown hK hP 0 rfl rfl 9 (by decide) (hts _ fl_X11_70) (fun _ h9 => h9) rfl dX11_write_12 ?_
    refine va_alen hx hb hK hP 1 0 rfl rfl (v := 400) (by show Int32.ofNat 400 = 400; decide) dX11_write_15 ?_
    refine lv_icmp_ge (tgt := 51) hx hb dX11_write_16 (by decide) (fun c_2 => ?_) (fun c_2 => ?_)
    ·
      exact absurd c_2 (by decide)
    ·
      refine lv_aload_n hx hb dX11_write_19 rfl (lv_at hl 1 rfl) ?_
      refine va_get (D := G.1) (ci := 11) (v := .ref a10) (C := RX11) (T := TX11) (N := 17) hx hb hts inG_X11 hown hK hP 0 rfl rfl 9 (by decide) (hts _ fl_X11_70) (fun _ h9 => h9) rfl dX11_write_20 ?_
      refine lv_aload_n hx hb dX11_write_23 rfl (lv_at hl 1 rfl) ?_
      refine va_get (D := G.1) (ci := 11) (v := .int 0) (C := RX11) (T := TX11) (N := 17) hx hb hts inG_X11 hown hK hP 0 rfl rfl 10 (by decide) (hts _ fl_X11_74) (fun _ h9 => h9) rfl dX11_write_24 ?_
      refine lv_iload_n hx hb dX11_write_27 rfl (lv_at hl 2 rfl) ?_
      refine lv_iload_n hx hb dX11_write_28 rfl (lv_at hl 0 rfl) ?_
      refine lv_iushr (v := ((n0.toUInt32 >>> ((24 : Int32).toUInt32 &&& Int32.toUInt32 31)).toInt32)) hx hb dX11_write_29 rfl ?_
      refine lv_sipush (v := 255) hx hb dX11_write_30 (by decide) ?_
      refine lv_iand hx hb dX11_write_33 ?_
      refine va_iast hx hb hK hP hD hS 1 0 rfl rfl (i := 0) (x := (((n0.toUInt32 >>> ((24 : Int32).toUInt32 &&& Int32.toUInt32 31)).toInt32) &&& 255)) (by unfold vp_in; decide) dX11_write_34 (fun H locs hP hD hS => ?_)
      have hP : va_P G.1 vwCl [(a0, .inr (11, [.ref a1, .ref a2, .ref a3, .ref a4, .ref a5, .ref a6, .ref a7, .ref a8, .ref a9, .ref a10, .int 0, .int 0, .int (-1), .ref a11, .int 0, .ref a12, .int 0])), (a10, .inl (G.2 0, 400, .inl (upd (fun _ => 0) 0 (((n0.toUInt32 >>> ((24 : Int32).toUInt32 &&& Int32.toUInt32 31)).toInt32) &&& 255))))] H := hP
      have hD : va_D A [(a0, .inr (11, [.ref a1, .ref a2, .ref a3, .ref a4, .ref a5, .ref a6, .ref a7, .ref a8, .ref a9, .ref a10, .int 0, .int 0, .int (-1), .ref a11, .int 0, .ref a12, .int 0])), (a10, .inl (G.2 0, 400, .inl (upd (fun _ => 0) 0 (((n0.toUInt32 >>> ((24 : Int32).toUInt32 &&& Int32.toUInt32 31)).toInt32) &&& 255))))] := hD
      refine lv_aload_n hx hb dX11_write_35 rfl (lv_at hl 1 rfl) ?_
      refine lv_dup hx hb dX11_write_36 rfl ?_
      refine va_get (D := G.1) (ci := 11) (v := .int 0) (C := RX11) (T := TX11) (N := 17) hx hb hts inG_X11 hown hK hP 0 rfl rfl 10 (by decide) (hts _ fl_X11_74) (fun _ h9 => h9) rfl dX11_write_37 ?_
      refine lv_iconst (v := 1) hx hb dX11_write_40 (by decide) ?_
      refine lv_iadd hx hb dX11_write_41 ?_
      refine g5_ti (v := 1) (by decide) ?_
      refine va_put (D := G.1) (ci := 11) (v := .int 1) (ty := .int) (C := RX11) (T := TX11) (N := 17) hx hb hts inG_X11 tyX11 tyX11_ok nmX11 hown hK hP hD hS 0 rfl rfl 10 (by decide) (hts _ fl_X11_74) (fun _ h9 => h9) rfl (by decide +kernel) rfl rfl (Nat.le_of_ble_eq_true rfl) dX11_write_42 (fun H locs hP hD hS => ?_)
      have hP : va_P G.1 vwCl [(a0, .inr (11, [.ref a1, .ref a2, .ref a3, .ref a4, .ref a5, .ref a6, .ref a7, .ref a8, .ref a9, .ref a10, .int 1, .int 0, .int (-1), .ref a11, .int 0, .ref a12, .int 0])), (a10, .inl (G.2 0, 400, .inl (upd (fun _ => 0) 0 (((n0.toUInt32 >>> ((24 : Int32).toUInt32 &&& Int32.toUInt32 31)).toInt32) &&& 255))))] H := hP
      have hD : va_D A [(a0, .inr (11, [.ref a1, .ref a2, .ref a3, .ref a4, .ref a5, .ref a6, .ref a7, .ref a8, .ref a9, .ref a10, .int 1, .int 0, .int (-1), .ref a11, .int 0, .ref a12, .int 0])), (a10, .inl (G.2 0, 400, .inl (upd (fun _ => 0) 0 (((n0.toUInt32 >>> ((24 : Int32).toUInt32 &&& Int32.toUInt32 31)).toInt32) &&& 255))))] := hD
      refine lv_iinc (v := 16) (lv' := [(2, .int 16), (0, .ref a0), (1, .int n0)]) hx hb dX11_write_45 hl (k := 0) rfl (by decide) (by decide) rfl (fun ls hl => ?_)
      refine lv_goto (tgt := 3) hx hb dX11_write_48 (by decide) ?_
      refine lv_iload_n hx hb dX11_write_3 rfl (lv_at hl 0 rfl) ?_
      refine lv_if_lt (tgt := 51) hx hb dX11_write_4 (by decide) (fun c_3 => ?_) (fun c_3 => ?_)
      ·
        exact absurd c_3 (by decide)
      ·
        refine lv_aload_n hx hb dX11_write_7 rfl (lv_at hl 1 rfl) ?_
        refine va_get (D := G.1) (ci := 11) (v := .int 1) (C := RX11) (T := TX11) (N := 17) hx hb hts inG_X11 hown hK hP 0 rfl rfl 10 (by decide) (hts _ fl_X11_74) (fun _ h9 => h9) rfl dX11_write_8 ?_
        refine lv_aload_n hx hb dX11_write_11 rfl (lv_at hl 1 rfl) ?_
        refine va_get (D := G.1) (ci := 11) (v := .ref a10) (C := RX11) (T := TX11) (N := 17) hx hb hts inG_X11 hown hK hP 0 rfl rfl 9 (by decide) (hts _ fl_X11_70) (fun _ h9 => h9) rfl dX11_write_12 ?_
        refine va_alen hx hb hK hP 1 0 rfl rfl (v := 400) (by show Int32.ofNat 400 = 400; decide) dX11_write_15 ?_
        refine lv_icmp_ge (tgt := 51) hx hb dX11_write_16 (by decide) (fun c_4 => ?_) (fun c_4 => ?_)
        ·
          exact absurd c_4 (by decide)
        ·
          refine lv_aload_n hx hb dX11_write_19 rfl (lv_at hl 1 rfl) ?_
          refine va_get (D := G.1) (ci := 11) (v := .ref a10) (C := RX11) (T := TX11) (N := 17) hx hb hts inG_X11 hown hK hP 0 rfl rfl 9 (by decide) (hts _ fl_X11_70) (fun _ h9 => h9) rfl dX11_write_20 ?_
          refine lv_aload_n hx hb dX11_write_23 rfl (lv_at hl 1 rfl) ?_
          refine va_get (D := G.1) (ci := 11) (v := .int 1) (C := RX11) (T := TX11) (N := 17) hx hb hts inG_X11 hown hK hP 0 rfl rfl 10 (by decide) (hts _ fl_X11_74) (fun _ h9 => h9) rfl dX11_write_24 ?_
          refine lv_iload_n hx hb dX11_write_27 rfl (lv_at hl 2 rfl) ?_
          refine lv_iload_n hx hb dX11_write_28 rfl (lv_at hl 0 rfl) ?_
          refine lv_iushr (v := ((n0.toUInt32 >>> ((16 : Int32).toUInt32 &&& Int32.toUInt32 31)).toInt32)) hx hb dX11_write_29 rfl ?_
          refine lv_sipush (v := 255) hx hb dX11_write_30 (by decide) ?_
          refine lv_iand hx hb dX11_write_33 ?_
          refine va_iast hx hb hK hP hD hS 1 0 rfl rfl (i := 1) (x := (((n0.toUInt32 >>> ((16 : Int32).toUInt32 &&& Int32.toUInt32 31)).toInt32) &&& 255)) (by unfold vp_in; decide) dX11_write_34 (fun H locs hP hD hS => ?_)
          have hP : va_P G.1 vwCl [(a0, .inr (11, [.ref a1, .ref a2, .ref a3, .ref a4, .ref a5, .ref a6, .ref a7, .ref a8, .ref a9, .ref a10, .int 1, .int 0, .int (-1), .ref a11, .int 0, .ref a12, .int 0])), (a10, .inl (G.2 0, 400, .inl (upd (upd (fun _ => 0) 0 (((n0.toUInt32 >>> ((24 : Int32).toUInt32 &&& Int32.toUInt32 31)).toInt32) &&& 255)) 1 (((n0.toUInt32 >>> ((16 : Int32).toUInt32 &&& Int32.toUInt32 31)).toInt32) &&& 255))))] H := hP
          have hD : va_D A [(a0, .inr (11, [.ref a1, .ref a2, .ref a3, .ref a4, .ref a5, .ref a6, .ref a7, .ref a8, .ref a9, .ref a10, .int 1, .int 0, .int (-1), .ref a11, .int 0, .ref a12, .int 0])), (a10, .inl (G.2 0, 400, .inl (upd (upd (fun _ => 0) 0 (((n0.toUInt32 >>> ((24 : Int32).toUInt32 &&& Int32.toUInt32 31)).toInt32) &&& 255)) 1 (((n0.toUInt32 >>> ((16 : Int32).toUInt32 &&& Int32.toUInt32 31)).toInt32) &&& 255))))] := hD
          refine lv_aload_n hx hb dX11_write_35 rfl (lv_at hl 1 rfl) ?_
          refine lv_dup hx hb dX11_write_36 rfl ?_
          refine va_get (D := G.1) (ci := 11) (v := .int 1) (C := RX11) (T := TX11) (N := 17) hx hb hts inG_X11 hown hK hP 0 rfl rfl 10 (by decide) (hts _ fl_X11_74) (fun _ h9 => h9) rfl dX11_write_37 ?_
          refine lv_iconst (v := 1) hx hb dX11_write_40 (by decide) ?_
          refine lv_iadd hx hb dX11_write_41 ?_
          refine g5_ti (v := 2) (by decide) ?_
          refine va_put (D := G.1) (ci := 11) (v := .int 2) (ty := .int) (C := RX11) (T := TX11) (N := 17) hx hb hts inG_X11 tyX11 tyX11_ok nmX11 hown hK hP hD hS 0 rfl rfl 10 (by decide) (hts _ fl_X11_74) (fun _ h9 => h9) rfl (by decide +kernel) rfl rfl (Nat.le_of_ble_eq_true rfl) dX11_write_42 (fun H locs hP hD hS => ?_)
          have hP : va_P G.1 vwCl [(a0, .inr (11, [.ref a1, .ref a2, .ref a3, .ref a4, .ref a5, .ref a6, .ref a7, .ref a8, .ref a9, .ref a10, .int 2, .int 0, .int (-1), .ref a11, .int 0, .ref a12, .int 0])), (a10, .inl (G.2 0, 400, .inl (upd (upd (fun _ => 0) 0 (((n0.toUInt32 >>> ((24 : Int32).toUInt32 &&& Int32.toUInt32 31)).toInt32) &&& 255)) 1 (((n0.toUInt32 >>> ((16 : Int32).toUInt32 &&& Int32.toUInt32 31)).toInt32) &&& 255))))] H := hP
          have hD : va_D A [(a0, .inr (11, [.ref a1, .ref a2, .ref a3, .ref a4, .ref a5, .ref a6, .ref a7, .ref a8, .ref a9, .ref a10, .int 2, .int 0, .int (-1), .ref a11, .int 0, .ref a12, .int 0])), (a10, .inl (G.2 0, 400, .inl (upd (upd (fun _ => 0) 0 (((n0.toUInt32 >>> ((24 : Int32).toUInt32 &&& Int32.toUInt32 31)).toInt32) &&& 255)) 1 (((n0.toUInt32 >>> ((16 : Int32).toUInt32 &&& Int32.toUInt32 31)).toInt32) &&& 255))))] := hD
          refine lv_iinc (v := 8) (lv' := [(2, .int 8), (0, .ref a0), (1, .int n0)]) hx hb dX11_write_45 hl (k := 0) rfl (by decide) (by decide) rfl (fun ls hl => ?_)
          refine lv_goto (tgt := 3) hx hb dX11_write_48 (by decide) ?_
          refine lv_iload_n hx hb dX11_write_3 rfl (lv_at hl 0 rfl) ?_
          refine lv_if_lt (tgt := 51) hx hb dX11_write_4 (by decide) (fun c_5 => ?_) (fun c_5 => ?_)
          ·
            exact absurd c_5 (by decide)
          ·
            refine lv_aload_n hx hb dX11_write_7 rfl (lv_at hl 1 rfl) ?_
            refine va_get (D := G.1) (ci := 11) (v := .int 2) (C := RX11) (T := TX11) (N := 17) hx hb hts inG_X11 hown hK hP 0 rfl rfl 10 (by decide) (hts _ fl_X11_74) (fun _ h9 => h9) rfl dX11_write_8 ?_
            refine lv_aload_n hx hb dX11_write_11 rfl (lv_at hl 1 rfl) ?_
            refine va_get (D := G.1) (ci := 11) (v := .ref a10) (C := RX11) (T := TX11) (N := 17) hx hb hts inG_X11 hown hK hP 0 rfl rfl 9 (by decide) (hts _ fl_X11_70) (fun _ h9 => h9) rfl dX11_write_12 ?_
            refine va_alen hx hb hK hP 1 0 rfl rfl (v := 400) (by show Int32.ofNat 400 = 400; decide) dX11_write_15 ?_
            refine lv_icmp_ge (tgt := 51) hx hb dX11_write_16 (by decide) (fun c_6 => ?_) (fun c_6 => ?_)
            ·
              exact absurd c_6 (by decide)
            ·
              refine lv_aload_n hx hb dX11_write_19 rfl (lv_at hl 1 rfl) ?_
              refine va_get (D := G.1) (ci := 11) (v := .ref a10) (C := RX11) (T := TX11) (N := 17) hx hb hts inG_X11 hown hK hP 0 rfl rfl 9 (by decide) (hts _ fl_X11_70) (fun _ h9 => h9) rfl dX11_write_20 ?_
              refine lv_aload_n hx hb dX11_write_23 rfl (lv_at hl 1 rfl) ?_
              refine va_get (D := G.1) (ci := 11) (v := .int 2) (C := RX11) (T := TX11) (N := 17) hx hb hts inG_X11 hown hK hP 0 rfl rfl 10 (by decide) (hts _ fl_X11_74) (fun _ h9 => h9) rfl dX11_write_24 ?_
              refine lv_iload_n hx hb dX11_write_27 rfl (lv_at hl 2 rfl) ?_
              refine lv_iload_n hx hb dX11_write_28 rfl (lv_at hl 0 rfl) ?_
              refine lv_iushr (v := ((n0.toUInt32 >>> ((8 : Int32).toUInt32 &&& Int32.toUInt32 31)).toInt32)) hx hb dX11_write_29 rfl ?_
              refine lv_sipush (v := 255) hx hb dX11_write_30 (by decide) ?_
              refine lv_iand hx hb dX11_write_33 ?_
              refine va_iast hx hb hK hP hD hS 1 0 rfl rfl (i := 2) (x := (((n0.toUInt32 >>> ((8 : Int32).toUInt32 &&& Int32.toUInt32 31)).toInt32) &&& 255)) (by unfold vp_in; decide) dX11_write_34 (fun H locs hP hD hS => ?_)
              have hP : va_P G.1 vwCl [(a0, .inr (11, [.ref a1, .ref a2, .ref a3, .ref a4, .ref a5, .ref a6, .ref a7, .ref a8, .ref a9, .ref a10, .int 2, .int 0, .int (-1), .ref a11, .int 0, .ref a12, .int 0])), (a10, .inl (G.2 0, 400, .inl (upd (upd (upd (fun _ => 0) 0 (((n0.toUInt32 >>> ((24 : Int32).toUInt32 &&& Int32.toUInt32 31)).toInt32) &&& 255)) 1 (((n0.toUInt32 >>> ((16 : Int32).toUInt32 &&& Int32.toUInt32 31)).toInt32) &&& 255)) 2 (((n0.toUInt32 >>> ((8 : Int32).toUInt32 &&& Int32.toUInt32 31)).toInt32) &&& 255))))] H := hP
              have hD : va_D A [(a0, .inr (11, [.ref a1, .ref a2, .ref a3, .ref a4, .ref a5, .ref a6, .ref a7, .ref a8, .ref a9, .ref a10, .int 2, .int 0, .int (-1), .ref a11, .int 0, .ref a12, .int 0])), (a10, .inl (G.2 0, 400, .inl (upd (upd (upd (fun _ => 0) 0 (((n0.toUInt32 >>> ((24 : Int32).toUInt32 &&& Int32.toUInt32 31)).toInt32) &&& 255)) 1 (((n0.toUInt32 >>> ((16 : Int32).toUInt32 &&& Int32.toUInt32 31)).toInt32) &&& 255)) 2 (((n0.toUInt32 >>> ((8 : Int32).toUInt32 &&& Int32.toUInt32 31)).toInt32) &&& 255))))] := hD
              refine lv_aload_n hx hb dX11_write_35 rfl (lv_at hl 1 rfl) ?_
              refine lv_dup hx hb dX11_write_36 rfl ?_
              refine va_get (D := G.1) (ci := 11) (v := .int 2) (C := RX11) (T := TX11) (N := 17) hx hb hts inG_X11 hown hK hP 0 rfl rfl 10 (by decide) (hts _ fl_X11_74) (fun _ h9 => h9) rfl dX11_write_37 ?_
              refine lv_iconst (v := 1) hx hb dX11_write_40 (by decide) ?_
              refine lv_iadd hx hb dX11_write_41 ?_
              refine g5_ti (v := 3) (by decide) ?_
              refine va_put (D := G.1) (ci := 11) (v := .int 3) (ty := .int) (C := RX11) (T := TX11) (N := 17) hx hb hts inG_X11 tyX11 tyX11_ok nmX11 hown hK hP hD hS 0 rfl rfl 10 (by decide) (hts _ fl_X11_74) (fun _ h9 => h9) rfl (by decide +kernel) rfl rfl (Nat.le_of_ble_eq_true rfl) dX11_write_42 (fun H locs hP hD hS => ?_)
              have hP : va_P G.1 vwCl [(a0, .inr (11, [.ref a1, .ref a2, .ref a3, .ref a4, .ref a5, .ref a6, .ref a7, .ref a8, .ref a9, .ref a10, .int 3, .int 0, .int (-1), .ref a11, .int 0, .ref a12, .int 0])), (a10, .inl (G.2 0, 400, .inl (upd (upd (upd (fun _ => 0) 0 (((n0.toUInt32 >>> ((24 : Int32).toUInt32 &&& Int32.toUInt32 31)).toInt32) &&& 255)) 1 (((n0.toUInt32 >>> ((16 : Int32).toUInt32 &&& Int32.toUInt32 31)).toInt32) &&& 255)) 2 (((n0.toUInt32 >>> ((8 : Int32).toUInt32 &&& Int32.toUInt32 31)).toInt32) &&& 255))))] H := hP
              have hD : va_D A [(a0, .inr (11, [.ref a1, .ref a2, .ref a3, .ref a4, .ref a5, .ref a6, .ref a7, .ref a8, .ref a9, .ref a10, .int 3, .int 0, .int (-1), .ref a11, .int 0, .ref a12, .int 0])), (a10, .inl (G.2 0, 400, .inl (upd (upd (upd (fun _ => 0) 0 (((n0.toUInt32 >>> ((24 : Int32).toUInt32 &&& Int32.toUInt32 31)).toInt32) &&& 255)) 1 (((n0.toUInt32 >>> ((16 : Int32).toUInt32 &&& Int32.toUInt32 31)).toInt32) &&& 255)) 2 (((n0.toUInt32 >>> ((8 : Int32).toUInt32 &&& Int32.toUInt32 31)).toInt32) &&& 255))))] := hD
              refine lv_iinc (v := 0) (lv' := [(2, .int 0), (0, .ref a0), (1, .int n0)]) hx hb dX11_write_45 hl (k := 0) rfl (by decide) (by decide) rfl (fun ls hl => ?_)
              refine lv_goto (tgt := 3) hx hb dX11_write_48 (by decide) ?_
              refine lv_iload_n hx hb dX11_write_3 rfl (lv_at hl 0 rfl) ?_
              refine lv_if_lt (tgt := 51) hx hb dX11_write_4 (by decide) (fun c_7 => ?_) (fun c_7 => ?_)
              ·
                exact absurd c_7 (by decide)
              ·
                refine lv_aload_n hx hb dX11_write_7 rfl (lv_at hl 1 rfl) ?_
                refine va_get (D := G.1) (ci := 11) (v := .int 3) (C := RX11) (T := TX11) (N := 17) hx hb hts inG_X11 hown hK hP 0 rfl rfl 10 (by decide) (hts _ fl_X11_74) (fun _ h9 => h9) rfl dX11_write_8 ?_
                refine lv_aload_n hx hb dX11_write_11 rfl (lv_at hl 1 rfl) ?_
                refine va_get (D := G.1) (ci := 11) (v := .ref a10) (C := RX11) (T := TX11) (N := 17) hx hb hts inG_X11 hown hK hP 0 rfl rfl 9 (by decide) (hts _ fl_X11_70) (fun _ h9 => h9) rfl dX11_write_12 ?_
                refine va_alen hx hb hK hP 1 0 rfl rfl (v := 400) (by show Int32.ofNat 400 = 400; decide) dX11_write_15 ?_
                refine lv_icmp_ge (tgt := 51) hx hb dX11_write_16 (by decide) (fun c_8 => ?_) (fun c_8 => ?_)
                ·
                  exact absurd c_8 (by decide)
                ·
                  refine lv_aload_n hx hb dX11_write_19 rfl (lv_at hl 1 rfl) ?_
                  refine va_get (D := G.1) (ci := 11) (v := .ref a10) (C := RX11) (T := TX11) (N := 17) hx hb hts inG_X11 hown hK hP 0 rfl rfl 9 (by decide) (hts _ fl_X11_70) (fun _ h9 => h9) rfl dX11_write_20 ?_
                  refine lv_aload_n hx hb dX11_write_23 rfl (lv_at hl 1 rfl) ?_
                  refine va_get (D := G.1) (ci := 11) (v := .int 3) (C := RX11) (T := TX11) (N := 17) hx hb hts inG_X11 hown hK hP 0 rfl rfl 10 (by decide) (hts _ fl_X11_74) (fun _ h9 => h9) rfl dX11_write_24 ?_
                  refine lv_iload_n hx hb dX11_write_27 rfl (lv_at hl 2 rfl) ?_
                  refine lv_iload_n hx hb dX11_write_28 rfl (lv_at hl 0 rfl) ?_
                  refine lv_iushr (v := ((n0.toUInt32 >>> ((0 : Int32).toUInt32 &&& Int32.toUInt32 31)).toInt32)) hx hb dX11_write_29 rfl ?_
                  refine lv_sipush (v := 255) hx hb dX11_write_30 (by decide) ?_
                  refine lv_iand hx hb dX11_write_33 ?_
                  refine va_iast hx hb hK hP hD hS 1 0 rfl rfl (i := 3) (x := (((n0.toUInt32 >>> ((0 : Int32).toUInt32 &&& Int32.toUInt32 31)).toInt32) &&& 255)) (by unfold vp_in; decide) dX11_write_34 (fun H locs hP hD hS => ?_)
                  have hP : va_P G.1 vwCl [(a0, .inr (11, [.ref a1, .ref a2, .ref a3, .ref a4, .ref a5, .ref a6, .ref a7, .ref a8, .ref a9, .ref a10, .int 3, .int 0, .int (-1), .ref a11, .int 0, .ref a12, .int 0])), (a10, .inl (G.2 0, 400, .inl (upd (upd (upd (upd (fun _ => 0) 0 (((n0.toUInt32 >>> ((24 : Int32).toUInt32 &&& Int32.toUInt32 31)).toInt32) &&& 255)) 1 (((n0.toUInt32 >>> ((16 : Int32).toUInt32 &&& Int32.toUInt32 31)).toInt32) &&& 255)) 2 (((n0.toUInt32 >>> ((8 : Int32).toUInt32 &&& Int32.toUInt32 31)).toInt32) &&& 255)) 3 (((n0.toUInt32 >>> ((0 : Int32).toUInt32 &&& Int32.toUInt32 31)).toInt32) &&& 255))))] H := hP
                  have hD : va_D A [(a0, .inr (11, [.ref a1, .ref a2, .ref a3, .ref a4, .ref a5, .ref a6, .ref a7, .ref a8, .ref a9, .ref a10, .int 3, .int 0, .int (-1), .ref a11, .int 0, .ref a12, .int 0])), (a10, .inl (G.2 0, 400, .inl (upd (upd (upd (upd (fun _ => 0) 0 (((n0.toUInt32 >>> ((24 : Int32).toUInt32 &&& Int32.toUInt32 31)).toInt32) &&& 255)) 1 (((n0.toUInt32 >>> ((16 : Int32).toUInt32 &&& Int32.toUInt32 31)).toInt32) &&& 255)) 2 (((n0.toUInt32 >>> ((8 : Int32).toUInt32 &&& Int32.toUInt32 31)).toInt32) &&& 255)) 3 (((n0.toUInt32 >>> ((0 : Int32).toUInt32 &&& Int32.toUInt32 31)).toInt32) &&& 255))))] := hD
                  refine lv_aload_n hx hb dX11_write_35 rfl (lv_at hl 1 rfl) ?_
                  refine lv_dup hx hb dX11_write_36 rfl ?_
                  refine va_get (D := G.1) (ci := 11) (v := .int 3) (C := RX11) (T := TX11) (N := 17) hx hb hts inG_X11 hown hK hP 0 rfl rfl 10 (by decide) (hts _ fl_X11_74) (fun _ h9 => h9) rfl dX11_write_37 ?_
                  refine lv_iconst (v := 1) hx hb dX11_write_40 (by decide) ?_
                  refine lv_iadd hx hb dX11_write_41 ?_
                  refine g5_ti (v := 4) (by decide) ?_
                  refine va_put (D := G.1) (ci := 11) (v := .int 4) (ty := .int) (C := RX11) (T := TX11) (N := 17) hx hb hts inG_X11 tyX11 tyX11_ok nmX11 hown hK hP hD hS 0 rfl rfl 10 (by decide) (hts _ fl_X11_74) (fun _ h9 => h9) rfl (by decide +kernel) rfl rfl (Nat.le_of_ble_eq_true rfl) dX11_write_42 (fun H locs hP hD hS => ?_)
                  have hP : va_P G.1 vwCl [(a0, .inr (11, [.ref a1, .ref a2, .ref a3, .ref a4, .ref a5, .ref a6, .ref a7, .ref a8, .ref a9, .ref a10, .int 4, .int 0, .int (-1), .ref a11, .int 0, .ref a12, .int 0])), (a10, .inl (G.2 0, 400, .inl (upd (upd (upd (upd (fun _ => 0) 0 (((n0.toUInt32 >>> ((24 : Int32).toUInt32 &&& Int32.toUInt32 31)).toInt32) &&& 255)) 1 (((n0.toUInt32 >>> ((16 : Int32).toUInt32 &&& Int32.toUInt32 31)).toInt32) &&& 255)) 2 (((n0.toUInt32 >>> ((8 : Int32).toUInt32 &&& Int32.toUInt32 31)).toInt32) &&& 255)) 3 (((n0.toUInt32 >>> ((0 : Int32).toUInt32 &&& Int32.toUInt32 31)).toInt32) &&& 255))))] H := hP
                  have hD : va_D A [(a0, .inr (11, [.ref a1, .ref a2, .ref a3, .ref a4, .ref a5, .ref a6, .ref a7, .ref a8, .ref a9, .ref a10, .int 4, .int 0, .int (-1), .ref a11, .int 0, .ref a12, .int 0])), (a10, .inl (G.2 0, 400, .inl (upd (upd (upd (upd (fun _ => 0) 0 (((n0.toUInt32 >>> ((24 : Int32).toUInt32 &&& Int32.toUInt32 31)).toInt32) &&& 255)) 1 (((n0.toUInt32 >>> ((16 : Int32).toUInt32 &&& Int32.toUInt32 31)).toInt32) &&& 255)) 2 (((n0.toUInt32 >>> ((8 : Int32).toUInt32 &&& Int32.toUInt32 31)).toInt32) &&& 255)) 3 (((n0.toUInt32 >>> ((0 : Int32).toUInt32 &&& Int32.toUInt32 31)).toInt32) &&& 255))))] := hD
                  refine lv_iinc (v := (-8)) (lv' := [(2, .int (-8)), (0, .ref a0), (1, .int n0)]) hx hb dX11_write_45 hl (k := 0) rfl (by decide) (by decide) rfl (fun ls hl => ?_)
                  refine lv_goto (tgt := 3) hx hb dX11_write_48 (by decide) ?_
                  refine lv_iload_n hx hb dX11_write_3 rfl (lv_at hl 0 rfl) ?_
                  refine lv_if_lt (tgt := 51) hx hb dX11_write_4 (by decide) (fun c_9 => ?_) (fun c_9 => ?_)
                  ·
                    exact W.vret hx hb hr (fun t ht hW => ⟨⟨[(a0, .inr (11, [.ref a1, .ref a2, .ref a3, .ref a4, .ref a5, .ref a6, .ref a7, .ref a8, .ref a9, .ref a10, .int 4, .int 0, .int (-1), .ref a11, .int 0, .ref a12, .int 0])), (a10, .inl (G.2 0, 400, .inl (upd (upd (upd (upd (fun _ => 0) 0 (((n0.toUInt32 >>> ((24 : Int32).toUInt32 &&& Int32.toUInt32 31)).toInt32) &&& 255)) 1 (((n0.toUInt32 >>> ((16 : Int32).toUInt32 &&& Int32.toUInt32 31)).toInt32) &&& 255)) 2 (((n0.toUInt32 >>> ((8 : Int32).toUInt32 &&& Int32.toUInt32 31)).toInt32) &&& 255)) 3 (((n0.toUInt32 >>> ((0 : Int32).toUInt32 &&& Int32.toUInt32 31)).toInt32) &&& 255))))], rfl, rfl, by rw [ht]; exact hP, hD⟩, hS.F ht⟩) hS.2.2 dX11_write_51
                  ·
                    exact absurd c_9 (by decide)
theorem ml_X11_185 : Cond.methodLink RX11 185 yX11_write ∈ tblG := tg 617 (by decide +kernel) (by decide +kernel)
theorem im_X11_write : Cond.instanceMethod yX11_write ∈ tblG := tg 619 (by decide +kernel) (by decide +kernel)
theorem se_X11_write : Cond.selects RX11 yX11_write yX11_write ∈ tblG := tg 2 (by decide +kernel) (by decide +kernel)
theorem cd_X11_write : Cond.code yX11_write cX11_write 3 none ∈ tblG := tg 620 (by decide +kernel) (by decide +kernel)
theorem gW_X11_write : GoodIn tblG (wsG yX11_write cX11_write 3 none) := tgi cd_X11_write
theorem gV_X11_185 : GoodIn tblG (wsV RX11 185 RX11 yX11_write (wsG yX11_write cX11_write 3 none)) := tgV ml_X11_185 im_X11_write se_X11_write ini_X11 gW_X11_write
theorem hv_X11_write : yX11_write.cls = RX11 ∧ yX11_write.cls ≠ "java/lang/invoke/MethodHandle" ∧ yX11_write.cls ≠ "java/lang/invoke/VarHandle" ∧ (parseMethodDescriptor yX11_write.desc).map (fun d => d.parameters.length) = some 1 := by decide +kernel
set_option maxHeartbeats 4000000 in
set_option maxRecDepth 100000 in
theorem kX11_write_2 (l : Launch) (G : g5_G) (a0 a1 a2 a3 a4 a5 a6 a7 a8 a9 a10 a11 a12 : Nat) (sz : Nat) (n0 : Int32) (f0 : Nat → Int32) : Met l yX11_write (wsG yX11_write cX11_write 3 none) ({ frames := 0, cells := 0, slots := 0, locals := 0 }) (va_Pc [.ref a0, .int n0] (g5_P G [(a0, .inr (11, [.ref a1, .ref a2, .ref a3, .ref a4, .ref a5, .ref a6, .ref a7, .ref a8, .ref a9, .ref a10, .int 4, .int 0, .int (-1), .ref a11, .int 0, .ref a12, .int 0])), (a10, .inl (G.2 0, 400, .inl f0))] sz)) (va_Qv (fun (u : va_W) => ((u = [(a0, .inr (11, [.ref a1, .ref a2, .ref a3, .ref a4, .ref a5, .ref a6, .ref a7, .ref a8, .ref a9, .ref a10, .int 8, .int 0, .int (-1), .ref a11, .int 0, .ref a12, .int 0])), (a10, .inl (G.2 0, 400, .inl (upd (upd (upd (upd f0 4 (((n0.toUInt32 >>> ((24 : Int32).toUInt32 &&& Int32.toUInt32 31)).toInt32) &&& 255)) 5 (((n0.toUInt32 >>> ((16 : Int32).toUInt32 &&& Int32.toUInt32 31)).toInt32) &&& 255)) 6 (((n0.toUInt32 >>> ((8 : Int32).toUInt32 &&& Int32.toUInt32 31)).toInt32) &&& 255)) 7 (((n0.toUInt32 >>> ((0 : Int32).toUInt32 &&& Int32.toUInt32 31)).toInt32) &&& 255))))]))) (g5_B G (va_A [(a0, .inr (11, [.ref a1, .ref a2, .ref a3, .ref a4, .ref a5, .ref a6, .ref a7, .ref a8, .ref a9, .ref a10, .int 4, .int 0, .int (-1), .ref a11, .int 0, .ref a12, .int 0])), (a10, .inl (G.2 0, 400, .inl f0))] sz)) (va_A [(a0, .inr (11, [.ref a1, .ref a2, .ref a3, .ref a4, .ref a5, .ref a6, .ref a7, .ref a8, .ref a9, .ref a10, .int 4, .int 0, .int (-1), .ref a11, .int 0, .ref a12, .int 0])), (a10, .inl (G.2 0, 400, .inl f0))] sz)) 0 0 (va_A [(a0, .inr (11, [.ref a1, .ref a2, .ref a3, .ref a4, .ref a5, .ref a6, .ref a7, .ref a8, .ref a9, .ref a10, .int 4, .int 0, .int (-1), .ref a11, .int 0, .ref a12, .int 0])), (a10, .inl (G.2 0, 400, .inl f0))] sz) := by
  refine Met.ofW (cc := cX11_write) (maxL := 3) (ret := none) (by decide) rfl ?_
  intro p e s m args below meth c s₁ B hml hv
  obtain ⟨rfl, hsz, hP, hK, hD0, hN, hT⟩ := hv
  have hx := B.exec
  have hb := B.bytes
  have hr := B.returns
  have hts : ∀ w ∈ tblG, w.before _ s = true := fun w h => atoms_spec (ws := (wsG yX11_write cX11_write 3 none)) B.pre w (List.mem_cons_of_mem _ h)
  have hown : s.vm.findClass RX11 = some m.cls := findClass_of_methodNamed B.named
  have hlocks := B.notSynchronized
  subst hsz
  have hD := hD0.self (sz := s.heap.size)
  generalize hAe : va_A [(a0, .inr (11, [.ref a1, .ref a2, .ref a3, .ref a4, .ref a5, .ref a6, .ref a7, .ref a8, .ref a9, .ref a10, .int 4, .int 0, .int (-1), .ref a11, .int 0, .ref a12, .int 0])), (a10, .inl (G.2 0, 400, .inl f0))] s.heap.size = A at hD hT ⊢
  have hA : ∀ q : Nat, s.heap.size ≤ q → A q := fun q h => by rw [← hAe]; exact Or.inr h
  have hS : va_S A s.heap s.heap [] := va_S.rf
  have hP : va_P G.1 vwCl [(a0, .inr (11, [.ref a1, .ref a2, .ref a3, .ref a4, .ref a5, .ref a6, .ref a7, .ref a8, .ref a9, .ref a10, .int 4, .int 0, .int (-1), .ref a11, .int 0, .ref a12, .int 0])), (a10, .inl (G.2 0, 400, .inl f0))] s.heap := hP
  have hl := lv_entry ([.ref a0, .int n0]) (n := 3) (Nat.le_of_ble_eq_true rfl)
  rw [lg_entry_eq]
  generalize (lg_sl ([.ref a0, .int n0]) ++ List.replicate (3 - (lg_sl ([.ref a0, .int n0])).length) Slot.unset).toArray = ls at hl ⊢
  have hl : lv_has ls 3 [(0, .ref a0), (1, .int n0)] := hl
  refine lv_bipush (v := 24) hx hb dX11_write_0 (by decide) ?_
  refine lv_istore_n (lv' := [(2, .int 24), (0, .ref a0), (1, .int n0)]) hx hb dX11_write_2 rfl hl (by decide) rfl (fun ls hl => ?_)
  refine lv_iload_n hx hb dX11_write_3 rfl (lv_at hl 0 rfl) ?_
  refine lv_if_lt (tgt := 51) hx hb dX11_write_4 (by decide) (fun c_1 => ?_) (fun c_1 => ?_)
  ·
    exact absurd c_1 (by decide)
  ·
    refine lv_aload_n hx hb dX11_write_7 rfl (lv_at hl 1 rfl) ?_
    refine va_get (D := G.1) (ci := 11) (v := .int 4) (C := RX11) (T := TX11) (N := 17) hx hb hts inG_X11 hown hK hP 0 rfl rfl 10 (by decide) (hts _ fl_X11_74) (fun _ h9 => h9) rfl dX11_write_8 ?_
    refine lv_aload_n hx hb dX11_write_11 rfl (lv_at hl 1 rfl) ?_
    refine va_get (D := G.1) (ci := 11) (v := .ref a10) (C := RX11) (T := TX11) (N := 17) hx hb hts inG_X11 hown hK hP 0 rfl rfl 9 (by decide) (hts _ fl_X11_70) (fun _ h9 => h9) rfl dX11_write_12 ?_
    refine va_alen hx hb hK hP 1 0 rfl rfl (v := 400) (by show Int32.ofNat 400 = 400; decide) dX11_write_15 ?_
    refine lv_icmp_ge (tgt := 51) hx hb dX11_write_16 (by decide) (fun c_2 => ?_) (fun c_2 => ?_)
    ·
      exact absurd c_2 (by decide)
    ·
      refine lv_aload_n hx hb dX11_write_19 rfl (lv_at hl 1 rfl) ?_
      refine va_get (D := G.1) (ci := 11) (v := .ref a10) (C := RX11) (T := TX11) (N := 17) hx hb hts inG_X11 hown hK hP 0 rfl rfl 9 (by decide) (hts _ fl_X11_70) (fun _ h9 => h9) rfl dX11_write_20 ?_
      refine lv_aload_n hx hb dX11_write_23 rfl (lv_at hl 1 rfl) ?_
      refine va_get (D := G.1) (ci := 11) (v := .int 4) (C := RX11) (T := TX11) (N := 17) hx hb hts inG_X11 hown hK hP 0 rfl rfl 10 (by decide) (hts _ fl_X11_74) (fun _ h9 => h9) rfl dX11_write_24 ?_
      refine lv_iload_n hx hb dX11_write_27 rfl (lv_at hl 2 rfl) ?_
      refine lv_iload_n hx hb dX11_write_28 rfl (lv_at hl 0 rfl) ?_
      refine lv_iushr (v := ((n0.toUInt32 >>> ((24 : Int32).toUInt32 &&& Int32.toUInt32 31)).toInt32)) hx hb dX11_write_29 rfl ?_
      refine lv_sipush (v := 255) hx hb dX11_write_30 (by decide) ?_
      refine lv_iand hx hb dX11_write_33 ?_
      refine va_iast hx hb hK hP hD hS 1 0 rfl rfl (i := 4) (x := (((n0.toUInt32 >>> ((24 : Int32).toUInt32 &&& Int32.toUInt32 31)).toInt32) &&& 255)) (by unfold vp_in; decide) dX11_write_34 (fun H locs hP hD hS => ?_)
      have hP : va_P G.1 vwCl [(a0, .inr (11, [.ref a1, .ref a2, .ref a3, .ref a4, .ref a5, .ref a6, .ref a7, .ref a8, .ref a9, .ref a10, .int 4, .int 0, .int (-1), .ref a11, .int 0, .ref a12, .int 0])), (a10, .inl (G.2 0, 400, .inl (upd f0 4 (((n0.toUInt32 >>> ((24 : Int32).toUInt32 &&& Int32.toUInt32 31)).toInt32) &&& 255))))] H := hP
      have hD : va_D A [(a0, .inr (11, [.ref a1, .ref a2, .ref a3, .ref a4, .ref a5, .ref a6, .ref a7, .ref a8, .ref a9, .ref a10, .int 4, .int 0, .int (-1), .ref a11, .int 0, .ref a12, .int 0])), (a10, .inl (G.2 0, 400, .inl (upd f0 4 (((n0.toUInt32 >>> ((24 : Int32).toUInt32 &&& Int32.toUInt32 31)).toInt32) &&& 255))))] := hD
      refine lv_aload_n hx hb dX11_write_35 rfl (lv_at hl 1 rfl) ?_
      refine lv_dup hx hb dX11_write_36 rfl ?_
      refine va_get (D := G.1) (ci := 11) (v := .int 4) (C := RX11) (T := TX11) (N := 17) hx hb hts inG_X11 hown hK hP 0 rfl rfl 10 (by decide) (hts _ fl_X11_74) (fun _ h9 => h9) rfl dX11_write_37 ?_
      refine lv_iconst (v := 1) hx hb dX11_write_40 (by decide) ?_
      refine lv_iadd hx hb dX11_write_41 ?_
      refine g5_ti (v := 5) (by decide) ?_
      refine va_put (D := G.1) (ci := 11) (v := .int 5) (ty := .int) (C := RX11) (T := TX11) (N := 17) hx hb hts inG_X11 tyX11 tyX11_ok nmX11 hown hK hP hD hS 0 rfl rfl 10 (by decide) (hts _ fl_X11_74) (fun _ h9 => h9) rfl (by decide +kernel) rfl rfl (Nat.le_of_ble_eq_true rfl) dX11_write_42 (fun H locs hP hD hS => ?_)
      have hP : va_P G.1 vwCl [(a0, .inr (11, [.ref a1, .ref a2, .ref a3, .ref a4, .ref a5, .ref a6, .ref a7, .ref a8, .ref a9, .ref a10, .int 5, .int 0, .int (-1), .ref a11, .int 0, .ref a12, .int 0])), (a10, .inl (G.2 0, 400, .inl (upd f0 4 (((n0.toUInt32 >>> ((24 : Int32).toUInt32 &&& Int32.toUInt32 31)).toInt32) &&& 255))))] H := hP
      have hD : va_D A [(a0, .inr (11, [.ref a1, .ref a2, .ref a3, .ref a4, .ref a5, .ref a6, .ref a7, .ref a8, .ref a9, .ref a10, .int 5, .int 0, .int (-1), .ref a11, .int 0, .ref a12, .int 0])), (a10, .inl (G.2 0, 400, .inl (upd f0 4 (((n0.toUInt32 >>> ((24 : Int32).toUInt32 &&& Int32.toUInt32 31)).toInt32) &&& 255))))] := hD
      refine lv_iinc (v := 16) (lv' := [(2, .int 16), (0, .ref a0), (1, .int n0)]) hx hb dX11_write_45 hl (k := 0) rfl (by decide) (by decide) rfl (fun ls hl => ?_)
      refine lv_goto (tgt := 3) hx hb dX11_write_48 (by decide) ?_
      refine lv_iload_n hx hb dX11_write_3 rfl (lv_at hl 0 rfl) ?_
      refine lv_if_lt (tgt := 51) hx hb dX11_write_4 (by decide) (fun c_3 => ?_) (fun c_3 => ?_)
      ·
        exact absurd c_3 (by decide)
      ·
        refine lv_aload_n hx hb dX11_write_7 rfl (lv_at hl 1 rfl) ?_
        refine va_get (D := G.1) (ci := 11) (v := .int 5) (C := RX11) (T := TX11) (N := 17) hx hb hts inG_X11 hown hK hP 0 rfl rfl 10 (by decide) (hts _ fl_X11_74) (fun _ h9 => h9) rfl dX11_write_8 ?_
        refine lv_aload_n hx hb dX11_write_11 rfl (lv_at hl 1 rfl) ?_
        refine va_get (D := G.1) (ci := 11) (v := .ref a10) (C := RX11) (T := TX11) (N := 17) hx hb hts inG_X11 hown hK hP 0 rfl rfl 9 (by decide) (hts _ fl_X11_70) (fun _ h9 => h9) rfl dX11_write_12 ?_
        refine va_alen hx hb hK hP 1 0 rfl rfl (v := 400) (by show Int32.ofNat 400 = 400; decide) dX11_write_15 ?_
        refine lv_icmp_ge (tgt := 51) hx hb dX11_write_16 (by decide) (fun c_4 => ?_) (fun c_4 => ?_)
        ·
          exact absurd c_4 (by decide)
        ·
          refine lv_aload_n hx hb dX11_write_19 rfl (lv_at hl 1 rfl) ?_
          refine va_get (D := G.1) (ci := 11) (v := .ref a10) (C := RX11) (T := TX11) (N := 17) hx hb hts inG_X11 hown hK hP 0 rfl rfl 9 (by decide) (hts _ fl_X11_70) (fun _ h9 => h9) rfl dX11_write_20 ?_
          refine lv_aload_n hx hb dX11_write_23 rfl (lv_at hl 1 rfl) ?_
          refine va_get (D := G.1) (ci := 11) (v := .int 5) (C := RX11) (T := TX11) (N := 17) hx hb hts inG_X11 hown hK hP 0 rfl rfl 10 (by decide) (hts _ fl_X11_74) (fun _ h9 => h9) rfl dX11_write_24 ?_
          refine lv_iload_n hx hb dX11_write_27 rfl (lv_at hl 2 rfl) ?_
          refine lv_iload_n hx hb dX11_write_28 rfl (lv_at hl 0 rfl) ?_
          refine lv_iushr (v := ((n0.toUInt32 >>> ((16 : Int32).toUInt32 &&& Int32.toUInt32 31)).toInt32)) hx hb dX11_write_29 rfl ?_
          refine lv_sipush (v := 255) hx hb dX11_write_30 (by decide) ?_
          refine lv_iand hx hb dX11_write_33 ?_
          refine va_iast hx hb hK hP hD hS 1 0 rfl rfl (i := 5) (x := (((n0.toUInt32 >>> ((16 : Int32).toUInt32 &&& Int32.toUInt32 31)).toInt32) &&& 255)) (by unfold vp_in; decide) dX11_write_34 (fun H locs hP hD hS => ?_)
          have hP : va_P G.1 vwCl [(a0, .inr (11, [.ref a1, .ref a2, .ref a3, .ref a4, .ref a5, .ref a6, .ref a7, .ref a8, .ref a9, .ref a10, .int 5, .int 0, .int (-1), .ref a11, .int 0, .ref a12, .int 0])), (a10, .inl (G.2 0, 400, .inl (upd (upd f0 4 (((n0.toUInt32 >>> ((24 : Int32).toUInt32 &&& Int32.toUInt32 31)).toInt32) &&& 255)) 5 (((n0.toUInt32 >>> ((16 : Int32).toUInt32 &&& Int32.toUInt32 31)).toInt32) &&& 255))))] H := hP
          have hD : va_D A [(a0, .inr (11, [.ref a1, .ref a2, .ref a3, .ref a4, .ref a5, .ref a6, .ref a7, .ref a8, .ref a9, .ref a10, .int 5, .int 0, .int (-1), .ref a11, .int 0, .ref a12, .int 0])), (a10, .inl (G.2 0, 400, .inl (upd (upd f0 4 (((n0.toUInt32 >>> ((24 : Int32).toUInt32 &&& Int32.toUInt32 31)).toInt32) &&& 255)) 5 (((n0.toUInt32 >>> ((16 : Int32).toUInt32 &&& Int32.toUInt32 31)).toInt32) &&& 255))))] := hD
          refine lv_aload_n hx hb dX11_write_35 rfl (lv_at hl 1 rfl) ?_
          refine lv_dup hx hb dX11_write_36 rfl ?_
          refine va_get (D := G.1) (ci := 11) (v := .int 5) (C := RX11) (T := TX11) (N := 17) hx hb hts inG_X11 hown hK hP 0 rfl rfl 10 (by decide) (hts _ fl_X11_74) (fun _ h9 => h9) rfl dX11_write_37 ?_
          refine lv_iconst (v := 1) hx hb dX11_write_40 (by decide) ?_
          refine lv_iadd hx hb dX11_write_41 ?_
          refine g5_ti (v := 6) (by decide) ?_
          refine va_put (D := G.1) (ci := 11) (v := .int 6) (ty := .int) (C := RX11) (T := TX11) (N := 17) hx hb hts inG_X11 tyX11 tyX11_ok nmX11 hown hK hP hD hS 0 rfl rfl 10 (by decide) (hts _ fl_X11_74) (fun _ h9 => h9) rfl (by decide +kernel) rfl rfl (Nat.le_of_ble_eq_true rfl) dX11_write_42 (fun H locs hP hD hS => ?_)
          have hP : va_P G.1 vwCl [(a0, .inr (11, [.ref a1, .ref a2, .ref a3, .ref a4, .ref a5, .ref a6, .ref a7, .ref a8, .ref a9, .ref a10, .int 6, .int 0, .int (-1), .ref a11, .int 0, .ref a12, .int 0])), (a10, .inl (G.2 0, 400, .inl (upd (upd f0 4 (((n0.toUInt32 >>> ((24 : Int32).toUInt32 &&& Int32.toUInt32 31)).toInt32) &&& 255)) 5 (((n0.toUInt32 >>> ((16 : Int32).toUInt32 &&& Int32.toUInt32 31)).toInt32) &&& 255))))] H := hP
          have hD : va_D A [(a0, .inr (11, [.ref a1, .ref a2, .ref a3, .ref a4, .ref a5, .ref a6, .ref a7, .ref a8, .ref a9, .ref a10, .int 6, .int 0, .int (-1), .ref a11, .int 0, .ref a12, .int 0])), (a10, .inl (G.2 0, 400, .inl (upd (upd f0 4 (((n0.toUInt32 >>> ((24 : Int32).toUInt32 &&& Int32.toUInt32 31)).toInt32) &&& 255)) 5 (((n0.toUInt32 >>> ((16 : Int32).toUInt32 &&& Int32.toUInt32 31)).toInt32) &&& 255))))] := hD
          refine lv_iinc (v := 8) (lv' := [(2, .int 8), (0, .ref a0), (1, .int n0)]) hx hb dX11_write_45 hl (k := 0) rfl (by decide) (by decide) rfl (fun ls hl => ?_)
          refine lv_goto (tgt := 3) hx hb dX11_write_48 (by decide) ?_
          refine lv_iload_n hx hb dX11_write_3 rfl (lv_at hl 0 rfl) ?_
          refine lv_if_lt (tgt := 51) hx hb dX11_write_4 (by decide) (fun c_5 => ?_) (fun c_5 => ?_)
          ·
            exact absurd c_5 (by decide)
          ·
            refine lv_aload_n hx hb dX11_write_7 rfl (lv_at hl 1 rfl) ?_
            refine va_get (D := G.1) (ci := 11) (v := .int 6) (C := RX11) (T := TX11) (N := 17) hx hb hts inG_X11 hown hK hP 0 rfl rfl 10 (by decide) (hts _ fl_X11_74) (fun _ h9 => h9) rfl dX11_write_8 ?_
            refine lv_aload_n hx hb dX11_write_11 rfl (lv_at hl 1 rfl) ?_
            refine va_get (D := G.1) (ci := 11) (v := .ref a10) (C := RX11) (T := TX11) (N := 17) hx hb hts inG_X11 hown hK hP 0 rfl rfl 9 (by decide) (hts _ fl_X11_70) (fun _ h9 => h9) rfl dX11_write_12 ?_
            refine va_alen hx hb hK hP 1 0 rfl rfl (v := 400) (by show Int32.ofNat 400 = 400; decide) dX11_write_15 ?_
            refine lv_icmp_ge (tgt := 51) hx hb dX11_write_16 (by decide) (fun c_6 => ?_) (fun c_6 => ?_)
            ·
              exact absurd c_6 (by decide)
            ·
              refine lv_aload_n hx hb dX11_write_19 rfl (lv_at hl 1 rfl) ?_
              refine va_get (D := G.1) (ci := 11) (v := .ref a10) (C := RX11) (T := TX11) (N := 17) hx hb hts inG_X11 hown hK hP 0 rfl rfl 9 (by decide) (hts _ fl_X11_70) (fun _ h9 => h9) rfl dX11_write_20 ?_
              refine lv_aload_n hx hb dX11_write_23 rfl (lv_at hl 1 rfl) ?_
              refine va_get (D := G.1) (ci := 11) (v := .int 6) (C := RX11) (T := TX11) (N := 17) hx hb hts inG_X11 hown hK hP 0 rfl rfl 10 (by decide) (hts _ fl_X11_74) (fun _ h9 => h9) rfl dX11_write_24 ?_
              refine lv_iload_n hx hb dX11_write_27 rfl (lv_at hl 2 rfl) ?_
              refine lv_iload_n hx hb dX11_write_28 rfl (lv_at hl 0 rfl) ?_
              refine lv_iushr (v := ((n0.toUInt32 >>> ((8 : Int32).toUInt32 &&& Int32.toUInt32 31)).toInt32)) hx hb dX11_write_29 rfl ?_
              refine lv_sipush (v := 255) hx hb dX11_write_30 (by decide) ?_
              refine lv_iand hx hb dX11_write_33 ?_
              refine va_iast hx hb hK hP hD hS 1 0 rfl rfl (i := 6) (x := (((n0.toUInt32 >>> ((8 : Int32).toUInt32 &&& Int32.toUInt32 31)).toInt32) &&& 255)) (by unfold vp_in; decide) dX11_write_34 (fun H locs hP hD hS => ?_)
              have hP : va_P G.1 vwCl [(a0, .inr (11, [.ref a1, .ref a2, .ref a3, .ref a4, .ref a5, .ref a6, .ref a7, .ref a8, .ref a9, .ref a10, .int 6, .int 0, .int (-1), .ref a11, .int 0, .ref a12, .int 0])), (a10, .inl (G.2 0, 400, .inl (upd (upd (upd f0 4 (((n0.toUInt32 >>> ((24 : Int32).toUInt32 &&& Int32.toUInt32 31)).toInt32) &&& 255)) 5 (((n0.toUInt32 >>> ((16 : Int32).toUInt32 &&& Int32.toUInt32 31)).toInt32) &&& 255)) 6 (((n0.toUInt32 >>> ((8 : Int32).toUInt32 &&& Int32.toUInt32 31)).toInt32) &&& 255))))] H := hP
              have hD : va_D A [(a0, .inr (11, [.ref a1, .ref a2, .ref a3, .ref a4, .ref a5, .ref a6, .ref a7, .ref a8, .ref a9, .ref a10, .int 6, .int 0, .int (-1), .ref a11, .int 0, .ref a12, .int 0])), (a10, .inl (G.2 0, 400, .inl (upd (upd (upd f0 4 (((n0.toUInt32 >>> ((24 : Int32).toUInt32 &&& Int32.toUInt32 31)).toInt32) &&& 255)) 5 (((n0.toUInt32 >>> ((16 : Int32).toUInt32 &&& Int32.toUInt32 31)).toInt32) &&& 255)) 6 (((n0.toUInt32 >>> ((8 : Int32).toUInt32 &&& Int32.toUInt32 31)).toInt32) &&& 255))))] := hD
              refine lv_aload_n hx hb dX11_write_35 rfl (lv_at hl 1 rfl) ?_
              refine lv_dup hx hb dX11_write_36 rfl ?_
              refine va_get (D := G.1) (ci := 11) (v := .int 6) (C := RX11) (T := TX11) (N := 17) hx hb hts inG_X11 hown hK hP 0 rfl rfl 10 (by decide) (hts _ fl_X11_74) (fun _ h9 => h9) rfl dX11_write_37 ?_
              refine lv_iconst (v := 1) hx hb dX11_write_40 (by decide) ?_
              refine lv_iadd hx hb dX11_write_41 ?_
              refine g5_ti (v := 7) (by decide) ?_
              refine va_put (D := G.1) (ci := 11) (v := .int 7) (ty := .int) (C := RX11) (T := TX11) (N := 17) hx hb hts inG_X11 tyX11 tyX11_ok nmX11 hown hK hP hD hS 0 rfl rfl 10 (by decide) (hts _ fl_X11_74) (fun _ h9 => h9) rfl (by decide +kernel) rfl rfl (Nat.le_of_ble_eq_true rfl) dX11_write_42 (fun H locs hP hD hS => ?_)
              have hP : va_P G.1 vwCl [(a0, .inr (11, [.ref a1, .ref a2, .ref a3, .ref a4, .ref a5, .ref a6, .ref a7, .ref a8, .ref a9, .ref a10, .int 7, .int 0, .int (-1), .ref a11, .int 0, .ref a12, .int 0])), (a10, .inl (G.2 0, 400, .inl (upd (upd (upd f0 4 (((n0.toUInt32 >>> ((24 : Int32).toUInt32 &&& Int32.toUInt32 31)).toInt32) &&& 255)) 5 (((n0.toUInt32 >>> ((16 : Int32).toUInt32 &&& Int32.toUInt32 31)).toInt32) &&& 255)) 6 (((n0.toUInt32 >>> ((8 : Int32).toUInt32 &&& Int32.toUInt32 31)).toInt32) &&& 255))))] H := hP
              have hD : va_D A [(a0, .inr (11, [.ref a1, .ref a2, .ref a3, .ref a4, .ref a5, .ref a6, .ref a7, .ref a8, .ref a9, .ref a10, .int 7, .int 0, .int (-1), .ref a11, .int 0, .ref a12, .int 0])), (a10, .inl (G.2 0, 400, .inl (upd (upd (upd f0 4 (((n0.toUInt32 >>> ((24 : Int32).toUInt32 &&& Int32.toUInt32 31)).toInt32) &&& 255)) 5 (((n0.toUInt32 >>> ((16 : Int32).toUInt32 &&& Int32.toUInt32 31)).toInt32) &&& 255)) 6 (((n0.toUInt32 >>> ((8 : Int32).toUInt32 &&& Int32.toUInt32 31)).toInt32) &&& 255))))] := hD
              refine lv_iinc (v := 0) (lv' := [(2, .int 0), (0, .ref a0), (1, .int n0)]) hx hb dX11_write_45 hl (k := 0) rfl (by decide) (by decide) rfl (fun ls hl => ?_)
              refine lv_goto (tgt := 3) hx hb dX11_write_48 (by decide) ?_
              refine lv_iload_n hx hb dX11_write_3 rfl (lv_at hl 0 rfl) ?_
              refine lv_if_lt (tgt := 51) hx hb dX11_write_4 (by decide) (fun c_7 => ?_) (fun c_7 => ?_)
              ·
                exact absurd c_7 (by decide)
              ·
                refine lv_aload_n hx hb dX11_write_7 rfl (lv_at hl 1 rfl) ?_
                refine va_get (D := G.1) (ci := 11) (v := .int 7) (C := RX11) (T := TX11) (N := 17) hx hb hts inG_X11 hown hK hP 0 rfl rfl 10 (by decide) (hts _ fl_X11_74) (fun _ h9 => h9) rfl dX11_write_8 ?_
                refine lv_aload_n hx hb dX11_write_11 rfl (lv_at hl 1 rfl) ?_
                refine va_get (D := G.1) (ci := 11) (v := .ref a10) (C := RX11) (T := TX11) (N := 17) hx hb hts inG_X11 hown hK hP 0 rfl rfl 9 (by decide) (hts _ fl_X11_70) (fun _ h9 => h9) rfl dX11_write_12 ?_
                refine va_alen hx hb hK hP 1 0 rfl rfl (v := 400) (by show Int32.ofNat 400 = 400; decide) dX11_write_15 ?_
                refine lv_icmp_ge (tgt := 51) hx hb dX11_write_16 (by decide) (fun c_8 => ?_) (fun c_8 => ?_)
                ·
                  exact absurd c_8 (by decide)
                ·
                  refine lv_aload_n hx hb dX11_write_19 rfl (lv_at hl 1 rfl) ?_
                  refine va_get (D := G.1) (ci := 11) (v := .ref a10) (C := RX11) (T := TX11) (N := 17) hx hb hts inG_X11 hown hK hP 0 rfl rfl 9 (by decide) (hts _ fl_X11_70) (fun _ h9 => h9) rfl dX11_write_20 ?_
                  refine lv_aload_n hx hb dX11_write_23 rfl (lv_at hl 1 rfl) ?_
                  refine va_get (D := G.1) (ci := 11) (v := .int 7) (C := RX11) (T := TX11) (N := 17) hx hb hts inG_X11 hown hK hP 0 rfl rfl 10 (by decide) (hts _ fl_X11_74) (fun _ h9 => h9) rfl dX11_write_24 ?_
                  refine lv_iload_n hx hb dX11_write_27 rfl (lv_at hl 2 rfl) ?_
                  refine lv_iload_n hx hb dX11_write_28 rfl (lv_at hl 0 rfl) ?_
                  refine lv_iushr (v := ((n0.toUInt32 >>> ((0 : Int32).toUInt32 &&& Int32.toUInt32 31)).toInt32)) hx hb dX11_write_29 rfl ?_
                  refine lv_sipush (v := 255) hx hb dX11_write_30 (by decide) ?_
                  refine lv_iand hx hb dX11_write_33 ?_
                  refine va_iast hx hb hK hP hD hS 1 0 rfl rfl (i := 7) (x := (((n0.toUInt32 >>> ((0 : Int32).toUInt32 &&& Int32.toUInt32 31)).toInt32) &&& 255)) (by unfold vp_in; decide) dX11_write_34 (fun H locs hP hD hS => ?_)
                  have hP : va_P G.1 vwCl [(a0, .inr (11, [.ref a1, .ref a2, .ref a3, .ref a4, .ref a5, .ref a6, .ref a7, .ref a8, .ref a9, .ref a10, .int 7, .int 0, .int (-1), .ref a11, .int 0, .ref a12, .int 0])), (a10, .inl (G.2 0, 400, .inl (upd (upd (upd (upd f0 4 (((n0.toUInt32 >>> ((24 : Int32).toUInt32 &&& Int32.toUInt32 31)).toInt32) &&& 255)) 5 (((n0.toUInt32 >>> ((16 : Int32).toUInt32 &&& Int32.toUInt32 31)).toInt32) &&& 255)) 6 (((n0.toUInt32 >>> ((8 : Int32).toUInt32 &&& Int32.toUInt32 31)).toInt32) &&& 255)) 7 (((n0.toUInt32 >>> ((0 : Int32).toUInt32 &&& Int32.toUInt32 31)).toInt32) &&& 255))))] H := hP
                  have hD : va_D A [(a0, .inr (11, [.ref a1, .ref a2, .ref a3, .ref a4, .ref a5, .ref a6, .ref a7, .ref a8, .ref a9, .ref a10, .int 7, .int 0, .int (-1), .ref a11, .int 0, .ref a12, .int 0])), (a10, .inl (G.2 0, 400, .inl (upd (upd (upd (upd f0 4 (((n0.toUInt32 >>> ((24 : Int32).toUInt32 &&& Int32.toUInt32 31)).toInt32) &&& 255)) 5 (((n0.toUInt32 >>> ((16 : Int32).toUInt32 &&& Int32.toUInt32 31)).toInt32) &&& 255)) 6 (((n0.toUInt32 >>> ((8 : Int32).toUInt32 &&& Int32.toUInt32 31)).toInt32) &&& 255)) 7 (((n0.toUInt32 >>> ((0 : Int32).toUInt32 &&& Int32.toUInt32 31)).toInt32) &&& 255))))] := hD
                  refine lv_aload_n hx hb dX11_write_35 rfl (lv_at hl 1 rfl) ?_
                  refine lv_dup hx hb dX11_write_36 rfl ?_
                  refine va_get (D := G.1) (ci := 11) (v := .int 7) (C := RX11) (T := TX11) (N := 17) hx hb hts inG_X11 hown hK hP 0 rfl rfl 10 (by decide) (hts _ fl_X11_74) (fun _ h9 => h9) rfl dX11_write_37 ?_
                  refine lv_iconst (v := 1) hx hb dX11_write_40 (by decide) ?_
                  refine lv_iadd hx hb dX11_write_41 ?_
                  refine g5_ti (v := 8) (by decide) ?_
                  refine va_put (D := G.1) (ci := 11) (v := .int 8) (ty := .int) (C := RX11) (T := TX11) (N := 17) hx hb hts inG_X11 tyX11 tyX11_ok nmX11 hown hK hP hD hS 0 rfl rfl 10 (by decide) (hts _ fl_X11_74) (fun _ h9 => h9) rfl (by decide +kernel) rfl rfl (Nat.le_of_ble_eq_true rfl) dX11_write_42 (fun H locs hP hD hS => ?_)
                  have hP : va_P G.1 vwCl [(a0, .inr (11, [.ref a1, .ref a2, .ref a3, .ref a4, .ref a5, .ref a6, .ref a7, .ref a8, .ref a9, .ref a10, .int 8, .int 0, .int (-1), .ref a11, .int 0, .ref a12, .int 0])), (a10, .inl (G.2 0, 400, .inl (upd (upd (upd (upd f0 4 (((n0.toUInt32 >>> ((24 : Int32).toUInt32 &&& Int32.toUInt32 31)).toInt32) &&& 255)) 5 (((n0.toUInt32 >>> ((16 : Int32).toUInt32 &&& Int32.toUInt32 31)).toInt32) &&& 255)) 6 (((n0.toUInt32 >>> ((8 : Int32).toUInt32 &&& Int32.toUInt32 31)).toInt32) &&& 255)) 7 (((n0.toUInt32 >>> ((0 : Int32).toUInt32 &&& Int32.toUInt32 31)).toInt32) &&& 255))))] H := hP
                  have hD : va_D A [(a0, .inr (11, [.ref a1, .ref a2, .ref a3, .ref a4, .ref a5, .ref a6, .ref a7, .ref a8, .ref a9, .ref a10, .int 8, .int 0, .int (-1), .ref a11, .int 0, .ref a12, .int 0])), (a10, .inl (G.2 0, 400, .inl (upd (upd (upd (upd f0 4 (((n0.toUInt32 >>> ((24 : Int32).toUInt32 &&& Int32.toUInt32 31)).toInt32) &&& 255)) 5 (((n0.toUInt32 >>> ((16 : Int32).toUInt32 &&& Int32.toUInt32 31)).toInt32) &&& 255)) 6 (((n0.toUInt32 >>> ((8 : Int32).toUInt32 &&& Int32.toUInt32 31)).toInt32) &&& 255)) 7 (((n0.toUInt32 >>> ((0 : Int32).toUInt32 &&& Int32.toUInt32 31)).toInt32) &&& 255))))] := hD
                  refine lv_iinc (v := (-8)) (lv' := [(2, .int (-8)), (0, .ref a0), (1, .int n0)]) hx hb dX11_write_45 hl (k := 0) rfl (by decide) (by decide) rfl (fun ls hl => ?_)
                  refine lv_goto (tgt := 3) hx hb dX11_write_48 (by decide) ?_
                  refine lv_iload_n hx hb dX11_write_3 rfl (lv_at hl 0 rfl) ?_
                  refine lv_if_lt (tgt := 51) hx hb dX11_write_4 (by decide) (fun c_9 => ?_) (fun c_9 => ?_)
                  ·
                    exact W.vret hx hb hr (fun t ht hW => ⟨⟨[(a0, .inr (11, [.ref a1, .ref a2, .ref a3, .ref a4, .ref a5, .ref a6, .ref a7, .ref a8, .ref a9, .ref a10, .int 8, .int 0, .int (-1), .ref a11, .int 0, .ref a12, .int 0])), (a10, .inl (G.2 0, 400, .inl (upd (upd (upd (upd f0 4 (((n0.toUInt32 >>> ((24 : Int32).toUInt32 &&& Int32.toUInt32 31)).toInt32) &&& 255)) 5 (((n0.toUInt32 >>> ((16 : Int32).toUInt32 &&& Int32.toUInt32 31)).toInt32) &&& 255)) 6 (((n0.toUInt32 >>> ((8 : Int32).toUInt32 &&& Int32.toUInt32 31)).toInt32) &&& 255)) 7 (((n0.toUInt32 >>> ((0 : Int32).toUInt32 &&& Int32.toUInt32 31)).toInt32) &&& 255))))], rfl, rfl, by rw [ht]; exact hP, hD⟩, hS.F ht⟩) hS.2.2 dX11_write_51
                  ·
                    exact absurd c_9 (by decide)
set_option maxHeartbeats 4000000 in
set_option maxRecDepth 100000 in
theorem kX11_write_3 (l : Launch) (G : g5_G) (a0 a1 a2 a3 a4 a5 a6 a7 a8 a9 a10 a11 a12 : Nat) (sz : Nat) (n0 : Int32) (f0 : Nat → Int32) : Met l yX11_write (wsG yX11_write cX11_write 3 none) ({ frames := 0, cells := 0, slots := 0, locals := 0 }) (va_Pc [.ref a0, .int n0] (g5_P G [(a0, .inr (11, [.ref a1, .ref a2, .ref a3, .ref a4, .ref a5, .ref a6, .ref a7, .ref a8, .ref a9, .ref a10, .int 8, .int 0, .int (-1), .ref a11, .int 0, .ref a12, .int 0])), (a10, .inl (G.2 0, 400, .inl f0))] sz)) (va_Qv (fun (u : va_W) => ((u = [(a0, .inr (11, [.ref a1, .ref a2, .ref a3, .ref a4, .ref a5, .ref a6, .ref a7, .ref a8, .ref a9, .ref a10, .int 12, .int 0, .int (-1), .ref a11, .int 0, .ref a12, .int 0])), (a10, .inl (G.2 0, 400, .inl (upd (upd (upd (upd f0 8 (((n0.toUInt32 >>> ((24 : Int32).toUInt32 &&& Int32.toUInt32 31)).toInt32) &&& 255)) 9 (((n0.toUInt32 >>> ((16 : Int32).toUInt32 &&& Int32.toUInt32 31)).toInt32) &&& 255)) 10 (((n0.toUInt32 >>> ((8 : Int32).toUInt32 &&& Int32.toUInt32 31)).toInt32) &&& 255)) 11 (((n0.toUInt32 >>> ((0 : Int32).toUInt32 &&& Int32.toUInt32 31)).toInt32) &&& 255))))]))) (g5_B G (va_A [(a0, .inr (11, [.ref a1, .ref a2, .ref a3, .ref a4, .ref a5, .ref a6, .ref a7, .ref a8, .ref a9, .ref a10, .int 8, .int 0, .int (-1), .ref a11, .int 0, .ref a12, .int 0])), (a10, .inl (G.2 0, 400, .inl f0))] sz)) (va_A [(a0, .inr (11, [.ref a1, .ref a2, .ref a3, .ref a4, .ref a5, .ref a6, .ref a7, .ref a8, .ref a9, .ref a10, .int 8, .int 0, .int (-1), .ref a11, .int 0, .ref a12, .int 0])), (a10, .inl (G.2 0, 400, .inl f0))] sz)) 0 0 (va_A [(a0, .inr (11, [.ref a1, .ref a2, .ref a3, .ref a4, .ref a5, .ref a6, .ref a7, .ref a8, .ref a9, .ref a10, .int 8, .int 0, .int (-1), .ref a11, .int 0, .ref a12, .int 0])), (a10, .inl (G.2 0, 400, .inl f0))] sz) := by
  refine Met.ofW (cc := cX11_write) (maxL := 3) (ret := none) (by decide) rfl ?_
  intro p e s m args below meth c s₁ B hml hv
  obtain ⟨rfl, hsz, hP, hK, hD0, hN, hT⟩ := hv
  have hx := B.exec
  have hb := B.bytes
  have hr := B.returns
  have hts : ∀ w ∈ tblG, w.before _ s = true := fun w h => atoms_spec (ws := (wsG yX11_write cX11_write 3 none)) B.pre w (List.mem_cons_of_mem _ h)
  have hown : s.vm.findClass RX11 = some m.cls := findClass_of_methodNamed B.named
  have hlocks := B.notSynchronized
  subst hsz
  have hD := hD0.self (sz := s.heap.size)
  generalize hAe : va_A [(a0, .inr (11, [.ref a1, .ref a2, .ref a3, .ref a4, .ref a5, .ref a6, .ref a7, .ref a8, .ref a9, .ref a10, .int 8, .int 0, .int (-1), .ref a11, .int 0, .ref a12, .int 0])), (a10, .inl (G.2 0, 400, .inl f0))] s.heap.size = A at hD hT ⊢
  have hA : ∀ q : Nat, s.heap.size ≤ q → A q := fun q h => by rw [← hAe]; exact Or.inr h
  have hS : va_S A s.heap s.heap [] := va_S.rf
  have hP : va_P G.1 vwCl [(a0, .inr (11, [.ref a1, .ref a2, .ref a3, .ref a4, .ref a5, .ref a6, .ref a7, .ref a8, .ref a9, .ref a10, .int 8, .int 0, .int (-1), .ref a11, .int 0, .ref a12, .int 0])), (a10, .inl (G.2 0, 400, .inl f0))] s.heap := hP
  have hl := lv_entry ([.ref a0, .int n0]) (n := 3) (Nat.le_of_ble_eq_true rfl)
  rw [lg_entry_eq]
  generalize (lg_sl ([.ref a0, .int n0]) ++ List.replicate (3 - (lg_sl ([.ref a0, .int n0])).length) Slot.unset).toArray = ls at hl ⊢
  have hl : lv_has ls 3 [(0, .ref a0), (1, .int n0)] := hl
  refine lv_bipush (v := 24) hx hb dX11_write_0 (by decide) ?_
  refine lv_istore_n (lv' := [(2, .int 24), (0, .ref a0), (1, .int n0)]) hx hb dX11_write_2 rfl hl (by decide) rfl (fun ls hl => ?_)
  refine lv_iload_n hx hb dX11_write_3 rfl (lv_at hl 0 rfl) ?_
  refine lv_if_lt (tgt := 51) hx hb dX11_write_4 (by decide) (fun c_1 => ?_) (fun c_1 => ?_)
  ·
    exact absurd c_1 (by decide)
  ·
    refine lv_aload_n hx hb dX11_write_7 rfl (lv_at hl 1 rfl) ?_
    refine va_get (D := G.1) (ci := 11) (v := .int 8) (C := RX11) (T := TX11) (N := 17) hx hb hts inG_X11 hown hK hP 0 rfl rfl 10 (by decide) (hts _ fl_X11_74) (fun _ h9 => h9) rfl dX11_write_8 ?_
    refine lv_aload_n hx hb dX11_write_11 rfl (lv_at hl 1 rfl) ?_
    refine va_get (D := G.1) (ci := 11) (v := .ref a10) (C := RX11) (T := TX11) (N := 17) hx hb hts inG_X11 hown hK hP 0 rfl rfl 9 (by decide) (hts _ fl_X11_70) (fun _ h9 => h9) rfl dX11_write_12 ?_
    refine va_alen hx hb hK hP 1 0 rfl rfl (v := 400) (by show Int32.ofNat 400 = 400; decide) dX11_write_15 ?_
    refine lv_icmp_ge (tgt := 51) hx hb dX11_write_16 (by decide) (fun c_2 => ?_) (fun c_2 => ?_)
    ·
      exact absurd c_2 (by decide)
    ·
      refine lv_aload_n hx hb dX11_write_19 rfl (lv_at hl 1 rfl) ?_
      refine va_get (D := G.1) (ci := 11) (v := .ref a10) (C := RX11) (T := TX11) (N := 17) hx hb hts inG_X11 hown hK hP 0 rfl rfl 9 (by decide) (hts _ fl_X11_70) (fun _ h9 => h9) rfl dX11_write_20 ?_
      refine lv_aload_n hx hb dX11_write_23 rfl (lv_at hl 1 rfl) ?_
      refine va_get (D := G.1) (ci := 11) (v := .int 8) (C := RX11) (T := TX11) (N := 17) hx hb hts inG_X11 hown hK hP 0 rfl rfl 10 (by decide) (hts _ fl_X11_74) (fun _ h9 => h9) rfl dX11_write_24 ?_
      refine lv_iload_n hx hb dX11_write_27 rfl (lv_at hl 2 rfl) ?_
      refine lv_iload_n hx hb dX11_write_28 rfl (lv_at hl 0 rfl) ?_
      refine lv_iushr (v := ((n0.toUInt32 >>> ((24 : Int32).toUInt32 &&& Int32.toUInt32 31)).toInt32)) hx hb dX11_write_29 rfl ?_
      refine lv_sipush (v := 255) hx hb dX11_write_30 (by decide) ?_
      refine lv_iand hx hb dX11_write_33 ?_
      refine va_iast hx hb hK hP hD hS 1 0 rfl rfl (i := 8) (x := (((n0.toUInt32 >>> ((24 : Int32).toUInt32 &&& Int32.toUInt32 31)).toInt32) &&& 255)) (by unfold vp_in; decide) dX11_write_34 (fun H locs hP hD hS => ?_)
      have hP : va_P G.1 vwCl [(a0, .inr (11, [.ref a1, .ref a2, .ref a3, .ref a4, .ref a5, .ref a6, .ref a7, .ref a8, .ref a9, .ref a10, .int 8, .int 0, .int (-1), .ref a11, .int 0, .ref a12, .int 0])), (a10, .inl (G.2 0, 400, .inl (upd f0 8 (((n0.toUInt32 >>> ((24 : Int32).toUInt32 &&& Int32.toUInt32 31)).toInt32) &&& 255))))] H := hP
      have hD : va_D A [(a0, .inr (11, [.ref a1, .ref a2, .ref a3, .ref a4, .ref a5, .ref a6, .ref a7, .ref a8, .ref a9, .ref a10, .int 8, .int 0, .int (-1), .ref a11, .int 0, .ref a12, .int 0])), (a10, .inl (G.2 0, 400, .inl (upd f0 8 (((n0.toUInt32 >>> ((24 : Int32).toUInt32 &&& Int32.toUInt32 31)).toInt32) &&& 255))))] := hD
      refine lv_aload_n hx hb dX11_write_35 rfl (lv_at hl 1 rfl) ?_
      refine lv_dup hx hb dX11_write_36 rfl ?_
      refine va_get (D := G.1) (ci := 11) (v := .int 8) (C := RX11) (T := TX11) (N := 17) hx hb hts inG_X11 hown hK hP 0 rfl rfl 10 (by decide) (hts _ fl_X11_74) (fun _ h9 => h9) rfl dX11_write_37 ?_
      refine lv_iconst (v := 1) hx hb dX11_write_40 (by decide) ?_
      refine lv_iadd hx hb dX11_write_41 ?_
      refine g5_ti (v := 9) (by decide) ?_
      refine va_put (D := G.1) (ci := 11) (v := .int 9) (ty := .int) (C := RX11) (T := TX11) (N := 17) hx hb hts inG_X11 tyX11 tyX11_ok nmX11 hown hK hP hD hS 0 rfl rfl 10 (by decide) (hts _ fl_X11_74) (fun _ h9 => h9) rfl (by decide +kernel) rfl rfl (Nat.le_of_ble_eq_true rfl) dX11_write_42 (fun H locs hP hD hS => ?_)
      have hP : va_P G.1 vwCl [(a0, .inr (11, [.ref a1, .ref a2, .ref a3, .ref a4, .ref a5, .ref a6, .ref a7, .ref a8, .ref a9, .ref a10, .int 9, .int 0, .int (-1), .ref a11, .int 0, .ref a12, .int 0])), (a10, .inl (G.2 0, 400, .inl (upd f0 8 (((n0.toUInt32 >>> ((24 : Int32).toUInt32 &&& Int32.toUInt32 31)).toInt32) &&& 255))))] H := hP
      have hD : va_D A [(a0, .inr (11, [.ref a1, .ref a2, .ref a3, .ref a4, .ref a5, .ref a6, .ref a7, .ref a8, .ref a9, .ref a10, .int 9, .int 0, .int (-1), .ref a11, .int 0, .ref a12, .int 0])), (a10, .inl (G.2 0, 400, .inl (upd f0 8 (((n0.toUInt32 >>> ((24 : Int32).toUInt32 &&& Int32.toUInt32 31)).toInt32) &&& 255))))] := hD
      refine lv_iinc (v := 16) (lv' := [(2, .int 16), (0, .ref a0), (1, .int n0)]) hx hb dX11_write_45 hl (k := 0) rfl (by decide) (by decide) rfl (fun ls hl => ?_)
      refine lv_goto (tgt := 3) hx hb dX11_write_48 (by decide) ?_
      refine lv_iload_n hx hb dX11_write_3 rfl (lv_at hl 0 rfl) ?_
      refine lv_if_lt (tgt := 51) hx hb dX11_write_4 (by decide) (fun c_3 => ?_) (fun c_3 => ?_)
      ·
        exact absurd c_3 (by decide)
      ·
        refine lv_aload_n hx hb dX11_write_7 rfl (lv_at hl 1 rfl) ?_
        refine va_get (D := G.1) (ci := 11) (v := .int 9) (C := RX11) (T := TX11) (N := 17) hx hb hts inG_X11 hown hK hP 0 rfl rfl 10 (by decide) (hts _ fl_X11_74) (fun _ h9 => h9) rfl dX11_write_8 ?_
        refine lv_aload_n hx hb dX11_write_11 rfl (lv_at hl 1 rfl) ?_
        refine va_get (D := G.1) (ci := 11) (v := .ref a10) (C := RX11) (T := TX11) (N := 17) hx hb hts inG_X11 hown hK hP 0 rfl rfl 9 (by decide) (hts _ fl_X11_70) (fun _ h9 => h9) rfl dX11_write_12 ?_
        refine va_alen hx hb hK hP 1 0 rfl rfl (v := 400) (by show Int32.ofNat 400 = 400; decide) dX11_write_15 ?_
        refine lv_icmp_ge (tgt := 51) hx hb dX11_write_16 (by decide) (fun c_4 => ?_) (fun c_4 => ?_)
        ·
          exact absurd c_4 (by decide)
        ·
          refine lv_aload_n hx hb dX11_write_19 rfl (lv_at hl 1 rfl) ?_
          refine va_get (D := G.1) (ci := 11) (v := .ref a10) (C := RX11) (T := TX11) (N := 17) hx hb hts inG_X11 hown hK hP 0 rfl rfl 9 (by decide) (hts _ fl_X11_70) (fun _ h9 => h9) rfl dX11_write_20 ?_
          refine lv_aload_n hx hb dX11_write_23 rfl (lv_at hl 1 rfl) ?_
          refine va_get (D := G.1) (ci := 11) (v := .int 9) (C := RX11) (T := TX11) (N := 17) hx hb hts inG_X11 hown hK hP 0 rfl rfl 10 (by decide) (hts _ fl_X11_74) (fun _ h9 => h9) rfl dX11_write_24 ?_
          refine lv_iload_n hx hb dX11_write_27 rfl (lv_at hl 2 rfl) ?_
          refine lv_iload_n hx hb dX11_write_28 rfl (lv_at hl 0 rfl) ?_
          refine lv_iushr (v := ((n0.toUInt32 >>> ((16 : Int32).toUInt32 &&& Int32.toUInt32 31)).toInt32)) hx hb dX11_write_29 rfl ?_
          refine lv_sipush (v := 255) hx hb dX11_write_30 (by decide) ?_
          refine lv_iand hx hb dX11_write_33 ?_
          refine va_iast hx hb hK hP hD hS 1 0 rfl rfl (i := 9) (x := (((n0.toUInt32 >>> ((16 : Int32).toUInt32 &&& Int32.toUInt32 31)).toInt32) &&& 255)) (by unfold vp_in; decide) dX11_write_34 (fun H locs hP hD hS => ?_)
          have hP : va_P G.1 vwCl [(a0, .inr (11, [.ref a1, .ref a2, .ref a3, .ref a4, .ref a5, .ref a6, .ref a7, .ref a8, .ref a9, .ref a10, .int 9, .int 0, .int (-1), .ref a11, .int 0, .ref a12, .int 0])), (a10, .inl (G.2 0, 400, .inl (upd (upd f0 8 (((n0.toUInt32 >>> ((24 : Int32).toUInt32 &&& Int32.toUInt32 31)).toInt32) &&& 255)) 9 (((n0.toUInt32 >>> ((16 : Int32).toUInt32 &&& Int32.toUInt32 31)).toInt32) &&& 255))))] H := hP
          have hD : va_D A [(a0, .inr (11, [.ref a1, .ref a2, .ref a3, .ref a4, .ref a5, .ref a6, .ref a7, .ref a8, .ref a9, .ref a10, .int 9, .int 0, .int (-1), .ref a11, .int 0, .ref a12, .int 0])), (a10, .inl (G.2 0, 400, .inl (upd (upd f0 8 (((n0.toUInt32 >>> ((24 : Int32).toUInt32 &&& Int32.toUInt32 31)).toInt32) &&& 255)) 9 (((n0.toUInt32 >>> ((16 : Int32).toUInt32 &&& Int32.toUInt32 31)).toInt32) &&& 255))))] := hD
          refine lv_aload_n hx hb dX11_write_35 rfl (lv_at hl 1 rfl) ?_
          refine lv_dup hx hb dX11_write_36 rfl ?_
          refine va_get (D := G.1) (ci := 11) (v := .int 9) (C := RX11) (T := TX11) (N := 17) hx hb hts inG_X11 hown hK hP 0 rfl rfl 10 (by decide) (hts _ fl_X11_74) (fun _ h9 => h9) rfl dX11_write_37 ?_
          refine lv_iconst (v := 1) hx hb dX11_write_40 (by decide) ?_
          refine lv_iadd hx hb dX11_write_41 ?_
          refine g5_ti (v := 10) (by decide) ?_
          refine va_put (D := G.1) (ci := 11) (v := .int 10) (ty := .int) (C := RX11) (T := TX11) (N := 17) hx hb hts inG_X11 tyX11 tyX11_ok nmX11 hown hK hP hD hS 0 rfl rfl 10 (by decide) (hts _ fl_X11_74) (fun _ h9 => h9) rfl (by decide +kernel) rfl rfl (Nat.le_of_ble_eq_true rfl) dX11_write_42 (fun H locs hP hD hS => ?_)
          have hP : va_P G.1 vwCl [(a0, .inr (11, [.ref a1, .ref a2, .ref a3, .ref a4, .ref a5, .ref a6, .ref a7, .ref a8, .ref a9, .ref a10, .int 10, .int 0, .int (-1), .ref a11, .int 0, .ref a12, .int 0])), (a10, .inl (G.2 0, 400, .inl (upd (upd f0 8 (((n0.toUInt32 >>> ((24 : Int32).toUInt32 &&& Int32.toUInt32 31)).toInt32) &&& 255)) 9 (((n0.toUInt32 >>> ((16 : Int32).toUInt32 &&& Int32.toUInt32 31)).toInt32) &&& 255))))] H := hP
          have hD : va_D A [(a0, .inr (11, [.ref a1, .ref a2, .ref a3, .ref a4, .ref a5, .ref a6, .ref a7, .ref a8, .ref a9, .ref a10, .int 10, .int 0, .int (-1), .ref a11, .int 0, .ref a12, .int 0])), (a10, .inl (G.2 0, 400, .inl (upd (upd f0 8 (((n0.toUInt32 >>> ((24 : Int32).toUInt32 &&& Int32.toUInt32 31)).toInt32) &&& 255)) 9 (((n0.toUInt32 >>> ((16 : Int32).toUInt32 &&& Int32.toUInt32 31)).toInt32) &&& 255))))] := hD
          refine lv_iinc (v := 8) (lv' := [(2, .int 8), (0, .ref a0), (1, .int n0)]) hx hb dX11_write_45 hl (k := 0) rfl (by decide) (by decide) rfl (fun ls hl => ?_)
          refine lv_goto (tgt := 3) hx hb dX11_write_48 (by decide) ?_
          refine lv_iload_n hx hb dX11_write_3 rfl (lv_at hl 0 rfl) ?_
          refine lv_if_lt (tgt := 51) hx hb dX11_write_4 (by decide) (fun c_5 => ?_) (fun c_5 => ?_)
          ·
            exact absurd c_5 (by decide)
          ·
            refine lv_aload_n hx hb dX11_write_7 rfl (lv_at hl 1 rfl) ?_
            refine va_get (D := G.1) (ci := 11) (v := .int 10) (C := RX11) (T := TX11) (N := 17) hx hb hts inG_X11 hown hK hP 0 rfl rfl 10 (by decide) (hts _ fl_X11_74) (fun _ h9 => h9) rfl dX11_write_8 ?_
            refine lv_aload_n hx hb dX11_write_11 rfl (lv_at hl 1 rfl) ?_
            refine va_get (D := G.1) (ci := 11) (v := .ref a10) (C := RX11) (T := TX11) (N := 17) hx hb hts inG_X11 hown hK hP 0 rfl rfl 9 (by decide) (hts _ fl_X11_70) (fun _ h9 => h9) rfl dX11_write_12 ?_
            refine va_alen hx hb hK hP 1 0 rfl rfl (v := 400) (by show Int32.ofNat 400 = 400; decide) dX11_write_15 ?_
            refine lv_icmp_ge (tgt := 51) hx hb dX11_write_16 (by decide) (fun c_6 => ?_) (fun c_6 => ?_)
            ·
              exact absurd c_6 (by decide)
            ·
              refine lv_aload_n hx hb dX11_write_19 rfl (lv_at hl 1 rfl) ?_
              refine va_get (D := G.1) (ci := 11) (v := .ref a10) (C := RX11) (T := TX11) (N := 17) hx hb hts inG_X11 hown hK hP 0 rfl rfl 9 (by decide) (hts _ fl_X11_70) (fun _ h9 => h9) rfl dX11_write_20 ?_
              refine lv_aload_n hx hb dX11_write_23 rfl (lv_at hl 1 rfl) ?_
              refine va_get (D := G.1) (ci := 11) (v := .int 10) (C := RX11) (T := TX11) (N := 17) hx hb hts inG_X11 hown hK hP 0 rfl rfl 10 (by decide) (hts _ fl_X11_74) (fun _ h9 => h9) rfl dX11_write_24 ?_
              refine lv_iload_n hx hb dX11_write_27 rfl (lv_at hl 2 rfl) ?_
              refine lv_iload_n hx hb dX11_write_28 rfl (lv_at hl 0 rfl) ?_
              refine lv_iushr (v := ((n0.toUInt32 >>> ((8 : Int32).toUInt32 &&& Int32.toUInt32 31)).toInt32)) hx hb dX11_write_29 rfl ?_
              refine lv_sipush (v := 255) hx hb dX11_write_30 (by decide) ?_
              refine lv_iand hx hb dX11_write_33 ?_
              refine va_iast hx hb hK hP hD hS 1 0 rfl rfl (i := 10) (x := (((n0.toUInt32 >>> ((8 : Int32).toUInt32 &&& Int32.toUInt32 31)).toInt32) &&& 255)) (by unfold vp_in; decide) dX11_write_34 (fun H locs hP hD hS => ?_)
              have hP : va_P G.1 vwCl [(a0, .inr (11, [.ref a1, .ref a2, .ref a3, .ref a4, .ref a5, .ref a6, .ref a7, .ref a8, .ref a9, .ref a10, .int 10, .int 0, .int (-1), .ref a11, .int 0, .ref a12, .int 0])), (a10, .inl (G.2 0, 400, .inl (upd (upd (upd f0 8 (((n0.toUInt32 >>> ((24 : Int32).toUInt32 &&& Int32.toUInt32 31)).toInt32) &&& 255)) 9 (((n0.toUInt32 >>> ((16 : Int32).toUInt32 &&& Int32.toUInt32 31)).toInt32) &&& 255)) 10 (((n0.toUInt32 >>> ((8 : Int32).toUInt32 &&& Int32.toUInt32 31)).toInt32) &&& 255))))] H := hP
              have hD : va_D A [(a0, .inr (11, [.ref a1, .ref a2, .ref a3, .ref a4, .ref a5, .ref a6, .ref a7, .ref a8, .ref a9, .ref a10, .int 10, .int 0, .int (-1), .ref a11, .int 0, .ref a12, .int 0])), (a10, .inl (G.2 0, 400, .inl (upd (upd (upd f0 8 (((n0.toUInt32 >>> ((24 : Int32).toUInt32 &&& Int32.toUInt32 31)).toInt32) &&& 255)) 9 (((n0.toUInt32 >>> ((16 : Int32).toUInt32 &&& Int32.toUInt32 31)).toInt32) &&& 255)) 10 (((n0.toUInt32 >>> ((8 : Int32).toUInt32 &&& Int32.toUInt32 31)).toInt32) &&& 255))))] := hD
              refine lv_aload_n hx hb dX11_write_35 rfl (lv_at hl 1 rfl) ?_
              refine lv_dup hx hb dX11_write_36 rfl ?_
              refine va_get (D := G.1) (ci := 11) (v := .int 10) (C := RX11) (T := TX11) (N := 17) hx hb hts inG_X11 hown hK hP 0 rfl rfl 10 (by decide) (hts _ fl_X11_74) (fun _ h9 => h9) rfl dX11_write_37 ?_
              refine lv_iconst (v := 1) hx hb dX11_write_40 (by decide) ?_
              refine lv_iadd hx hb dX11_write_41 ?_
              refine g5_ti (v := 11) (by decide) ?_
              refine va_put (D := G.1) (ci := 11) (v := .int 11) (ty := .int) (C := RX11) (T := TX11) (N := 17) hx hb hts inG_X11 tyX11 tyX11_ok nmX11 hown hK hP hD hS 0 rfl rfl 10 (by decide) (hts _ fl_X11_74) (fun _ h9 => h9) rfl (by decide +kernel) rfl rfl (Nat.le_of_ble_eq_true rfl) dX11_write_42 (fun H locs hP hD hS => ?_)
              have hP : va_P G.1 vwCl [(a0, .inr (11, [.ref a1, .ref a2, .ref a3, .ref a4, .ref a5, .ref a6, .ref a7, .ref a8, .ref a9, .ref a10, .int 11, .int 0, .int (-1), .ref a11, .int 0, .ref a12, .int 0])), (a10, .inl (G.2 0, 400, .inl (upd (upd (upd f0 8 (((n0.toUInt32 >>> ((24 : Int32).toUInt32 &&& Int32.toUInt32 31)).toInt32) &&& 255)) 9 (((n0.toUInt32 >>> ((16 : Int32).toUInt32 &&& Int32.toUInt32 31)).toInt32) &&& 255)) 10 (((n0.toUInt32 >>> ((8 : Int32).toUInt32 &&& Int32.toUInt32 31)).toInt32) &&& 255))))] H := hP
              have hD : va_D A [(a0, .inr (11, [.ref a1, .ref a2, .ref a3, .ref a4, .ref a5, .ref a6, .ref a7, .ref a8, .ref a9, .ref a10, .int 11, .int 0, .int (-1), .ref a11, .int 0, .ref a12, .int 0])), (a10, .inl (G.2 0, 400, .inl (upd (upd (upd f0 8 (((n0.toUInt32 >>> ((24 : Int32).toUInt32 &&& Int32.toUInt32 31)).toInt32) &&& 255)) 9 (((n0.toUInt32 >>> ((16 : Int32).toUInt32 &&& Int32.toUInt32 31)).toInt32) &&& 255)) 10 (((n0.toUInt32 >>> ((8 : Int32).toUInt32 &&& Int32.toUInt32 31)).toInt32) &&& 255))))] := hD
              refine lv_iinc (v := 0) (lv' := [(2, .int 0), (0, .ref a0), (1, .int n0)]) hx hb dX11_write_45 hl (k := 0) rfl (by decide) (by decide) rfl (fun ls hl => ?_)
              refine lv_goto (tgt := 3) hx hb dX11_write_48 (by decide) ?_
              refine lv_iload_n hx hb dX11_write_3 rfl (lv_at hl 0 rfl) ?_
              refine lv_if_lt (tgt := 51) hx hb dX11_write_4 (by decide) (fun c_7 => ?_) (fun c_7 => ?_)
              ·
                exact absurd c_7 (by decide)
              ·
                refine lv_aload_n hx hb dX11_write_7 rfl (lv_at hl 1 rfl) ?_
                refine va_get (D := G.1) (ci := 11) (v := .int 11) (C := RX11) (T := TX11) (N := 17) hx hb hts inG_X11 hown hK hP 0 rfl rfl 10 (by decide) (hts _ fl_X11_74) (fun _ h9 => h9) rfl dX11_write_8 ?_
                refine lv_aload_n hx hb dX11_write_11 rfl (lv_at hl 1 rfl) ?_
                refine va_get (D := G.1) (ci := 11) (v := .ref a10) (C := RX11) (T := TX11) (N := 17) hx hb hts inG_X11 hown hK hP 0 rfl rfl 9 (by decide) (hts _ fl_X11_70) (fun _ h9 => h9) rfl dX11_write_12 ?_
                refine va_alen hx hb hK hP 1 0 rfl rfl (v := 400) (by show Int32.ofNat 400 = 400; decide) dX11_write_15 ?_
                refine lv_icmp_ge (tgt := 51) hx hb dX11_write_16 (by decide) (fun c_8 => ?_) (fun c_8 => ?_)
                ·
                  exact absurd c_8 (by decide)
                ·
                  refine lv_aload_n hx hb dX11_write_19 rfl (lv_at hl 1 rfl) ?_
                  refine va_get (D := G.1) (ci := 11) (v := .ref a10) (C := RX11) (T := TX11) (N := 17) hx hb hts inG_X11 hown hK hP 0 rfl rfl 9 (by decide) (hts _ fl_X11_70) (fun _ h9 => h9) rfl dX11_write_20 ?_
                  refine lv_aload_n hx hb dX11_write_23 rfl (lv_at hl 1 rfl) ?_
                  refine va_get (D := G.1) (ci := 11) (v := .int 11) (C := RX11) (T := TX11) (N := 17) hx hb hts inG_X11 hown hK hP 0 rfl rfl 10 (by decide) (hts _ fl_X11_74) (fun _ h9 => h9) rfl dX11_write_24 ?_
                  refine lv_iload_n hx hb dX11_write_27 rfl (lv_at hl 2 rfl) ?_
                  refine lv_iload_n hx hb dX11_write_28 rfl (lv_at hl 0 rfl) ?_
                  refine lv_iushr (v := ((n0.toUInt32 >>> ((0 : Int32).toUInt32 &&& Int32.toUInt32 31)).toInt32)) hx hb dX11_write_29 rfl ?_
                  refine lv_sipush (v := 255) hx hb dX11_write_30 (by decide) ?_
                  refine lv_iand hx hb dX11_write_33 ?_
                  refine va_iast hx hb hK hP hD hS 1 0 rfl rfl (i := 11) (x := (((n0.toUInt32 >>> ((0 : Int32).toUInt32 &&& Int32.toUInt32 31)).toInt32) &&& 255)) (by unfold vp_in; decide) dX11_write_34 (fun H locs hP hD hS => ?_)
                  have hP : va_P G.1 vwCl [(a0, .inr (11, [.ref a1, .ref a2, .ref a3, .ref a4, .ref a5, .ref a6, .ref a7, .ref a8, .ref a9, .ref a10, .int 11, .int 0, .int (-1), .ref a11, .int 0, .ref a12, .int 0])), (a10, .inl (G.2 0, 400, .inl (upd (upd (upd (upd f0 8 (((n0.toUInt32 >>> ((24 : Int32).toUInt32 &&& Int32.toUInt32 31)).toInt32) &&& 255)) 9 (((n0.toUInt32 >>> ((16 : Int32).toUInt32 &&& Int32.toUInt32 31)).toInt32) &&& 255)) 10 (((n0.toUInt32 >>> ((8 : Int32).toUInt32 &&& Int32.toUInt32 31)).toInt32) &&& 255)) 11 (((n0.toUInt32 >>> ((0 : Int32).toUInt32 &&& Int32.toUInt32 31)).toInt32) &&& 255))))] H := hP
                  have hD : va_D A [(a0, .inr (11, [.ref a1, .ref a2, .ref a3, .ref a4, .ref a5, .ref a6, .ref a7, .ref a8, .ref a9, .ref a10, .int 11, .int 0, .int (-1), .ref a11, .int 0, .ref a12, .int 0])), (a10, .inl (G.2 0, 400, .inl (upd (upd (upd (upd f0 8 (((n0.toUInt32 >>> ((24 : Int32).toUInt32 &&& Int32.toUInt32 31)).toInt32) &&& 255)) 9 (((n0.toUInt32 >>> ((16 : Int32).toUInt32 &&& Int32.toUInt32 31)).toInt32) &&& 255)) 10 (((n0.toUInt32 >>> ((8 : Int32).toUInt32 &&& Int32.toUInt32 31)).toInt32) &&& 255)) 11 (((n0.toUInt32 >>> ((0 : Int32).toUInt32 &&& Int32.toUInt32 31)).toInt32) &&& 255))))] := hD
                  refine lv_aload_n hx hb dX11_write_35 rfl (lv_at hl 1 rfl) ?_
                  refine lv_dup hx hb dX11_write_36 rfl ?_
                  refine va_get (D := G.1) (ci := 11) (v := .int 11) (C := RX11) (T := TX11) (N := 17) hx hb hts inG_X11 hown hK hP 0 rfl rfl 10 (by decide) (hts _ fl_X11_74) (fun _ h9 => h9) rfl dX11_write_37 ?_
                  refine lv_iconst (v := 1) hx hb dX11_write_40 (by decide) ?_
                  refine lv_iadd hx hb dX11_write_41 ?_
                  refine g5_ti (v := 12) (by decide) ?_
                  refine va_put (D := G.1) (ci := 11) (v := .int 12) (ty := .int) (C := RX11) (T := TX11) (N := 17) hx hb hts inG_X11 tyX11 tyX11_ok nmX11 hown hK hP hD hS 0 rfl rfl 10 (by decide) (hts _ fl_X11_74) (fun _ h9 => h9) rfl (by decide +kernel) rfl rfl (Nat.le_of_ble_eq_true rfl) dX11_write_42 (fun H locs hP hD hS => ?_)
                  have hP : va_P G.1 vwCl [(a0, .inr (11, [.ref a1, .ref a2, .ref a3, .ref a4, .ref a5, .ref a6, .ref a7, .ref a8, .ref a9, .ref a10, .int 12, .int 0, .int (-1), .ref a11, .int 0, .ref a12, .int 0])), (a10, .inl (G.2 0, 400, .inl (upd (upd (upd (upd f0 8 (((n0.toUInt32 >>> ((24 : Int32).toUInt32 &&& Int32.toUInt32 31)).toInt32) &&& 255)) 9 (((n0.toUInt32 >>> ((16 : Int32).toUInt32 &&& Int32.toUInt32 31)).toInt32) &&& 255)) 10 (((n0.toUInt32 >>> ((8 : Int32).toUInt32 &&& Int32.toUInt32 31)).toInt32) &&& 255)) 11 (((n0.toUInt32 >>> ((0 : Int32).toUInt32 &&& Int32.toUInt32 31)).toInt32) &&& 255))))] H := hP
                  have hD : va_D A [(a0, .inr (11, [.ref a1, .ref a2, .ref a3, .ref a4, .ref a5, .ref a6, .ref a7, .ref a8, .ref a9, .ref a10, .int 12, .int 0, .int (-1), .ref a11, .int 0, .ref a12, .int 0])), (a10, .inl (G.2 0, 400, .inl (upd (upd (upd (upd f0 8 (((n0.toUInt32 >>> ((24 : Int32).toUInt32 &&& Int32.toUInt32 31)).toInt32) &&& 255)) 9 (((n0.toUInt32 >>> ((16 : Int32).toUInt32 &&& Int32.toUInt32 31)).toInt32) &&& 255)) 10 (((n0.toUInt32 >>> ((8 : Int32).toUInt32 &&& Int32.toUInt32 31)).toInt32) &&& 255)) 11 (((n0.toUInt32 >>> ((0 : Int32).toUInt32 &&& Int32.toUInt32 31)).toInt32) &&& 255))))] := hD
                  refine lv_iinc (v := (-8)) (lv' := [(2, .int (-8)), (0, .ref a0), (1, .int n0)]) hx hb dX11_write_45 hl (k := 0) rfl (by decide) (by decide) rfl (fun ls hl => ?_)
                  refine lv_goto (tgt := 3) hx hb dX11_write_48 (by decide) ?_
                  refine lv_iload_n hx hb dX11_write_3 rfl (lv_at hl 0 rfl) ?_
                  refine lv_if_lt (tgt := 51) hx hb dX11_write_4 (by decide) (fun c_9 => ?_) (fun c_9 => ?_)
                  ·
                    exact W.vret hx hb hr (fun t ht hW => ⟨⟨[(a0, .inr (11, [.ref a1, .ref a2, .ref a3, .ref a4, .ref a5, .ref a6, .ref a7, .ref a8, .ref a9, .ref a10, .int 12, .int 0, .int (-1), .ref a11, .int 0, .ref a12, .int 0])), (a10, .inl (G.2 0, 400, .inl (upd (upd (upd (upd f0 8 (((n0.toUInt32 >>> ((24 : Int32).toUInt32 &&& Int32.toUInt32 31)).toInt32) &&& 255)) 9 (((n0.toUInt32 >>> ((16 : Int32).toUInt32 &&& Int32.toUInt32 31)).toInt32) &&& 255)) 10 (((n0.toUInt32 >>> ((8 : Int32).toUInt32 &&& Int32.toUInt32 31)).toInt32) &&& 255)) 11 (((n0.toUInt32 >>> ((0 : Int32).toUInt32 &&& Int32.toUInt32 31)).toInt32) &&& 255))))], rfl, rfl, by rw [ht]; exact hP, hD⟩, hS.F ht⟩) hS.2.2 dX11_write_51
                  ·
                    exact absurd c_9 (by decide)
set_option maxHeartbeats 4000000 in
set_option maxRecDepth 100000 in
theorem kX11_write_4 (l : Launch) (G : g5_G) (a0 a1 a2 a3 a4 a5 a6 a7 a8 a9 a10 a11 a12 : Nat) (sz : Nat) (n0 : Int32) (f0 : Nat → Int32) : Met l yX11_write (wsG yX11_write cX11_write 3 none) ({ frames := 0, cells := 0, slots := 0, locals := 0 }) (va_Pc [.ref a0, .int n0] (g5_P G [(a0, .inr (11, [.ref a1, .ref a2, .ref a3, .ref a4, .ref a5, .ref a6, .ref a7, .ref a8, .ref a9, .ref a10, .int 12, .int 0, .int (-1), .ref a11, .int 0, .ref a12, .int 0])), (a10, .inl (G.2 0, 400, .inl f0))] sz)) (va_Qv (fun (u : va_W) => ((u = [(a0, .inr (11, [.ref a1, .ref a2, .ref a3, .ref a4, .ref a5, .ref a6, .ref a7, .ref a8, .ref a9, .ref a10, .int 16, .int 0, .int (-1), .ref a11, .int 0, .ref a12, .int 0])), (a10, .inl (G.2 0, 400, .inl (upd (upd (upd (upd f0 12 (((n0.toUInt32 >>> ((24 : Int32).toUInt32 &&& Int32.toUInt32 31)).toInt32) &&& 255)) 13 (((n0.toUInt32 >>> ((16 : Int32).toUInt32 &&& Int32.toUInt32 31)).toInt32) &&& 255)) 14 (((n0.toUInt32 >>> ((8 : Int32).toUInt32 &&& Int32.toUInt32 31)).toInt32) &&& 255)) 15 (((n0.toUInt32 >>> ((0 : Int32).toUInt32 &&& Int32.toUInt32 31)).toInt32) &&& 255))))]))) (g5_B G (va_A [(a0, .inr (11, [.ref a1, .ref a2, .ref a3, .ref a4, .ref a5, .ref a6, .ref a7, .ref a8, .ref a9, .ref a10, .int 12, .int 0, .int (-1), .ref a11, .int 0, .ref a12, .int 0])), (a10, .inl (G.2 0, 400, .inl f0))] sz)) (va_A [(a0, .inr (11, [.ref a1, .ref a2, .ref a3, .ref a4, .ref a5, .ref a6, .ref a7, .ref a8, .ref a9, .ref a10, .int 12, .int 0, .int (-1), .ref a11, .int 0, .ref a12, .int 0])), (a10, .inl (G.2 0, 400, .inl f0))] sz)) 0 0 (va_A [(a0, .inr (11, [.ref a1, .ref a2, .ref a3, .ref a4, .ref a5, .ref a6, .ref a7, .ref a8, .ref a9, .ref a10, .int 12, .int 0, .int (-1), .ref a11, .int 0, .ref a12, .int 0])), (a10, .inl (G.2 0, 400, .inl f0))] sz) := by
  refine Met.ofW (cc := cX11_write) (maxL := 3) (ret := none) (by decide) rfl ?_
  intro p e s m args below meth c s₁ B hml hv
  obtain ⟨rfl, hsz, hP, hK, hD0, hN, hT⟩ := hv
  have hx := B.exec
  have hb := B.bytes
  have hr := B.returns
  have hts : ∀ w ∈ tblG, w.before _ s = true := fun w h => atoms_spec (ws := (wsG yX11_write cX11_write 3 none)) B.pre w (List.mem_cons_of_mem _ h)
  have hown : s.vm.findClass RX11 = some m.cls := findClass_of_methodNamed B.named
  have hlocks := B.notSynchronized
  subst hsz
  have hD := hD0.self (sz := s.heap.size)
  generalize hAe : va_A [(a0, .inr (11, [.ref a1, .ref a2, .ref a3, .ref a4, .ref a5, .ref a6, .ref a7, .ref a8, .ref a9, .ref a10, .int 12, .int 0, .int (-1), .ref a11, .int 0, .ref a12, .int 0])), (a10, .inl (G.2 0, 400, .inl f0))] s.heap.size = A at hD hT ⊢
  have hA : ∀ q : Nat, s.heap.size ≤ q → A q := fun q h => by rw [← hAe]; exact Or.inr h
  have hS : va_S A s.heap s.heap [] := va_S.rf
  have hP : va_P G.1 vwCl [(a0, .inr (11, [.ref a1, .ref a2, .ref a3, .ref a4, .ref a5, .ref a6, .ref a7, .ref a8, .ref a9, .ref a10, .int 12, .int 0, .int (-1), .ref a11, .int 0, .ref a12, .int 0])), (a10, .inl (G.2 0, 400, .inl f0))] s.heap := hP
  have hl := lv_entry ([.ref a0, .int n0]) (n := 3) (Nat.le_of_ble_eq_true rfl)
  rw [lg_entry_eq]
  generalize (lg_sl ([.ref a0, .int n0]) ++ List.replicate (3 - (lg_sl ([.ref a0, .int n0])).length) Slot.unset).toArray = ls at hl ⊢
  have hl : lv_has ls 3 [(0, .ref a0), (1, .int n0)] := hl
  refine lv_bipush (v := 24) hx hb dX11_write_0 (by decide) ?_
  refine lv_istore_n (lv' := [(2, .int 24), (0, .ref a0), (1, .int n0)]) hx hb dX11_write_2 rfl hl (by decide) rfl (fun ls hl => ?_)
  refine lv_iload_n hx hb dX11_write_3 rfl (lv_at hl 0 rfl) ?_
  refine lv_if_lt (tgt := 51) hx hb dX11_write_4 (by decide) (fun c_1 => ?_) (fun c_1 => ?_)
  ·
    exact absurd c_1 (by decide)
  ·
    refine lv_aload_n hx hb dX11_write_7 rfl (lv_at hl 1 rfl) ?_
    refine va_get (D := G.1) (ci := 11) (v := .int 12) (C := RX11) (T := TX11) (N := 17) hx hb hts inG_X11 hown hK hP 0 rfl rfl 10 (by decide) (hts _ fl_X11_74) (fun _ h9 => h9) rfl dX11_write_8 ?_
    refine lv_aload_n hx hb dX11_write_11 rfl (lv_at hl 1 rfl) ?_
    refine va_get (D := G.1) (ci := 11) (v := .ref a10) (C := RX11) (T := TX11) (N := 17) hx hb hts inG_X11 hown hK hP 0 rfl rfl 9 (by decide) (hts _ fl_X11_70) (fun _ h9 => h9) rfl dX11_write_12 ?_
    refine va_alen hx hb hK hP 1 0 rfl rfl (v := 400) (by show Int32.ofNat 400 = 400; decide) dX11_write_15 ?_
    refine lv_icmp_ge (tgt := 51) hx hb dX11_write_16 (by decide) (fun c_2 => ?_) (fun c_2 => ?_)
    ·
      exact absurd c_2 (by decide)
    ·
      refine lv_aload_n hx hb dX11_write_19 rfl (lv_at hl 1 rfl) ?_
      refine va_get (D := G.1) (ci := 11) (v := .ref a10) (C := RX11) (T := TX11) (N := 17) hx hb hts inG_X11 hown hK hP 0 rfl rfl 9 (by decide) (hts _ fl_X11_70) (fun _ h9 => h9) rfl dX11_write_20 ?_
      refine lv_aload_n hx hb dX11_write_23 rfl (lv_at hl 1 rfl) ?_
      refine va_get (D := G.1) (ci := 11) (v := .int 12) (C := RX11) (T := TX11) (N := 17) hx hb hts inG_X11 hown hK hP 0 rfl rfl 10 (by decide) (hts _ fl_X11_74) (fun _ h9 => h9) rfl dX11_write_24 ?_
      refine lv_iload_n hx hb dX11_write_27 rfl (lv_at hl 2 rfl) ?_
      refine lv_iload_n hx hb dX11_write_28 rfl (lv_at hl 0 rfl) ?_
      refine lv_iushr (v := ((n0.toUInt32 >>> ((24 : Int32).toUInt32 &&& Int32.toUInt32 31)).toInt32)) hx hb dX11_write_29 rfl ?_
      refine lv_sipush (v := 255) hx hb dX11_write_30 (by decide) ?_
      refine lv_iand hx hb dX11_write_33 ?_
      refine va_iast hx hb hK hP hD hS 1 0 rfl rfl (i := 12) (x := (((n0.toUInt32 >>> ((24 : Int32).toUInt32 &&& Int32.toUInt32 31)).toInt32) &&& 255)) (by unfold vp_in; decide) dX11_write_34 (fun H locs hP hD hS => ?_)
      have hP : va_P G.1 vwCl [(a0, .inr (11, [.ref a1, .ref a2, .ref a3, .ref a4, .ref a5, .ref a6, .ref a7, .ref a8, .ref a9, .ref a10, .int 12, .int 0, .int (-1), .ref a11, .int 0, .ref a12, .int 0])), (a10, .inl (G.2 0, 400, .inl (upd f0 12 (((n0.toUInt32 >>> ((24 : Int32).toUInt32 &&& Int32.toUInt32 31)).toInt32) &&& 255))))] H := hP
      have hD : va_D A [(a0, .inr (11, [.ref a1, .ref a2, .ref a3, .ref a4, .ref a5, .ref a6, .ref a7, .ref a8, .ref a9, .ref a10, .int 12, .int 0, .int (-1), .ref a11, .int 0, .ref a12, .int 0])), (a10, .inl (G.2 0, 400, .inl (upd f0 12 (((n0.toUInt32 >>> ((24 : Int32).toUInt32 &&& Int32.toUInt32 31)).toInt32) &&& 255))))] := hD
      refine lv_aload_n hx hb dX11_write_35 rfl (lv_at hl 1 rfl) ?_
      refine lv_dup hx hb dX11_write_36 rfl ?_
      refine va_get (D := G.1) (ci := 11) (v := .int 12) (C := RX11) (T := TX11) (N := 17) hx hb hts inG_X11 hown hK hP 0 rfl rfl 10 (by decide) (hts _ fl_X11_74) (fun _ h9 => h9) rfl dX11_write_37 ?_
      refine lv_iconst (v := 1) hx hb dX11_write_40 (by decide) ?_
      refine lv_iadd hx hb dX11_write_41 ?_
      refine g5_ti (v := 13) (by decide) ?_
      refine va_put (D := G.1) (ci := 11) (v := .int 13) (ty := .int) (C := RX11) (T := TX11) (N := 17) hx hb hts inG_X11 tyX11 tyX11_ok nmX11 hown hK hP hD hS 0 rfl rfl 10 (by decide) (hts _ fl_X11_74) (fun _ h9 => h9) rfl (by decide +kernel) rfl rfl (Nat.le_of_ble_eq_true rfl) dX11_write_42 (fun H locs hP hD hS => ?_)
      have hP : va_P G.1 vwCl [(a0, .inr (11, [.ref a1, .ref a2, .ref a3, .ref a4, .ref a5, .ref a6, .ref a7, .ref a8, .ref a9, .ref a10, .int 13, .int 0, .int (-1), .ref a11, .int 0, .ref a12, .int 0])), (a10, .inl (G.2 0, 400, .inl (upd f0 12 (((n0.toUInt32 >>> ((24 : Int32).toUInt32 &&& Int32.toUInt32 31)).toInt32) &&& 255))))] H := hP
      have hD : va_D A [(a0, .inr (11, [.ref a1, .ref a2, .ref a3, .ref a4, .ref a5, .ref a6, .ref a7, .ref a8, .ref a9, .ref a10, .int 13, .int 0, .int (-1), .ref a11, .int 0, .ref a12, .int 0])), (a10, .inl (G.2 0, 400, .inl (upd f0 12 (((n0.toUInt32 >>> ((24 : Int32).toUInt32 &&& Int32.toUInt32 31)).toInt32) &&& 255))))] := hD
      refine lv_iinc (v := 16) (lv' := [(2, .int 16), (0, .ref a0), (1, .int n0)]) hx hb dX11_write_45 hl (k := 0) rfl (by decide) (by decide) rfl (fun ls hl => ?_)
      refine lv_goto (tgt := 3) hx hb dX11_write_48 (by decide) ?_
      refine lv_iload_n hx hb dX11_write_3 rfl (lv_at hl 0 rfl) ?_
      refine lv_if_lt (tgt := 51) hx hb dX11_write_4 (by decide) (fun c_3 => ?_) (fun c_3 => ?_)
      ·
        exact absurd c_3 (by decide)
      ·
        refine lv_aload_n hx hb dX11_write_7 rfl (lv_at hl 1 rfl) ?_
        refine va_get (D := G.1) (ci := 11) (v := .int 13) (C := RX11) (T := TX11) (N := 17) hx hb hts inG_X11 hown hK hP 0 rfl rfl 10 (by decide) (hts _ fl_X11_74) (fun _ h9 => h9) rfl dX11_write_8 ?_
        refine lv_aload_n hx hb dX11_write_11 rfl (lv_at hl 1 rfl) ?_
        refine va_get (D := G.1) (ci := 11) (v := .ref a10) (C := RX11) (T := TX11) (N := 17) hx hb hts inG_X11 hown hK hP 0 rfl rfl 9 (by decide) (hts _ fl_X11_70) (fun _ h9 => h9) rfl dX11_write_12 ?_
        refine va_alen hx hb hK hP 1 0 rfl rfl (v := 400) (by show Int32.ofNat 400 = 400; decide) dX11_write_15 ?_
        refine lv_icmp_ge (tgt := 51) hx hb dX11_write_16 (by decide) (fun c_4 => ?_) (fun c_4 => ?_)
        ·
          exact absurd c_4 (by decide)
        ·
          refine lv_aload_n hx hb dX11_write_19 rfl (lv_at hl 1 rfl) ?_
          refine va_get (D := G.1) (ci := 11) (v := .ref a10) (C := RX11) (T := TX11) (N := 17) hx hb hts inG_X11 hown hK hP 0 rfl rfl 9 (by decide) (hts _ fl_X11_70) (fun _ h9 => h9) rfl dX11_write_20 ?_
          refine lv_aload_n hx hb dX11_write_23 rfl (lv_at hl 1 rfl) ?_
          refine va_get (D := G.1) (ci := 11) (v := .int 13) (C := RX11) (T := TX11) (N := 17) hx hb hts inG_X11 hown hK hP 0 rfl rfl 10 (by decide) (hts _ fl_X11_74) (fun _ h9 => h9) rfl dX11_write_24 ?_
          refine lv_iload_n hx hb dX11_write_27 rfl (lv_at hl 2 rfl) ?_
          refine lv_iload_n hx hb dX11_write_28 rfl (lv_at hl 0 rfl) ?_
          refine lv_iushr (v := ((n0.toUInt32 >>> ((16 : Int32).toUInt32 &&& Int32.toUInt32 31)).toInt32)) hx hb dX11_write_29 rfl ?_
          refine lv_sipush (v := 255) hx hb dX11_write_30 (by decide) ?_
          refine lv_iand hx hb dX11_write_33 ?_
          refine va_iast hx hb hK hP hD hS 1 0 rfl rfl (i := 13) (x := (((n0.toUInt32 >>> ((16 : Int32).toUInt32 &&& Int32.toUInt32 31)).toInt32) &&& 255)) (by unfold vp_in; decide) dX11_write_34 (fun H locs hP hD hS => ?_)
          have hP : va_P G.1 vwCl [(a0, .inr (11, [.ref a1, .ref a2, .ref a3, .ref a4, .ref a5, .ref a6, .ref a7, .ref a8, .ref a9, .ref a10, .int 13, .int 0, .int (-1), .ref a11, .int 0, .ref a12, .int 0])), (a10, .inl (G.2 0, 400, .inl (upd (upd f0 12 (((n0.toUInt32 >>> ((24 : Int32).toUInt32 &&& Int32.toUInt32 31)).toInt32) &&& 255)) 13 (((n0.toUInt32 >>> ((16 : Int32).toUInt32 &&& Int32.toUInt32 31)).toInt32) &&& 255))))] H := hP
          have hD : va_D A [(a0, .inr (11, [.ref a1, .ref a2, .ref a3, .ref a4, .ref a5, .ref a6, .ref a7, .ref a8, .ref a9, .ref a10, .int 13, .int 0, .int (-1), .ref a11, .int 0, .ref a12, .int 0])), (a10, .inl (G.2 0, 400, .inl (upd (upd f0 12 (((n0.toUInt32 >>> ((24 : Int32).toUInt32 &&& Int32.toUInt32 31)).toInt32) &&& 255)) 13 (((n0.toUInt32 >>> ((16 : Int32).toUInt32 &&& Int32.toUInt32 31)).toInt32) &&& 255))))] := hD
          refine lv_aload_n hx hb dX11_write_35 rfl (lv_at hl 1 rfl) ?_
          refine lv_dup hx hb dX11_write_36 rfl ?_
          refine va_get (D := G.1) (ci := 11) (v := .int 13) (C := RX11) (T := TX11) (N := 17) hx hb hts inG_X11 hown hK hP 0 rfl rfl 10 (by decide) (hts _ fl_X11_74) (fun _ h9 => h9) rfl dX11_write_37 ?_
          refine lv_iconst (v := 1) hx hb dX11_write_40 (by decide) ?_
          refine lv_iadd hx hb dX11_write_41 ?_
          refine g5_ti (v := 14) (by decide) ?_
          refine va_put (D := G.1) (ci := 11) (v := .int 14) (ty := .int) (C := RX11) (T := TX11) (N := 17) hx hb hts inG_X11 tyX11 tyX11_ok nmX11 hown hK hP hD hS 0 rfl rfl 10 (by decide) (hts _ fl_X11_74) (fun _ h9 => h9) rfl (by decide +kernel) rfl rfl (Nat.le_of_ble_eq_true rfl) dX11_write_42 (fun H locs hP hD hS => ?_)
          have hP : va_P G.1 vwCl [(a0, .inr (11, [.ref a1, .ref a2, .ref a3, .ref a4, .ref a5, .ref a6, .ref a7, .ref a8, .ref a9, .ref a10, .int 14, .int 0, .int (-1), .ref a11, .int 0, .ref a12, .int 0])), (a10, .inl (G.2 0, 400, .inl (upd (upd f0 12 (((n0.toUInt32 >>> ((24 : Int32).toUInt32 &&& Int32.toUInt32 31)).toInt32) &&& 255)) 13 (((n0.toUInt32 >>> ((16 : Int32).toUInt32 &&& Int32.toUInt32 31)).toInt32) &&& 255))))] H := hP
          have hD : va_D A [(a0, .inr (11, [.ref a1, .ref a2, .ref a3, .ref a4, .ref a5, .ref a6, .ref a7, .ref a8, .ref a9, .ref a10, .int 14, .int 0, .int (-1), .ref a11, .int 0, .ref a12, .int 0])), (a10, .inl (G.2 0, 400, .inl (upd (upd f0 12 (((n0.toUInt32 >>> ((24 : Int32).toUInt32 &&& Int32.toUInt32 31)).toInt32) &&& 255)) 13 (((n0.toUInt32 >>> ((16 : Int32).toUInt32 &&& Int32.toUInt32 31)).toInt32) &&& 255))))] := hD
          refine lv_iinc (v := 8) (lv' := [(2, .int 8), (0, .ref a0), (1, .int n0)]) hx hb dX11_write_45 hl (k := 0) rfl (by decide) (by decide) rfl (fun ls hl => ?_)
          refine lv_goto (tgt := 3) hx hb dX11_write_48 (by decide) ?_
          refine lv_iload_n hx hb dX11_write_3 rfl (lv_at hl 0 rfl) ?_
          refine lv_if_lt (tgt := 51) hx hb dX11_write_4 (by decide) (fun c_5 => ?_) (fun c_5 => ?_)
          ·
            exact absurd c_5 (by decide)
          ·
            refine lv_aload_n hx hb dX11_write_7 rfl (lv_at hl 1 rfl) ?_
            refine va_get (D := G.1) (ci := 11) (v := .int 14) (C := RX11) (T := TX11) (N := 17) hx hb hts inG_X11 hown hK hP 0 rfl rfl 10 (by decide) (hts _ fl_X11_74) (fun _ h9 => h9) rfl dX11_write_8 ?_
            refine lv_aload_n hx hb dX11_write_11 rfl (lv_at hl 1 rfl) ?_
            refine va_get (D := G.1) (ci := 11) (v := .ref a10) (C := RX11) (T := TX11) (N := 17) hx hb hts inG_X11 hown hK hP 0 rfl rfl 9 (by decide) (hts _ fl_X11_70) (fun _ h9 => h9) rfl dX11_write_12 ?_
            refine va_alen hx hb hK hP 1 0 rfl rfl (v := 400) (by show Int32.ofNat 400 = 400; decide) dX11_write_15 ?_
            refine lv_icmp_ge (tgt := 51) hx hb dX11_write_16 (by decide) (fun c_6 => ?_) (fun c_6 => ?_)
            ·
              exact absurd c_6 (by decide)
            ·
              refine lv_aload_n hx hb dX11_write_19 rfl (lv_at hl 1 rfl) ?_
              refine va_get (D := G.1) (ci := 11) (v := .ref a10) (C := RX11) (T := TX11) (N := 17) hx hb hts inG_X11 hown hK hP 0 rfl rfl 9 (by decide) (hts _ fl_X11_70) (fun _ h9 => h9) rfl dX11_write_20 ?_
              refine lv_aload_n hx hb dX11_write_23 rfl (lv_at hl 1 rfl) ?_
              refine va_get (D := G.1) (ci := 11) (v := .int 14) (C := RX11) (T := TX11) (N := 17) hx hb hts inG_X11 hown hK hP 0 rfl rfl 10 (by decide) (hts _ fl_X11_74) (fun _ h9 => h9) rfl dX11_write_24 ?_
              refine lv_iload_n hx hb dX11_write_27 rfl (lv_at hl 2 rfl) ?_
              refine lv_iload_n hx hb dX11_write_28 rfl (lv_at hl 0 rfl) ?_
              refine lv_iushr (v := ((n0.toUInt32 >>> ((8 : Int32).toUInt32 &&& Int32.toUInt32 31)).toInt32)) hx hb dX11_write_29 rfl ?_
              refine lv_sipush (v := 255) hx hb dX11_write_30 (by decide) ?_
              refine lv_iand hx hb dX11_write_33 ?_
              refine va_iast hx hb hK hP hD hS 1 0 rfl rfl (i := 14) (x := (((n0.toUInt32 >>> ((8 : Int32).toUInt32 &&& Int32.toUInt32 31)).toInt32) &&& 255)) (by unfold vp_in; decide) dX11_write_34 (fun H locs hP hD hS => ?_)
              have hP : va_P G.1 vwCl [(a0, .inr (11, [.ref a1, .ref a2, .ref a3, .ref a4, .ref a5, .ref a6, .ref a7, .ref a8, .ref a9, .ref a10, .int 14, .int 0, .int (-1), .ref a11, .int 0, .ref a12, .int 0])), (a10, .inl (G.2 0, 400, .inl (upd (upd (upd f0 12 (((n0.toUInt32 >>> ((24 : Int32).toUInt32 &&& Int32.toUInt32 31)).toInt32) &&& 255)) 13 (((n0.toUInt32 >>> ((16 : Int32).toUInt32 &&& Int32.toUInt32 31)).toInt32) &&& 255)) 14 (((n0.toUInt32 >>> ((8 : Int32).toUInt32 &&& Int32.toUInt32 31)).toInt32) &&& 255))))] H := hP
              have hD : va_D A [(a0, .inr (11, [.ref a1, .ref a2, .ref a3, .ref a4, .ref a5, .ref a6, .ref a7, .ref a8, .ref a9, .ref a10, .int 14, .int 0, .int (-1), .ref a11, .int 0, .ref a12, .int 0])), (a10, .inl (G.2 0, 400, .inl (upd (upd (upd f0 12 (((n0.toUInt32 >>> ((24 : Int32).toUInt32 &&& Int32.toUInt32 31)).toInt32) &&& 255)) 13 (((n0.toUInt32 >>> ((16 : Int32).toUInt32 &&& Int32.toUInt32 31)).toInt32) &&& 255)) 14 (((n0.toUInt32 >>> ((8 : Int32).toUInt32 &&& Int32.toUInt32 31)).toInt32) &&& 255))))] := hD
              refine lv_aload_n hx hb dX11_write_35 rfl (lv_at hl 1 rfl) ?_
              refine lv_dup hx hb dX11_write_36 rfl ?_
              refine va_get (D := G.1) (ci := 11) (v := .int 14) (C := RX11) (T := TX11) (N := 17) hx hb hts inG_X11 hown hK hP 0 rfl rfl 10 (by decide) (hts _ fl_X11_74) (fun _ h9 => h9) rfl dX11_write_37 ?_
              refine lv_iconst (v := 1) hx hb dX11_write_40 (by decide) ?_
              refine lv_iadd hx hb dX11_write_41 ?_
              refine g5_ti (v := 15) (by decide) ?_
              refine va_put (D := G.1) (ci := 11) (v := .int 15) (ty := .int) (C := RX11) (T := TX11) (N := 17) hx hb hts inG_X11 tyX11 tyX11_ok nmX11 hown hK hP hD hS 0 rfl rfl 10 (by decide) (hts _ fl_X11_74) (fun _ h9 => h9) rfl (by decide +kernel) rfl rfl (Nat.le_of_ble_eq_true rfl) dX11_write_42 (fun H locs hP hD hS => ?_)
              have hP : va_P G.1 vwCl [(a0, .inr (11, [.ref a1, .ref a2, .ref a3, .ref a4, .ref a5, .ref a6, .ref a7, .ref a8, .ref a9, .ref a10, .int 15, .int 0, .int (-1), .ref a11, .int 0, .ref a12, .int 0])), (a10, .inl (G.2 0, 400, .inl (upd (upd (upd f0 12 (((n0.toUInt32 >>> ((24 : Int32).toUInt32 &&& Int32.toUInt32 31)).toInt32) &&& 255)) 13 (((n0.toUInt32 >>> ((16 : Int32).toUInt32 &&& Int32.toUInt32 31)).toInt32) &&& 255)) 14 (((n0.toUInt32 >>> ((8 : Int32).toUInt32 &&& Int32.toUInt32 31)).toInt32) &&& 255))))] H := hP
              have hD : va_D A [(a0, .inr (11, [.ref a1, .ref a2, .ref a3, .ref a4, .ref a5, .ref a6, .ref a7, .ref a8, .ref a9, .ref a10, .int 15, .int 0, .int (-1), .ref a11, .int 0, .ref a12, .int 0])), (a10, .inl (G.2 0, 400, .inl (upd (upd (upd f0 12 (((n0.toUInt32 >>> ((24 : Int32).toUInt32 &&& Int32.toUInt32 31)).toInt32) &&& 255)) 13 (((n0.toUInt32 >>> ((16 : Int32).toUInt32 &&& Int32.toUInt32 31)).toInt32) &&& 255)) 14 (((n0.toUInt32 >>> ((8 : Int32).toUInt32 &&& Int32.toUInt32 31)).toInt32) &&& 255))))] := hD
              refine lv_iinc (v := 0) (lv' := [(2, .int 0), (0, .ref a0), (1, .int n0)]) hx hb dX11_write_45 hl (k := 0) rfl (by decide) (by decide) rfl (fun ls hl => ?_)
              refine lv_goto (tgt := 3) hx hb dX11_write_48 (by decide) ?_
              refine lv_iload_n hx hb dX11_write_3 rfl (lv_at hl 0 rfl) ?_
              refine lv_if_lt (tgt := 51) hx hb dX11_write_4 (by decide) (fun c_7 => ?_) (fun c_7 => ?_)
              ·
                exact absurd c_7 (by decide)
              ·
                refine lv_aload_n hx hb dX11_write_7 rfl (lv_at hl 1 rfl) ?_
                refine va_get (D := G.1) (ci := 11) (v := .int 15) (C := RX11) (T := TX11) (N := 17) hx hb hts inG_X11 hown hK hP 0 rfl rfl 10 (by decide) (hts _ fl_X11_74) (fun _ h9 => h9) rfl dX11_write_8 ?_
                refine lv_aload_n hx hb dX11_write_11 rfl (lv_at hl 1 rfl) ?_
                refine va_get (D := G.1) (ci := 11) (v := .ref a10) (C := RX11) (T := TX11) (N := 17) hx hb hts inG_X11 hown hK hP 0 rfl rfl 9 (by decide) (hts _ fl_X11_70) (fun _ h9 => h9) rfl dX11_write_12 ?_
                refine va_alen hx hb hK hP 1 0 rfl rfl (v := 400) (by show Int32.ofNat 400 = 400; decide) dX11_write_15 ?_
                refine lv_icmp_ge (tgt := 51) hx hb dX11_write_16 (by decide) (fun c_8 => ?_) (fun c_8 => ?_)
                ·
                  exact absurd c_8 (by decide)
                ·
                  refine lv_aload_n hx hb dX11_write_19 rfl (lv_at hl 1 rfl) ?_
                  refine va_get (D := G.1) (ci := 11) (v := .ref a10) (C := RX11) (T := TX11) (N := 17) hx hb hts inG_X11 hown hK hP 0 rfl rfl 9 (by decide) (hts _ fl_X11_70) (fun _ h9 => h9) rfl dX11_write_20 ?_
                  refine lv_aload_n hx hb dX11_write_23 rfl (lv_at hl 1 rfl) ?_
                  refine va_get (D := G.1) (ci := 11) (v := .int 15) (C := RX11) (T := TX11) (N := 17) hx hb hts inG_X11 hown hK hP 0 rfl rfl 10 (by decide) (hts _ fl_X11_74) (fun _ h9 => h9) rfl dX11_write_24 ?_
                  refine lv_iload_n hx hb dX11_write_27 rfl (lv_at hl 2 rfl) ?_
                  refine lv_iload_n hx hb dX11_write_28 rfl (lv_at hl 0 rfl) ?_
                  refine lv_iushr (v := ((n0.toUInt32 >>> ((0 : Int32).toUInt32 &&& Int32.toUInt32 31)).toInt32)) hx hb dX11_write_29 rfl ?_
                  refine lv_sipush (v := 255) hx hb dX11_write_30 (by decide) ?_
                  refine lv_iand hx hb dX11_write_33 ?_
                  refine va_iast hx hb hK hP hD hS 1 0 rfl rfl (i := 15) (x := (((n0.toUInt32 >>> ((0 : Int32).toUInt32 &&& Int32.toUInt32 31)).toInt32) &&& 255)) (by unfold vp_in; decide) dX11_write_34 (fun H locs hP hD hS => ?_)
                  have hP : va_P G.1 vwCl [(a0, .inr (11, [.ref a1, .ref a2, .ref a3, .ref a4, .ref a5, .ref a6, .ref a7, .ref a8, .ref a9, .ref a10, .int 15, .int 0, .int (-1), .ref a11, .int 0, .ref a12, .int 0])), (a10, .inl (G.2 0, 400, .inl (upd (upd (upd (upd f0 12 (((n0.toUInt32 >>> ((24 : Int32).toUInt32 &&& Int32.toUInt32 31)).toInt32) &&& 255)) 13 (((n0.toUInt32 >>> ((16 : Int32).toUInt32 &&& Int32.toUInt32 31)).toInt32) &&& 255)) 14 (((n0.toUInt32 >>> ((8 : Int32).toUInt32 &&& Int32.toUInt32 31)).toInt32) &&& 255)) 15 (((n0.toUInt32 >>> ((0 : Int32).toUInt32 &&& Int32.toUInt32 31)).toInt32) &&& 255))))] H := hP
                  have hD : va_D A [(a0, .inr (11, [.ref a1, .ref a2, .ref a3, .ref a4, .ref a5, .ref a6, .ref a7, .ref a8, .ref a9, .ref a10, .int 15, .int 0, .int (-1), .ref a11, .int 0, .ref a12, .int 0])), (a10, .inl (G.2 0, 400, .inl (upd (upd (upd (upd f0 12 (((n0.toUInt32 >>> ((24 : Int32).toUInt32 &&& Int32.toUInt32 31)).toInt32) &&& 255)) 13 (((n0.toUInt32 >>> ((16 : Int32).toUInt32 &&& Int32.toUInt32 31)).toInt32) &&& 255)) 14 (((n0.toUInt32 >>> ((8 : Int32).toUInt32 &&& Int32.toUInt32 31)).toInt32) &&& 255)) 15 (((n0.toUInt32 >>> ((0 : Int32).toUInt32 &&& Int32.toUInt32 31)).toInt32) &&& 255))))] := hD
                  refine lv_aload_n hx hb dX11_write_35 rfl (lv_at hl 1 rfl) ?_
                  refine lv_dup hx hb dX11_write_36 rfl ?_
                  refine va_get (D := G.1) (ci := 11) (v := .int 15) (C := RX11) (T := TX11) (N := 17) hx hb hts inG_X11 hown hK hP 0 rfl rfl 10 (by decide) (hts _ fl_X11_74) (fun _ h9 => h9) rfl dX11_write_37 ?_
                  refine lv_iconst (v := 1) hx hb dX11_write_40 (by decide) ?_
                  refine lv_iadd hx hb dX11_write_41 ?_
                  refine g5_ti (v := 16) (by decide) ?_
                  refine va_put (D := G.1) (ci := 11) (v := .int 16) (ty := .int) (C := RX11) (T := TX11) (N := 17) hx hb hts inG_X11 tyX11 tyX11_ok nmX11 hown hK hP hD hS 0 rfl rfl 10 (by decide) (hts _ fl_X11_74) (fun _ h9 => h9) rfl (by decide +kernel) rfl rfl (Nat.le_of_ble_eq_true rfl) dX11_write_42 (fun H locs hP hD hS => ?_)
                  have hP : va_P G.1 vwCl [(a0, .inr (11, [.ref a1, .ref a2, .ref a3, .ref a4, .ref a5, .ref a6, .ref a7, .ref a8, .ref a9, .ref a10, .int 16, .int 0, .int (-1), .ref a11, .int 0, .ref a12, .int 0])), (a10, .inl (G.2 0, 400, .inl (upd (upd (upd (upd f0 12 (((n0.toUInt32 >>> ((24 : Int32).toUInt32 &&& Int32.toUInt32 31)).toInt32) &&& 255)) 13 (((n0.toUInt32 >>> ((16 : Int32).toUInt32 &&& Int32.toUInt32 31)).toInt32) &&& 255)) 14 (((n0.toUInt32 >>> ((8 : Int32).toUInt32 &&& Int32.toUInt32 31)).toInt32) &&& 255)) 15 (((n0.toUInt32 >>> ((0 : Int32).toUInt32 &&& Int32.toUInt32 31)).toInt32) &&& 255))))] H := hP
                  have hD : va_D A [(a0, .inr (11, [.ref a1, .ref a2, .ref a3, .ref a4, .ref a5, .ref a6, .ref a7, .ref a8, .ref a9, .ref a10, .int 16, .int 0, .int (-1), .ref a11, .int 0, .ref a12, .int 0])), (a10, .inl (G.2 0, 400, .inl (upd (upd (upd (upd f0 12 (((n0.toUInt32 >>> ((24 : Int32).toUInt32 &&& Int32.toUInt32 31)).toInt32) &&& 255)) 13 (((n0.toUInt32 >>> ((16 : Int32).toUInt32 &&& Int32.toUInt32 31)).toInt32) &&& 255)) 14 (((n0.toUInt32 >>> ((8 : Int32).toUInt32 &&& Int32.toUInt32 31)).toInt32) &&& 255)) 15 (((n0.toUInt32 >>> ((0 : Int32).toUInt32 &&& Int32.toUInt32 31)).toInt32) &&& 255))))] := hD
                  refine lv_iinc (v := (-8)) (lv' := [(2, .int (-8)), (0, .ref a0), (1, .int n0)]) hx hb dX11_write_45 hl (k := 0) rfl (by decide) (by decide) rfl (fun ls hl => ?_)
                  refine lv_goto (tgt := 3) hx hb dX11_write_48 (by decide) ?_
                  refine lv_iload_n hx hb dX11_write_3 rfl (lv_at hl 0 rfl) ?_
                  refine lv_if_lt (tgt := 51) hx hb dX11_write_4 (by decide) (fun c_9 => ?_) (fun c_9 => ?_)
                  ·
                    exact W.vret hx hb hr (fun t ht hW => ⟨⟨[(a0, .inr (11, [.ref a1, .ref a2, .ref a3, .ref a4, .ref a5, .ref a6, .ref a7, .ref a8, .ref a9, .ref a10, .int 16, .int 0, .int (-1), .ref a11, .int 0, .ref a12, .int 0])), (a10, .inl (G.2 0, 400, .inl (upd (upd (upd (upd f0 12 (((n0.toUInt32 >>> ((24 : Int32).toUInt32 &&& Int32.toUInt32 31)).toInt32) &&& 255)) 13 (((n0.toUInt32 >>> ((16 : Int32).toUInt32 &&& Int32.toUInt32 31)).toInt32) &&& 255)) 14 (((n0.toUInt32 >>> ((8 : Int32).toUInt32 &&& Int32.toUInt32 31)).toInt32) &&& 255)) 15 (((n0.toUInt32 >>> ((0 : Int32).toUInt32 &&& Int32.toUInt32 31)).toInt32) &&& 255))))], rfl, rfl, by rw [ht]; exact hP, hD⟩, hS.F ht⟩) hS.2.2 dX11_write_51
                  ·
                    exact absurd c_9 (by decide)
set_option maxHeartbeats 4000000 in
set_option maxRecDepth 100000 in
theorem kX11_write_5 (l : Launch) (G : g5_G) (a0 a1 a2 a3 a4 a5 a6 a7 a8 a9 a10 a11 a12 : Nat) (sz : Nat) (n0 : Int32) (f0 : Nat → Int32) : Met l yX11_write (wsG yX11_write cX11_write 3 none) ({ frames := 0, cells := 0, slots := 0, locals := 0 }) (va_Pc [.ref a0, .int n0] (g5_P G [(a0, .inr (11, [.ref a1, .ref a2, .ref a3, .ref a4, .ref a5, .ref a6, .ref a7, .ref a8, .ref a9, .ref a10, .int 16, .int 0, .int (-1), .ref a11, .int 0, .ref a12, .int 0])), (a10, .inl (G.2 0, 400, .inl f0))] sz)) (va_Qv (fun (u : va_W) => ((u = [(a0, .inr (11, [.ref a1, .ref a2, .ref a3, .ref a4, .ref a5, .ref a6, .ref a7, .ref a8, .ref a9, .ref a10, .int 20, .int 0, .int (-1), .ref a11, .int 0, .ref a12, .int 0])), (a10, .inl (G.2 0, 400, .inl (upd (upd (upd (upd f0 16 (((n0.toUInt32 >>> ((24 : Int32).toUInt32 &&& Int32.toUInt32 31)).toInt32) &&& 255)) 17 (((n0.toUInt32 >>> ((16 : Int32).toUInt32 &&& Int32.toUInt32 31)).toInt32) &&& 255)) 18 (((n0.toUInt32 >>> ((8 : Int32).toUInt32 &&& Int32.toUInt32 31)).toInt32) &&& 255)) 19 (((n0.toUInt32 >>> ((0 : Int32).toUInt32 &&& Int32.toUInt32 31)).toInt32) &&& 255))))]))) (g5_B G (va_A [(a0, .inr (11, [.ref a1, .ref a2, .ref a3, .ref a4, .ref a5, .ref a6, .ref a7, .ref a8, .ref a9, .ref a10, .int 16, .int 0, .int (-1), .ref a11, .int 0, .ref a12, .int 0])), (a10, .inl (G.2 0, 400, .inl f0))] sz)) (va_A [(a0, .inr (11, [.ref a1, .ref a2, .ref a3, .ref a4, .ref a5, .ref a6, .ref a7, .ref a8, .ref a9, .ref a10, .int 16, .int 0, .int (-1), .ref a11, .int 0, .ref a12, .int 0])), (a10, .inl (G.2 0, 400, .inl f0))] sz)) 0 0 (va_A [(a0, .inr (11, [.ref a1, .ref a2, .ref a3, .ref a4, .ref a5, .ref a6, .ref a7, .ref a8, .ref a9, .ref a10, .int 16, .int 0, .int (-1), .ref a11, .int 0, .ref a12, .int 0])), (a10, .inl (G.2 0, 400, .inl f0))] sz) := by
  refine Met.ofW (cc := cX11_write) (maxL := 3) (ret := none) (by decide) rfl ?_
  intro p e s m args below meth c s₁ B hml hv
  obtain ⟨rfl, hsz, hP, hK, hD0, hN, hT⟩ := hv
  have hx := B.exec
  have hb := B.bytes
  have hr := B.returns
  have hts : ∀ w ∈ tblG, w.before _ s = true := fun w h => atoms_spec (ws := (wsG yX11_write cX11_write 3 none)) B.pre w (List.mem_cons_of_mem _ h)
  have hown : s.vm.findClass RX11 = some m.cls := findClass_of_methodNamed B.named
  have hlocks := B.notSynchronized
  subst hsz
  have hD := hD0.self (sz := s.heap.size)
  generalize hAe : va_A [(a0, .inr (11, [.ref a1, .ref a2, .ref a3, .ref a4, .ref a5, .ref a6, .ref a7, .ref a8, .ref a9, .ref a10, .int 16, .int 0, .int (-1), .ref a11, .int 0, .ref a12, .int 0])), (a10, .inl (G.2 0, 400, .inl f0))] s.heap.size = A at hD hT ⊢
  have hA : ∀ q : Nat, s.heap.size ≤ q → A q := fun q h => by rw [← hAe]; exact Or.inr h
  have hS : va_S A s.heap s.heap [] := va_S.rf
  have hP : va_P G.1 vwCl [(a0, .inr (11, [.ref a1, .ref a2, .ref a3, .ref a4, .ref a5, .ref a6, .ref a7, .ref a8, .ref a9, .ref a10, .int 16, .int 0, .int (-1), .ref a11, .int 0, .ref a12, .int 0])), (a10, .inl (G.2 0, 400, .inl f0))] s.heap := hP
  have hl := lv_entry ([.ref a0, .int n0]) (n := 3) (Nat.le_of_ble_eq_true rfl)
  rw [lg_entry_eq]
  generalize (lg_sl ([.ref a0, .int n0]) ++ List.replicate (3 - (lg_sl ([.ref a0, .int n0])).length) Slot.unset).toArray = ls at hl ⊢
  have hl : lv_has ls 3 [(0, .ref a0), (1, .int n0)] := hl
  refine lv_bipush (v := 24) hx hb dX11_write_0 (by decide) ?_
  refine lv_istore_n (lv' := [(2, .int 24), (0, .ref a0), (1, .int n0)]) hx hb dX11_write_2 rfl hl (by decide) rfl (fun ls hl => ?_)
  refine lv_iload_n hx hb dX11_write_3 rfl (lv_at hl 0 rfl) ?_
  refine lv_if_lt (tgt := 51) hx hb dX11_write_4 (by decide) (fun c_1 => ?_) (fun c_1 => ?_)
  ·
    exact absurd c_1 (by decide)
  ·
    refine lv_aload_n hx hb dX11_write_7 rfl (lv_at hl 1 rfl) ?_
    refine va_get (D := G.1) (ci := 11) (v := .int 16) (C := RX11) (T := TX11) (N := 17) hx hb hts inG_X11 hown hK hP 0 rfl rfl 10 (by decide) (hts _ fl_X11_74) (fun _ h9 => h9) rfl dX11_write_8 ?_
    refine lv_aload_n hx hb dX11_write_11 rfl (lv_at hl 1 rfl) ?_
    refine va_get (D := G.1) (ci := 11) (v := .ref a10) (C := RX11) (T := TX11) (N := 17) hx hb hts inG_X11 hown hK hP 0 rfl rfl 9 (by decide) (hts _ fl_X11_70) (fun _ h9 => h9) rfl dX11_write_12 ?_
    refine va_alen hx hb hK hP 1 0 rfl rfl (v := 400) (by show Int32.ofNat 400 = 400; decide) dX11_write_15 ?_
    refine lv_icmp_ge (tgt := 51) hx hb dX11_write_16 (by decide) (fun c_2 => ?_) (fun c_2 => ?_)
    ·
      exact absurd c_2 (by decide)
    ·
      refine lv_aload_n hx hb dX11_write_19 rfl (lv_at hl 1 rfl) ?_
      refine va_get (D := G.1) (ci := 11) (v := .ref a10) (C := RX11) (T := TX11) (N := 17) hx hb hts inG_X11 hown hK hP 0 rfl rfl 9 (by decide) (hts _ fl_X11_70) (fun _ h9 => h9) rfl dX11_write_20 ?_
      refine lv_aload_n hx hb dX11_write_23 rfl (lv_at hl 1 rfl) ?_
      refine va_get (D := G.1) (ci := 11) (v := .int 16) (C := RX11) (T := TX11) (N := 17) hx hb hts inG_X11 hown hK hP 0 rfl rfl 10 (by decide) (hts _ fl_X11_74) (fun _ h9 => h9) rfl dX11_write_24 ?_
      refine lv_iload_n hx hb dX11_write_27 rfl (lv_at hl 2 rfl) ?_
      refine lv_iload_n hx hb dX11_write_28 rfl (lv_at hl 0 rfl) ?_
      refine lv_iushr (v := ((n0.toUInt32 >>> ((24 : Int32).toUInt32 &&& Int32.toUInt32 31)).toInt32)) hx hb dX11_write_29 rfl ?_
      refine lv_sipush (v := 255) hx hb dX11_write_30 (by decide) ?_
      refine lv_iand hx hb dX11_write_33 ?_
      refine va_iast hx hb hK hP hD hS 1 0 rfl rfl (i := 16) (x := (((n0.toUInt32 >>> ((24 : Int32).toUInt32 &&& Int32.toUInt32 31)).toInt32) &&& 255)) (by unfold vp_in; decide) dX11_write_34 (fun H locs hP hD hS => ?_)
      have hP : va_P G.1 vwCl [(a0, .inr (11, [.ref a1, .ref a2, .ref a3, .ref a4, .ref a5, .ref a6, .ref a7, .ref a8, .ref a9, .ref a10, .int 16, .int 0, .int (-1), .ref a11, .int 0, .ref a12, .int 0])), (a10, .inl (G.2 0, 400, .inl (upd f0 16 (((n0.toUInt32 >>> ((24 : Int32).toUInt32 &&& Int32.toUInt32 31)).toInt32) &&& 255))))] H := hP
      have hD : va_D A [(a0, .inr (11, [.ref a1, .ref a2, .ref a3, .ref a4, .ref a5, .ref a6, .ref a7, .ref a8, .ref a9, .ref a10, .int 16, .int 0, .int (-1), .ref a11, .int 0, .ref a12, .int 0])), (a10, .inl (G.2 0, 400, .inl (upd f0 16 (((n0.toUInt32 >>> ((24 : Int32).toUInt32 &&& Int32.toUInt32 31)).toInt32) &&& 255))))] := hD
      refine lv_aload_n hx hb dX11_write_35 rfl (lv_at hl 1 rfl) ?_
      refine lv_dup hx hb dX11_write_36 rfl ?_
      refine va_get (D := G.1) (ci := 11) (v := .int 16) (C := RX11) (T := TX11) (N := 17) hx hb hts inG_X11 hown hK hP 0 rfl rfl 10 (by decide) (hts _ fl_X11_74) (fun _ h9 => h9) rfl dX11_write_37 ?_
      refine lv_iconst (v := 1) hx hb dX11_write_40 (by decide) ?_
      refine lv_iadd hx hb dX11_write_41 ?_
      refine g5_ti (v := 17) (by decide) ?_
      refine va_put (D := G.1) (ci := 11) (v := .int 17) (ty := .int) (C := RX11) (T := TX11) (N := 17) hx hb hts inG_X11 tyX11 tyX11_ok nmX11 hown hK hP hD hS 0 rfl rfl 10 (by decide) (hts _ fl_X11_74) (fun _ h9 => h9) rfl (by decide +kernel) rfl rfl (Nat.le_of_ble_eq_true rfl) dX11_write_42 (fun H locs hP hD hS => ?_)
      have hP : va_P G.1 vwCl [(a0, .inr (11, [.ref a1, .ref a2, .ref a3, .ref a4, .ref a5, .ref a6, .ref a7, .ref a8, .ref a9, .ref a10, .int 17, .int 0, .int (-1), .ref a11, .int 0, .ref a12, .int 0])), (a10, .inl (G.2 0, 400, .inl (upd f0 16 (((n0.toUInt32 >>> ((24 : Int32).toUInt32 &&& Int32.toUInt32 31)).toInt32) &&& 255))))] H := hP
      have hD : va_D A [(a0, .inr (11, [.ref a1, .ref a2, .ref a3, .ref a4, .ref a5, .ref a6, .ref a7, .ref a8, .ref a9, .ref a10, .int 17, .int 0, .int (-1), .ref a11, .int 0, .ref a12, .int 0])), (a10, .inl (G.2 0, 400, .inl (upd f0 16 (((n0.toUInt32 >>> ((24 : Int32).toUInt32 &&& Int32.toUInt32 31)).toInt32) &&& 255))))] := hD
      refine lv_iinc (v := 16) (lv' := [(2, .int 16), (0, .ref a0), (1, .int n0)]) hx hb dX11_write_45 hl (k := 0) rfl (by decide) (by decide) rfl (fun ls hl => ?_)
      refine lv_goto (tgt := 3) hx hb dX11_write_48 (by decide) ?_
      refine lv_iload_n hx hb dX11_write_3 rfl (lv_at hl 0 rfl) ?_
      refine lv_if_lt (tgt := 51) hx hb dX11_write_4 (by decide) (fun c_3 => ?_) (fun c_3 => ?_)
      ·
        exact absurd c_3 (by decide)
      ·
        refine lv_aload_n hx hb dX11_write_7 rfl (lv_at hl 1 rfl) ?_
        refine va_get (D := G.1) (ci := 11) (v := .int 17) (C := RX11) (T := TX11) (N := 17) hx hb hts inG_X11 hown hK hP 0 rfl rfl 10 (by decide) (hts _ fl_X11_74) (fun _ h9 => h9) rfl dX11_write_8 ?_
        refine lv_aload_n hx hb dX11_write_11 rfl (lv_at hl 1 rfl) ?_
        refine va_get (D := G.1) (ci := 11) (v := .ref a10) (C := RX11) (T := TX11) (N := 17) hx hb hts inG_X11 hown hK hP 0 rfl rfl 9 (by decide) (hts _ fl_X11_70) (fun _ h9 => h9) rfl dX11_write_12 ?_
        refine va_alen hx hb hK hP 1 0 rfl rfl (v := 400) (by show Int32.ofNat 400 = 400; decide) dX11_write_15 ?_
        refine lv_icmp_ge (tgt := 51) hx hb dX11_write_16 (by decide) (fun c_4 => ?_) (fun c_4 => ?_)
        ·
          exact absurd c_4 (by decide)
        ·
          refine lv_aload_n hx hb dX11_write_19 rfl (lv_at hl 1 rfl) ?_
          refine va_get (D := G.1) (ci := 11) (v := .ref a10) (C := RX11) (T := TX11) (N := 17) hx hb hts inG_X11 hown hK hP 0 rfl rfl 9 (by decide) (hts _ fl_X11_70) (fun _ h9 => h9) rfl dX11_write_20 ?_
          refine lv_aload_n hx hb dX11_write_23 rfl (lv_at hl 1 rfl) ?_
          refine va_get (D := G.1) (ci := 11) (v := .int 17) (C := RX11) (T := TX11) (N := 17) hx hb hts inG_X11 hown hK hP 0 rfl rfl 10 (by decide) (hts _ fl_X11_74) (fun _ h9 => h9) rfl dX11_write_24 ?_
          refine lv_iload_n hx hb dX11_write_27 rfl (lv_at hl 2 rfl) ?_
          refine lv_iload_n hx hb dX11_write_28 rfl (lv_at hl 0 rfl) ?_
          refine lv_iushr (v := ((n0.toUInt32 >>> ((16 : Int32).toUInt32 &&& Int32.toUInt32 31)).toInt32)) hx hb dX11_write_29 rfl ?_
          refine lv_sipush (v := 255) hx hb dX11_write_30 (by decide) ?_
          refine lv_iand hx hb dX11_write_33 ?_
          refine va_iast hx hb hK hP hD hS 1 0 rfl rfl (i := 17) (x := (((n0.toUInt32 >>> ((16 : Int32).toUInt32 &&& Int32.toUInt32 31)).toInt32) &&& 255)) (by unfold vp_in; decide) dX11_write_34 (fun H locs hP hD hS => ?_)
          have hP : va_P G.1 vwCl [(a0, .inr (11, [.ref a1, .ref a2, .ref a3, .ref a4, .ref a5, .ref a6, .ref a7, .ref a8, .ref a9, .ref a10, .int 17, .int 0, .int (-1), .ref a11, .int 0, .ref a12, .int 0])), (a10, .inl (G.2 0, 400, .inl (upd (upd f0 16 (((n0.toUInt32 >>> ((24 : Int32).toUInt32 &&& Int32.toUInt32 31)).toInt32) &&& 255)) 17 (((n0.toUInt32 >>> ((16 : Int32).toUInt32 &&& Int32.toUInt32 31)).toInt32) &&& 255))))] H := hP
          have hD : va_D A [(a0, .inr (11, [.ref a1, .ref a2, .ref a3, .ref a4, .ref a5, .ref a6, .ref a7, .ref a8, .ref a9, .ref a10, .int 17, .int 0, .int (-1), .ref a11, .int 0, .ref a12, .int 0])), (a10, .inl (G.2 0, 400, .inl (upd (upd f0 16 (((n0.toUInt32 >>> ((24 : Int32).toUInt32 &&& Int32.toUInt32 31)).toInt32) &&& 255)) 17 (((n0.toUInt32 >>> ((16 : Int32).toUInt32 &&& Int32.toUInt32 31)).toInt32) &&& 255))))] := hD
          refine lv_aload_n hx hb dX11_write_35 rfl (lv_at hl 1 rfl) ?_
          refine lv_dup hx hb dX11_write_36 rfl ?_
          refine va_get (D := G.1) (ci := 11) (v := .int 17) (C := RX11) (T := TX11) (N := 17) hx hb hts inG_X11 hown hK hP 0 rfl rfl 10 (by decide) (hts _ fl_X11_74) (fun _ h9 => h9) rfl dX11_write_37 ?_
          refine lv_iconst (v := 1) hx hb dX11_write_40 (by decide) ?_
          refine lv_iadd hx hb dX11_write_41 ?_
          refine g5_ti (v := 18) (by decide) ?_
          refine va_put (D := G.1) (ci := 11) (v := .int 18) (ty := .int) (C := RX11) (T := TX11) (N := 17) hx hb hts inG_X11 tyX11 tyX11_ok nmX11 hown hK hP hD hS 0 rfl rfl 10 (by decide) (hts _ fl_X11_74) (fun _ h9 => h9) rfl (by decide +kernel) rfl rfl (Nat.le_of_ble_eq_true rfl) dX11_write_42 (fun H locs hP hD hS => ?_)
          have hP : va_P G.1 vwCl [(a0, .inr (11, [.ref a1, .ref a2, .ref a3, .ref a4, .ref a5, .ref a6, .ref a7, .ref a8, .ref a9, .ref a10, .int 18, .int 0, .int (-1), .ref a11, .int 0, .ref a12, .int 0])), (a10, .inl (G.2 0, 400, .inl (upd (upd f0 16 (((n0.toUInt32 >>> ((24 : Int32).toUInt32 &&& Int32.toUInt32 31)).toInt32) &&& 255)) 17 (((n0.toUInt32 >>> ((16 : Int32).toUInt32 &&& Int32.toUInt32 31)).toInt32) &&& 255))))] H := hP
          have hD : va_D A [(a0, .inr (11, [.ref a1, .ref a2, .ref a3, .ref a4, .ref a5, .ref a6, .ref a7, .ref a8, .ref a9, .ref a10, .int 18, .int 0, .int (-1), .ref a11, .int 0, .ref a12, .int 0])), (a10, .inl (G.2 0, 400, .inl (upd (upd f0 16 (((n0.toUInt32 >>> ((24 : Int32).toUInt32 &&& Int32.toUInt32 31)).toInt32) &&& 255)) 17 (((n0.toUInt32 >>> ((16 : Int32).toUInt32 &&& Int32.toUInt32 31)).toInt32) &&& 255))))] := hD
          refine lv_iinc (v := 8) (lv' := [(2, .int 8), (0, .ref a0), (1, .int n0)]) hx hb dX11_write_45 hl (k := 0) rfl (by decide) (by decide) rfl (fun ls hl => ?_)
          refine lv_goto (tgt := 3) hx hb dX11_write_48 (by decide) ?_
          refine lv_iload_n hx hb dX11_write_3 rfl (lv_at hl 0 rfl) ?_
          refine lv_if_lt (tgt := 51) hx hb dX11_write_4 (by decide) (fun c_5 => ?_) (fun c_5 => ?_)
          ·
            exact absurd c_5 (by decide)
          ·
            refine lv_aload_n hx hb dX11_write_7 rfl (lv_at hl 1 rfl) ?_
            refine va_get (D := G.1) (ci := 11) (v := .int 18) (C := RX11) (T := TX11) (N := 17) hx hb hts inG_X11 hown hK hP 0 rfl rfl 10 (by decide) (hts _ fl_X11_74) (fun _ h9 => h9) rfl dX11_write_8 ?_
            refine lv_aload_n hx hb dX11_write_11 rfl (lv_at hl 1 rfl) ?_
            refine va_get (D := G.1) (ci := 11) (v := .ref a10) (C := RX11) (T := TX11) (N := 17) hx hb hts inG_X11 hown hK hP 0 rfl rfl 9 (by decide) (hts _ fl_X11_70) (fun _ h9 => h9) rfl dX11_write_12 ?_
            refine va_alen hx hb hK hP 1 0 rfl rfl (v := 400) (by show Int32.ofNat 400 = 400; decide) dX11_write_15 ?_
            refine lv_icmp_ge (tgt := 51) hx hb dX11_write_16 (by decide) (fun c_6 => ?_) (fun c_6 => ?_)
            ·
              exact absurd c_6 (by decide)
            ·
              refine lv_aload_n hx hb dX11_write_19 rfl (lv_at hl 1 rfl) ?_
              refine va_get (D := G.1) (ci := 11) (v := .ref a10) (C := RX11) (T := TX11) (N := 17) hx hb hts inG_X11 hown hK hP 0 rfl rfl 9 (by decide) (hts _ fl_X11_70) (fun _ h9 => h9) rfl dX11_write_20 ?_
              refine lv_aload_n hx hb dX11_write_23 rfl (lv_at hl 1 rfl) ?_
              refine va_get (D := G.1) (ci := 11) (v := .int 18) (C := RX11) (T := TX11) (N := 17) hx hb hts inG_X11 hown hK hP 0 rfl rfl 10 (by decide) (hts _ fl_X11_74) (fun _ h9 => h9) rfl dX11_write_24 ?_
              refine lv_iload_n hx hb dX11_write_27 rfl (lv_at hl 2 rfl) ?_
              refine lv_iload_n hx hb dX11_write_28 rfl (lv_at hl 0 rfl) ?_
              refine lv_iushr (v := ((n0.toUInt32 >>> ((8 : Int32).toUInt32 &&& Int32.toUInt32 31)).toInt32)) hx hb dX11_write_29 rfl ?_
              refine lv_sipush (v := 255) hx hb dX11_write_30 (by decide) ?_
              refine lv_iand hx hb dX11_write_33 ?_
              refine va_iast hx hb hK hP hD hS 1 0 rfl rfl (i := 18) (x := (((n0.toUInt32 >>> ((8 : Int32).toUInt32 &&& Int32.toUInt32 31)).toInt32) &&& 255)) (by unfold vp_in; decide) dX11_write_34 (fun H locs hP hD hS => ?_)
              have hP : va_P G.1 vwCl [(a0, .inr (11, [.ref a1, .ref a2, .ref a3, .ref a4, .ref a5, .ref a6, .ref a7, .ref a8, .ref a9, .ref a10, .int 18, .int 0, .int (-1), .ref a11, .int 0, .ref a12, .int 0])), (a10, .inl (G.2 0, 400, .inl (upd (upd (upd f0 16 (((n0.toUInt32 >>> ((24 : Int32).toUInt32 &&& Int32.toUInt32 31)).toInt32) &&& 255)) 17 (((n0.toUInt32 >>> ((16 : Int32).toUInt32 &&& Int32.toUInt32 31)).toInt32) &&& 255)) 18 (((n0.toUInt32 >>> ((8 : Int32).toUInt32 &&& Int32.toUInt32 31)).toInt32) &&& 255))))] H := hP
              have hD : va_D A [(a0, .inr (11, [.ref a1, .ref a2, .ref a3, .ref a4, .ref a5, .ref a6, .ref a7, .ref a8, .ref a9, .ref a10, .int 18, .int 0, .int (-1), .ref a11, .int 0, .ref a12, .int 0])), (a10, .inl (G.2 0, 400, .inl (upd (upd (upd f0 16 (((n0.toUInt32 >>> ((24 : Int32).toUInt32 &&& Int32.toUInt32 31)).toInt32) &&& 255)) 17 (((n0.toUInt32 >>> ((16 : Int32).toUInt32 &&& Int32.toUInt32 31)).toInt32) &&& 255)) 18 (((n0.toUInt32 >>> ((8 : Int32).toUInt32 &&& Int32.toUInt32 31)).toInt32) &&& 255))))] := hD
              refine lv_aload_n hx hb dX11_write_35 rfl (lv_at hl 1 rfl) ?_
              refine lv_dup hx hb dX11_write_36 rfl ?_
              refine va_get (D := G.1) (ci := 11) (v := .int 18) (C := RX11) (T := TX11) (N := 17) hx hb hts inG_X11 hown hK hP 0 rfl rfl 10 (by decide) (hts _ fl_X11_74) (fun _ h9 => h9) rfl dX11_write_37 ?_
              refine lv_iconst (v := 1) hx hb dX11_write_40 (by decide) ?_
              refine lv_iadd hx hb dX11_write_41 ?_
              refine g5_ti (v := 19) (by decide) ?_
              refine va_put (D := G.1) (ci := 11) (v := .int 19) (ty := .int) (C := RX11) (T := TX11) (N := 17) hx hb hts inG_X11 tyX11 tyX11_ok nmX11 hown hK hP hD hS 0 rfl rfl 10 (by decide) (hts _ fl_X11_74) (fun _ h9 => h9) rfl (by decide +kernel) rfl rfl (Nat.le_of_ble_eq_true rfl) dX11_write_42 (fun H locs hP hD hS => ?_)
              have hP : va_P G.1 vwCl [(a0, .inr (11, [.ref a1, .ref a2, .ref a3, .ref a4, .ref a5, .ref a6, .ref a7, .ref a8, .ref a9, .ref a10, .int 19, .int 0, .int (-1), .ref a11, .int 0, .ref a12, .int 0])), (a10, .inl (G.2 0, 400, .inl (upd (upd (upd f0 16 (((n0.toUInt32 >>> ((24 : Int32).toUInt32 &&& Int32.toUInt32 31)).toInt32) &&& 255)) 17 (((n0.toUInt32 >>> ((16 : Int32).toUInt32 &&& Int32.toUInt32 31)).toInt32) &&& 255)) 18 (((n0.toUInt32 >>> ((8 : Int32).toUInt32 &&& Int32.toUInt32 31)).toInt32) &&& 255))))] H := hP
              have hD : va_D A [(a0, .inr (11, [.ref a1, .ref a2, .ref a3, .ref a4, .ref a5, .ref a6, .ref a7, .ref a8, .ref a9, .ref a10, .int 19, .int 0, .int (-1), .ref a11, .int 0, .ref a12, .int 0])), (a10, .inl (G.2 0, 400, .inl (upd (upd (upd f0 16 (((n0.toUInt32 >>> ((24 : Int32).toUInt32 &&& Int32.toUInt32 31)).toInt32) &&& 255)) 17 (((n0.toUInt32 >>> ((16 : Int32).toUInt32 &&& Int32.toUInt32 31)).toInt32) &&& 255)) 18 (((n0.toUInt32 >>> ((8 : Int32).toUInt32 &&& Int32.toUInt32 31)).toInt32) &&& 255))))] := hD
              refine lv_iinc (v := 0) (lv' := [(2, .int 0), (0, .ref a0), (1, .int n0)]) hx hb dX11_write_45 hl (k := 0) rfl (by decide) (by decide) rfl (fun ls hl => ?_)
              refine lv_goto (tgt := 3) hx hb dX11_write_48 (by decide) ?_
              refine lv_iload_n hx hb dX11_write_3 rfl (lv_at hl 0 rfl) ?_
              refine lv_if_lt (tgt := 51) hx hb dX11_write_4 (by decide) (fun c_7 => ?_) (fun c_7 => ?_)
              ·
                exact absurd c_7 (by decide)
              ·
                refine lv_aload_n hx hb dX11_write_7 rfl (lv_at hl 1 rfl) ?_
                refine va_get (D := G.1) (ci := 11) (v := .int 19) (C := RX11) (T := TX11) (N := 17) hx hb hts inG_X11 hown hK hP 0 rfl rfl 10 (by decide) (hts _ fl_X11_74) (fun _ h9 => h9) rfl dX11_write_8 ?_
                refine lv_aload_n hx hb dX11_write_11 rfl (lv_at hl 1 rfl) ?_
                refine va_get (D := G.1) (ci := 11) (v := .ref a10) (C := RX11) (T := TX11) (N := 17) hx hb hts inG_X11 hown hK hP 0 rfl rfl 9 (by decide) (hts _ fl_X11_70) (fun _ h9 => h9) rfl dX11_write_12 ?_
                refine va_alen hx hb hK hP 1 0 rfl rfl (v := 400) (by show Int32.ofNat 400 = 400; decide) dX11_write_15 ?_
                refine lv_icmp_ge (tgt := 51) hx hb dX11_write_16 (by decide) (fun c_8 => ?_) (fun c_8 => ?_)
                ·
                  exact absurd c_8 (by decide)
                ·
                  refine lv_aload_n hx hb dX11_write_19 rfl (lv_at hl 1 rfl) ?_
                  refine va_get (D := G.1) (ci := 11) (v := .ref a10) (C := RX11) (T := TX11) (N := 17) hx hb hts inG_X11 hown hK hP 0 rfl rfl 9 (by decide) (hts _ fl_X11_70) (fun _ h9 => h9) rfl dX11_write_20 ?_
                  refine lv_aload_n hx hb dX11_write_23 rfl (lv_at hl 1 rfl) ?_
                  refine va_get (D := G.1) (ci := 11) (v := .int 19) (C := RX11) (T := TX11) (N := 17) hx hb hts inG_X11 hown hK hP 0 rfl rfl 10 (by decide) (hts _ fl_X11_74) (fun _ h9 => h9) rfl dX11_write_24 ?_
                  refine lv_iload_n hx hb dX11_write_27 rfl (lv_at hl 2 rfl) ?_
                  refine lv_iload_n hx hb dX11_write_28 rfl (lv_at hl 0 rfl) ?_
                  refine lv_iushr (v := ((n0.toUInt32 >>> ((0 : Int32).toUInt32 &&& Int32.toUInt32 31)).toInt32)) hx hb dX11_write_29 rfl ?_
                  refine lv_sipush (v := 255) hx hb dX11_write_30 (by decide) ?_
                  refine lv_iand hx hb dX11_write_33 ?_
                  refine va_iast hx hb hK hP hD hS 1 0 rfl rfl (i := 19) (x := (((n0.toUInt32 >>> ((0 : Int32).toUInt32 &&& Int32.toUInt32 31)).toInt32) &&& 255)) (by unfold vp_in; decide) dX11_write_34 (fun H locs hP hD hS => ?_)
                  have hP : va_P G.1 vwCl [(a0, .inr (11, [.ref a1, .ref a2, .ref a3, .ref a4, .ref a5, .ref a6, .ref a7, .ref a8, .ref a9, .ref a10, .int 19, .int 0, .int (-1), .ref a11, .int 0, .ref a12, .int 0])), (a10, .inl (G.2 0, 400, .inl (upd (upd (upd (upd f0 16 (((n0.toUInt32 >>> ((24 : Int32).toUInt32 &&& Int32.toUInt32 31)).toInt32) &&& 255)) 17 (((n0.toUInt32 >>> ((16 : Int32).toUInt32 &&& Int32.toUInt32 31)).toInt32) &&& 255)) 18 (((n0.toUInt32 >>> ((8 : Int32).toUInt32 &&& Int32.toUInt32 31)).toInt32) &&& 255)) 19 (((n0.toUInt32 >>> ((0 : Int32).toUInt32 &&& Int32.toUInt32 31)).toInt32) &&& 255))))] H := hP
                  have hD : va_D A [(a0, .inr (11, [.ref a1, .ref a2, .ref a3, .ref a4, .ref a5, .ref a6, .ref a7, .ref a8, .ref a9, .ref a10, .int 19, .int 0, .int (-1), .ref a11, .int 0, .ref a12, .int 0])), (a10, .inl (G.2 0, 400, .inl (upd (upd (upd (upd f0 16 (((n0.toUInt32 >>> ((24 : Int32).toUInt32 &&& Int32.toUInt32 31)).toInt32) &&& 255)) 17 (((n0.toUInt32 >>> ((16 : Int32).toUInt32 &&& Int32.toUInt32 31)).toInt32) &&& 255)) 18 (((n0.toUInt32 >>> ((8 : Int32).toUInt32 &&& Int32.toUInt32 31)).toInt32) &&& 255)) 19 (((n0.toUInt32 >>> ((0 : Int32).toUInt32 &&& Int32.toUInt32 31)).toInt32) &&& 255))))] := hD
                  refine lv_aload_n hx hb dX11_write_35 rfl (lv_at hl 1 rfl) ?_
                  refine lv_dup hx hb dX11_write_36 rfl ?_
                  refine va_get (D := G.1) (ci := 11) (v := .int 19) (C := RX11) (T := TX11) (N := 17) hx hb hts inG_X11 hown hK hP 0 rfl rfl 10 (by decide) (hts _ fl_X11_74) (fun _ h9 => h9) rfl dX11_write_37 ?_
                  refine lv_iconst (v := 1) hx hb dX11_write_40 (by decide) ?_
                  refine lv_iadd hx hb dX11_write_41 ?_
                  refine g5_ti (v := 20) (by decide) ?_
                  refine va_put (D := G.1) (ci := 11) (v := .int 20) (ty := .int) (C := RX11) (T := TX11) (N := 17) hx hb hts inG_X11 tyX11 tyX11_ok nmX11 hown hK hP hD hS 0 rfl rfl 10 (by decide) (hts _ fl_X11_74) (fun _ h9 => h9) rfl (by decide +kernel) rfl rfl (Nat.le_of_ble_eq_true rfl) dX11_write_42 (fun H locs hP hD hS => ?_)
                  have hP : va_P G.1 vwCl [(a0, .inr (11, [.ref a1, .ref a2, .ref a3, .ref a4, .ref a5, .ref a6, .ref a7, .ref a8, .ref a9, .ref a10, .int 20, .int 0, .int (-1), .ref a11, .int 0, .ref a12, .int 0])), (a10, .inl (G.2 0, 400, .inl (upd (upd (upd (upd f0 16 (((n0.toUInt32 >>> ((24 : Int32).toUInt32 &&& Int32.toUInt32 31)).toInt32) &&& 255)) 17 (((n0.toUInt32 >>> ((16 : Int32).toUInt32 &&& Int32.toUInt32 31)).toInt32) &&& 255)) 18 (((n0.toUInt32 >>> ((8 : Int32).toUInt32 &&& Int32.toUInt32 31)).toInt32) &&& 255)) 19 (((n0.toUInt32 >>> ((0 : Int32).toUInt32 &&& Int32.toUInt32 31)).toInt32) &&& 255))))] H := hP
                  have hD : va_D A [(a0, .inr (11, [.ref a1, .ref a2, .ref a3, .ref a4, .ref a5, .ref a6, .ref a7, .ref a8, .ref a9, .ref a10, .int 20, .int 0, .int (-1), .ref a11, .int 0, .ref a12, .int 0])), (a10, .inl (G.2 0, 400, .inl (upd (upd (upd (upd f0 16 (((n0.toUInt32 >>> ((24 : Int32).toUInt32 &&& Int32.toUInt32 31)).toInt32) &&& 255)) 17 (((n0.toUInt32 >>> ((16 : Int32).toUInt32 &&& Int32.toUInt32 31)).toInt32) &&& 255)) 18 (((n0.toUInt32 >>> ((8 : Int32).toUInt32 &&& Int32.toUInt32 31)).toInt32) &&& 255)) 19 (((n0.toUInt32 >>> ((0 : Int32).toUInt32 &&& Int32.toUInt32 31)).toInt32) &&& 255))))] := hD
                  refine lv_iinc (v := (-8)) (lv' := [(2, .int (-8)), (0, .ref a0), (1, .int n0)]) hx hb dX11_write_45 hl (k := 0) rfl (by decide) (by decide) rfl (fun ls hl => ?_)
                  refine lv_goto (tgt := 3) hx hb dX11_write_48 (by decide) ?_
                  refine lv_iload_n hx hb dX11_write_3 rfl (lv_at hl 0 rfl) ?_
                  refine lv_if_lt (tgt := 51) hx hb dX11_write_4 (by decide) (fun c_9 => ?_) (fun c_9 => ?_)
                  ·
                    exact W.vret hx hb hr (fun t ht hW => ⟨⟨[(a0, .inr (11, [.ref a1, .ref a2, .ref a3, .ref a4, .ref a5, .ref a6, .ref a7, .ref a8, .ref a9, .ref a10, .int 20, .int 0, .int (-1), .ref a11, .int 0, .ref a12, .int 0])), (a10, .inl (G.2 0, 400, .inl (upd (upd (upd (upd f0 16 (((n0.toUInt32 >>> ((24 : Int32).toUInt32 &&& Int32.toUInt32 31)).toInt32) &&& 255)) 17 (((n0.toUInt32 >>> ((16 : Int32).toUInt32 &&& Int32.toUInt32 31)).toInt32) &&& 255)) 18 (((n0.toUInt32 >>> ((8 : Int32).toUInt32 &&& Int32.toUInt32 31)).toInt32) &&& 255)) 19 (((n0.toUInt32 >>> ((0 : Int32).toUInt32 &&& Int32.toUInt32 31)).toInt32) &&& 255))))], rfl, rfl, by rw [ht]; exact hP, hD⟩, hS.F ht⟩) hS.2.2 dX11_write_51
                  ·
                    exact absurd c_9 (by decide)
theorem dX11_feed_0 : decode cX11_feed 0 = .ok (.aload_n 0, 1) := by decide +kernel
theorem dX11_feed_1 : decode cX11_feed 1 = .ok (.getfield 74, 3) := by decide +kernel
theorem dX11_feed_4 : decode cX11_feed 4 = .ok (.bipush 20, 2) := by decide +kernel
theorem dX11_feed_6 : decode cX11_feed 6 = .ok (.iadd, 1) := by decide +kernel
theorem dX11_feed_7 : decode cX11_feed 7 = .ok (.sipush 400, 3) := by decide +kernel
theorem dX11_feed_10 : decode cX11_feed 10 = .ok (.if_icmp .le 5, 3) := by decide +kernel
theorem dX11_feed_13 : decode cX11_feed 13 = .ok (.iconst (-1), 1) := by decide +kernel
theorem dX11_feed_14 : decode cX11_feed 14 = .ok (.ireturn, 1) := by decide +kernel
theorem dX11_feed_15 : decode cX11_feed 15 = .ok (.aload_n 0, 1) := by decide +kernel
theorem dX11_feed_16 : decode cX11_feed 16 = .ok (.iload_n 1, 1) := by decide +kernel
theorem dX11_feed_17 : decode cX11_feed 17 = .ok (.invokevirtual 185, 3) := by decide +kernel
theorem dX11_feed_20 : decode cX11_feed 20 = .ok (.aload_n 0, 1) := by decide +kernel
theorem dX11_feed_21 : decode cX11_feed 21 = .ok (.iload_n 2, 1) := by decide +kernel
theorem dX11_feed_22 : decode cX11_feed 22 = .ok (.invokevirtual 185, 3) := by decide +kernel
theorem dX11_feed_25 : decode cX11_feed 25 = .ok (.aload_n 0, 1) := by decide +kernel
theorem dX11_feed_26 : decode cX11_feed 26 = .ok (.iload_n 3, 1) := by decide +kernel
theorem dX11_feed_27 : decode cX11_feed 27 = .ok (.invokevirtual 185, 3) := by decide +kernel
theorem dX11_feed_30 : decode cX11_feed 30 = .ok (.aload_n 0, 1) := by decide +kernel
theorem dX11_feed_31 : decode cX11_feed 31 = .ok (.iload 4, 2) := by decide +kernel
theorem dX11_feed_33 : decode cX11_feed 33 = .ok (.invokevirtual 185, 3) := by decide +kernel
theorem dX11_feed_36 : decode cX11_feed 36 = .ok (.aload_n 0, 1) := by decide +kernel
theorem dX11_feed_37 : decode cX11_feed 37 = .ok (.iload 5, 2) := by decide +kernel
theorem dX11_feed_39 : decode cX11_feed 39 = .ok (.invokevirtual 185, 3) := by decide +kernel
theorem dX11_feed_42 : decode cX11_feed 42 = .ok (.aload_n 0, 1) := by decide +kernel
theorem dX11_feed_43 : decode cX11_feed 43 = .ok (.getfield 74, 3) := by decide +kernel
theorem dX11_feed_46 : decode cX11_feed 46 = .ok (.ireturn, 1) := by decide +kernel
set_option maxHeartbeats 4000000 in
set_option maxRecDepth 100000 in
theorem kX11_feed (l : Launch) (G : g5_G) (a0 a1 a2 a3 a4 a5 a6 a7 a8 a9 a10 a11 a12 : Nat) (sz : Nat) (n0 : Int32) (n1 : Int32) (n2 : Int32) (n3 : Int32) (n4 : Int32) : Met l yX11_feed (wsG yX11_feed cX11_feed 6 (some .int)) ({ frames := 1, cells := 0, slots := 0, locals := 22 }) (va_Pc [.ref a0, .int n0, .int n1, .int n2, .int n3, .int n4] (g5_P G [(a0, .inr (11, [.ref a1, .ref a2, .ref a3, .ref a4, .ref a5, .ref a6, .ref a7, .ref a8, .ref a9, .ref a10, .int 0, .int 0, .int (-1), .ref a11, .int 0, .ref a12, .int 0])), (a10, .inl (G.2 0, 400, .inl (fun _ => 0)))] sz)) (va_Qi (fun (r : Int32) (u : va_W) => ((r = 20) ∧ (u = []))) (g5_B G (va_A [(a0, .inr (11, [.ref a1, .ref a2, .ref a3, .ref a4, .ref a5, .ref a6, .ref a7, .ref a8, .ref a9, .ref a10, .int 0, .int 0, .int (-1), .ref a11, .int 0, .ref a12, .int 0])), (a10, .inl (G.2 0, 400, .inl (fun _ => 0)))] sz)) (va_A [(a0, .inr (11, [.ref a1, .ref a2, .ref a3, .ref a4, .ref a5, .ref a6, .ref a7, .ref a8, .ref a9, .ref a10, .int 0, .int 0, .int (-1), .ref a11, .int 0, .ref a12, .int 0])), (a10, .inl (G.2 0, 400, .inl (fun _ => 0)))] sz)) 0 0 (va_A [(a0, .inr (11, [.ref a1, .ref a2, .ref a3, .ref a4, .ref a5, .ref a6, .ref a7, .ref a8, .ref a9, .ref a10, .int 0, .int 0, .int (-1), .ref a11, .int 0, .ref a12, .int 0])), (a10, .inl (G.2 0, 400, .inl (fun _ => 0)))] sz) := by
  refine Met.ofW (cc := cX11_feed) (maxL := 6) (ret := (some .int)) (by decide) rfl ?_
  intro p e s m args below meth c s₁ B hml hv
  obtain ⟨rfl, hsz, hP, hK, hD0, hN, hT⟩ := hv
  have hx := B.exec
  have hb := B.bytes
  have hr := B.returns
  have hts : ∀ w ∈ tblG, w.before _ s = true := fun w h => atoms_spec (ws := (wsG yX11_feed cX11_feed 6 (some .int))) B.pre w (List.mem_cons_of_mem _ h)
  have hown : s.vm.findClass RX11 = some m.cls := findClass_of_methodNamed B.named
  have hlocks := B.notSynchronized
  subst hsz
  have hD := hD0.self (sz := s.heap.size)
  generalize hAe : va_A [(a0, .inr (11, [.ref a1, .ref a2, .ref a3, .ref a4, .ref a5, .ref a6, .ref a7, .ref a8, .ref a9, .ref a10, .int 0, .int 0, .int (-1), .ref a11, .int 0, .ref a12, .int 0])), (a10, .inl (G.2 0, 400, .inl (fun _ => 0)))] s.heap.size = A at hD hT ⊢
  have hA : ∀ q : Nat, s.heap.size ≤ q → A q := fun q h => by rw [← hAe]; exact Or.inr h
  have hS : va_S A s.heap s.heap [] := va_S.rf
  have hP : va_P G.1 vwCl [(a0, .inr (11, [.ref a1, .ref a2, .ref a3, .ref a4, .ref a5, .ref a6, .ref a7, .ref a8, .ref a9, .ref a10, .int 0, .int 0, .int (-1), .ref a11, .int 0, .ref a12, .int 0])), (a10, .inl (G.2 0, 400, .inl (fun _ => 0)))] s.heap := hP
  have hl := lv_entry ([.ref a0, .int n0, .int n1, .int n2, .int n3, .int n4]) (n := 6) (Nat.le_of_ble_eq_true rfl)
  rw [lg_entry_eq]
  generalize (lg_sl ([.ref a0, .int n0, .int n1, .int n2, .int n3, .int n4]) ++ List.replicate (6 - (lg_sl ([.ref a0, .int n0, .int n1, .int n2, .int n3, .int n4])).length) Slot.unset).toArray = ls at hl ⊢
  have hl : lv_has ls 6 [(0, .ref a0), (1, .int n0), (2, .int n1), (3, .int n2), (4, .int n3), (5, .int n4)] := hl
  refine lv_aload_n hx hb dX11_feed_0 rfl (lv_at hl 0 rfl) ?_
  refine va_get (D := G.1) (ci := 11) (v := .int 0) (C := RX11) (T := TX11) (N := 17) hx hb hts inG_X11 hown hK hP 0 rfl rfl 10 (by decide) (hts _ fl_X11_74) (fun _ h9 => h9) rfl dX11_feed_1 ?_
  refine lv_bipush (v := 20) hx hb dX11_feed_4 (by decide) ?_
  refine lv_iadd hx hb dX11_feed_6 ?_
  refine g5_ti (v := 20) (by decide) ?_
  refine lv_sipush (v := 400) hx hb dX11_feed_7 (by decide) ?_
  refine lv_icmp_le (tgt := 15) hx hb dX11_feed_10 (by decide) (fun c_1 => ?_) (fun c_1 => ?_)
  ·
    refine lv_aload_n hx hb dX11_feed_15 rfl (lv_at hl 0 rfl) ?_
    refine lv_iload_n hx hb dX11_feed_16 rfl (lv_at hl 1 rfl) ?_
    have hPc := hP.sub (ws' := [(a0, .inr (11, [.ref a1, .ref a2, .ref a3, .ref a4, .ref a5, .ref a6, .ref a7, .ref a8, .ref a9, .ref a10, .int 0, .int 0, .int (-1), .ref a11, .int 0, .ref a12, .int 0])), (a10, .inl (G.2 0, 400, .inl (fun _ => 0)))]) [0, 1] rfl
    have hDc := hD.sub (ws' := [(a0, .inr (11, [.ref a1, .ref a2, .ref a3, .ref a4, .ref a5, .ref a6, .ref a7, .ref a8, .ref a9, .ref a10, .int 0, .int 0, .int (-1), .ref a11, .int 0, .ref a12, .int 0])), (a10, .inl (G.2 0, 400, .inl (fun _ => 0)))]) [0, 1] (by decide) rfl
    have hFc := va_free (wc := [(a0, .inr (11, [.ref a1, .ref a2, .ref a3, .ref a4, .ref a5, .ref a6, .ref a7, .ref a8, .ref a9, .ref a10, .int 0, .int 0, .int (-1), .ref a11, .int 0, .ref a12, .int 0])), (a10, .inl (G.2 0, 400, .inl (fun _ => 0)))]) hD hS hA [0, 1] rfl
    refine va_callv (va_runV (As := [.int n0]) (rest := []) ⟨hx, hb, hml, hown, hts⟩ (kX11_write l G a0 a1 a2 a3 a4 a5 a6 a7 a8 a9 a10 a11 a12 s.heap.size n0) (cwV 1 hts gV_X11_185 rfl rfl rfl hv_X11_write ⟨Nat.le_of_ble_eq_true rfl, Nat.le_of_ble_eq_true rfl⟩) (g5_preV hPc hK hDc hN hT hS hFc (ci := 11) (q0 := 0) rfl rfl) rfl rfl hl.1 rfl (lv_room (Nat.le_of_ble_eq_true rfl)) dX11_feed_17 ⟨Nat.le_of_ble_eq_true rfl, Nat.le_of_ble_eq_true rfl⟩) hS (fun q _ h => hFc q h) hFc (fun u t H1 locs ht hvm hw hB hz1 hk1 hS => ?_)
    obtain ⟨hP1, hD1⟩ := hB
    rw [ht] at hP1
    obtain rfl := hw
    obtain ⟨hP, hD⟩ := va_join (wr := []) (w1 := [(a0, .inr (11, [.ref a1, .ref a2, .ref a3, .ref a4, .ref a5, .ref a6, .ref a7, .ref a8, .ref a9, .ref a10, .int 4, .int 0, .int (-1), .ref a11, .int 0, .ref a12, .int 0])), (a10, .inl (G.2 0, 400, .inl (upd (upd (upd (upd (fun _ => 0) 0 (((n0.toUInt32 >>> ((24 : Int32).toUInt32 &&& Int32.toUInt32 31)).toInt32) &&& 255)) 1 (((n0.toUInt32 >>> ((16 : Int32).toUInt32 &&& Int32.toUInt32 31)).toInt32) &&& 255)) 2 (((n0.toUInt32 >>> ((8 : Int32).toUInt32 &&& Int32.toUInt32 31)).toInt32) &&& 255)) 3 (((n0.toUInt32 >>> ((0 : Int32).toUInt32 &&& Int32.toUInt32 31)).toInt32) &&& 255))))]) hP hD [0, 1] [] rfl rfl (by decide) (by decide) hk1 hFc hP1 hD1
    generalize H1 = H at hP hS ⊢
    have hP : va_P G.1 vwCl [(a0, .inr (11, [.ref a1, .ref a2, .ref a3, .ref a4, .ref a5, .ref a6, .ref a7, .ref a8, .ref a9, .ref a10, .int 4, .int 0, .int (-1), .ref a11, .int 0, .ref a12, .int 0])), (a10, .inl (G.2 0, 400, .inl (upd (upd (upd (upd (fun _ => 0) 0 (((n0.toUInt32 >>> ((24 : Int32).toUInt32 &&& Int32.toUInt32 31)).toInt32) &&& 255)) 1 (((n0.toUInt32 >>> ((16 : Int32).toUInt32 &&& Int32.toUInt32 31)).toInt32) &&& 255)) 2 (((n0.toUInt32 >>> ((8 : Int32).toUInt32 &&& Int32.toUInt32 31)).toInt32) &&& 255)) 3 (((n0.toUInt32 >>> ((0 : Int32).toUInt32 &&& Int32.toUInt32 31)).toInt32) &&& 255))))] H := hP
    have hD : va_D A [(a0, .inr (11, [.ref a1, .ref a2, .ref a3, .ref a4, .ref a5, .ref a6, .ref a7, .ref a8, .ref a9, .ref a10, .int 4, .int 0, .int (-1), .ref a11, .int 0, .ref a12, .int 0])), (a10, .inl (G.2 0, 400, .inl (upd (upd (upd (upd (fun _ => 0) 0 (((n0.toUInt32 >>> ((24 : Int32).toUInt32 &&& Int32.toUInt32 31)).toInt32) &&& 255)) 1 (((n0.toUInt32 >>> ((16 : Int32).toUInt32 &&& Int32.toUInt32 31)).toInt32) &&& 255)) 2 (((n0.toUInt32 >>> ((8 : Int32).toUInt32 &&& Int32.toUInt32 31)).toInt32) &&& 255)) 3 (((n0.toUInt32 >>> ((0 : Int32).toUInt32 &&& Int32.toUInt32 31)).toInt32) &&& 255))))] := hD
    refine lv_aload_n hx hb dX11_feed_20 rfl (lv_at hl 0 rfl) ?_
    refine lv_iload_n hx hb dX11_feed_21 rfl (lv_at hl 2 rfl) ?_
    have hPc := hP.sub (ws' := [(a0, .inr (11, [.ref a1, .ref a2, .ref a3, .ref a4, .ref a5, .ref a6, .ref a7, .ref a8, .ref a9, .ref a10, .int 4, .int 0, .int (-1), .ref a11, .int 0, .ref a12, .int 0])), (a10, .inl (G.2 0, 400, .inl (upd (upd (upd (upd (fun _ => 0) 0 (((n0.toUInt32 >>> ((24 : Int32).toUInt32 &&& Int32.toUInt32 31)).toInt32) &&& 255)) 1 (((n0.toUInt32 >>> ((16 : Int32).toUInt32 &&& Int32.toUInt32 31)).toInt32) &&& 255)) 2 (((n0.toUInt32 >>> ((8 : Int32).toUInt32 &&& Int32.toUInt32 31)).toInt32) &&& 255)) 3 (((n0.toUInt32 >>> ((0 : Int32).toUInt32 &&& Int32.toUInt32 31)).toInt32) &&& 255))))]) [0, 1] rfl
    have hDc := hD.sub (ws' := [(a0, .inr (11, [.ref a1, .ref a2, .ref a3, .ref a4, .ref a5, .ref a6, .ref a7, .ref a8, .ref a9, .ref a10, .int 4, .int 0, .int (-1), .ref a11, .int 0, .ref a12, .int 0])), (a10, .inl (G.2 0, 400, .inl (upd (upd (upd (upd (fun _ => 0) 0 (((n0.toUInt32 >>> ((24 : Int32).toUInt32 &&& Int32.toUInt32 31)).toInt32) &&& 255)) 1 (((n0.toUInt32 >>> ((16 : Int32).toUInt32 &&& Int32.toUInt32 31)).toInt32) &&& 255)) 2 (((n0.toUInt32 >>> ((8 : Int32).toUInt32 &&& Int32.toUInt32 31)).toInt32) &&& 255)) 3 (((n0.toUInt32 >>> ((0 : Int32).toUInt32 &&& Int32.toUInt32 31)).toInt32) &&& 255))))]) [0, 1] (by decide) rfl
    have hFc := va_free (wc := [(a0, .inr (11, [.ref a1, .ref a2, .ref a3, .ref a4, .ref a5, .ref a6, .ref a7, .ref a8, .ref a9, .ref a10, .int 4, .int 0, .int (-1), .ref a11, .int 0, .ref a12, .int 0])), (a10, .inl (G.2 0, 400, .inl (upd (upd (upd (upd (fun _ => 0) 0 (((n0.toUInt32 >>> ((24 : Int32).toUInt32 &&& Int32.toUInt32 31)).toInt32) &&& 255)) 1 (((n0.toUInt32 >>> ((16 : Int32).toUInt32 &&& Int32.toUInt32 31)).toInt32) &&& 255)) 2 (((n0.toUInt32 >>> ((8 : Int32).toUInt32 &&& Int32.toUInt32 31)).toInt32) &&& 255)) 3 (((n0.toUInt32 >>> ((0 : Int32).toUInt32 &&& Int32.toUInt32 31)).toInt32) &&& 255))))]) hD hS hA [0, 1] rfl
    refine va_callv (va_runV (As := [.int n1]) (rest := []) ⟨hx, hb, hml, hown, hts⟩ (kX11_write_2 l G a0 a1 a2 a3 a4 a5 a6 a7 a8 a9 a10 a11 a12 H.size n1 (upd (upd (upd (upd (fun _ => 0) 0 (((n0.toUInt32 >>> ((24 : Int32).toUInt32 &&& Int32.toUInt32 31)).toInt32) &&& 255)) 1 (((n0.toUInt32 >>> ((16 : Int32).toUInt32 &&& Int32.toUInt32 31)).toInt32) &&& 255)) 2 (((n0.toUInt32 >>> ((8 : Int32).toUInt32 &&& Int32.toUInt32 31)).toInt32) &&& 255)) 3 (((n0.toUInt32 >>> ((0 : Int32).toUInt32 &&& Int32.toUInt32 31)).toInt32) &&& 255))) (cwV 1 hts gV_X11_185 rfl rfl rfl hv_X11_write ⟨Nat.le_of_ble_eq_true rfl, Nat.le_of_ble_eq_true rfl⟩) (g5_preV hPc hK hDc hN hT hS hFc (ci := 11) (q0 := 0) rfl rfl) rfl rfl hl.1 rfl (lv_room (Nat.le_of_ble_eq_true rfl)) dX11_feed_22 ⟨Nat.le_of_ble_eq_true rfl, Nat.le_of_ble_eq_true rfl⟩) hS (fun q _ h => hFc q h) hFc (fun u t H1 locs ht hvm hw hB hz1 hk1 hS => ?_)
    obtain ⟨hP1, hD1⟩ := hB
    rw [ht] at hP1
    obtain rfl := hw
    obtain ⟨hP, hD⟩ := va_join (wr := []) (w1 := [(a0, .inr (11, [.ref a1, .ref a2, .ref a3, .ref a4, .ref a5, .ref a6, .ref a7, .ref a8, .ref a9, .ref a10, .int 8, .int 0, .int (-1), .ref a11, .int 0, .ref a12, .int 0])), (a10, .inl (G.2 0, 400, .inl (upd (upd (upd (upd (upd (upd (upd (upd (fun _ => 0) 0 (((n0.toUInt32 >>> ((24 : Int32).toUInt32 &&& Int32.toUInt32 31)).toInt32) &&& 255)) 1 (((n0.toUInt32 >>> ((16 : Int32).toUInt32 &&& Int32.toUInt32 31)).toInt32) &&& 255)) 2 (((n0.toUInt32 >>> ((8 : Int32).toUInt32 &&& Int32.toUInt32 31)).toInt32) &&& 255)) 3 (((n0.toUInt32 >>> ((0 : Int32).toUInt32 &&& Int32.toUInt32 31)).toInt32) &&& 255)) 4 (((n1.toUInt32 >>> ((24 : Int32).toUInt32 &&& Int32.toUInt32 31)).toInt32) &&& 255)) 5 (((n1.toUInt32 >>> ((16 : Int32).toUInt32 &&& Int32.toUInt32 31)).toInt32) &&& 255)) 6 (((n1.toUInt32 >>> ((8 : Int32).toUInt32 &&& Int32.toUInt32 31)).toInt32) &&& 255)) 7 (((n1.toUInt32 >>> ((0 : Int32).toUInt32 &&& Int32.toUInt32 31)).toInt32) &&& 255))))]) hP hD [0, 1] [] rfl rfl (by decide) (by decide) hk1 hFc hP1 hD1
    generalize H1 = H at hP hS ⊢
    have hP : va_P G.1 vwCl [(a0, .inr (11, [.ref a1, .ref a2, .ref a3, .ref a4, .ref a5, .ref a6, .ref a7, .ref a8, .ref a9, .ref a10, .int 8, .int 0, .int (-1), .ref a11, .int 0, .ref a12, .int 0])), (a10, .inl (G.2 0, 400, .inl (upd (upd (upd (upd (upd (upd (upd (upd (fun _ => 0) 0 (((n0.toUInt32 >>> ((24 : Int32).toUInt32 &&& Int32.toUInt32 31)).toInt32) &&& 255)) 1 (((n0.toUInt32 >>> ((16 : Int32).toUInt32 &&& Int32.toUInt32 31)).toInt32) &&& 255)) 2 (((n0.toUInt32 >>> ((8 : Int32).toUInt32 &&& Int32.toUInt32 31)).toInt32) &&& 255)) 3 (((n0.toUInt32 >>> ((0 : Int32).toUInt32 &&& Int32.toUInt32 31)).toInt32) &&& 255)) 4 (((n1.toUInt32 >>> ((24 : Int32).toUInt32 &&& Int32.toUInt32 31)).toInt32) &&& 255)) 5 (((n1.toUInt32 >>> ((16 : Int32).toUInt32 &&& Int32.toUInt32 31)).toInt32) &&& 255)) 6 (((n1.toUInt32 >>> ((8 : Int32).toUInt32 &&& Int32.toUInt32 31)).toInt32) &&& 255)) 7 (((n1.toUInt32 >>> ((0 : Int32).toUInt32 &&& Int32.toUInt32 31)).toInt32) &&& 255))))] H := hP
    have hD : va_D A [(a0, .inr (11, [.ref a1, .ref a2, .ref a3, .ref a4, .ref a5, .ref a6, .ref a7, .ref a8, .ref a9, .ref a10, .int 8, .int 0, .int (-1), .ref a11, .int 0, .ref a12, .int 0])), (a10, .inl (G.2 0, 400, .inl (upd (upd (upd (upd (upd (upd (upd (upd (fun _ => 0) 0 (((n0.toUInt32 >>> ((24 : Int32).toUInt32 &&& Int32.toUInt32 31)).toInt32) &&& 255)) 1 (((n0.toUInt32 >>> ((16 : Int32).toUInt32 &&& Int32.toUInt32 31)).toInt32) &&& 255)) 2 (((n0.toUInt32 >>> ((8 : Int32).toUInt32 &&& Int32.toUInt32 31)).toInt32) &&& 255)) 3 (((n0.toUInt32 >>> ((0 : Int32).toUInt32 &&& Int32.toUInt32 31)).toInt32) &&& 255)) 4 (((n1.toUInt32 >>> ((24 : Int32).toUInt32 &&& Int32.toUInt32 31)).toInt32) &&& 255)) 5 (((n1.toUInt32 >>> ((16 : Int32).toUInt32 &&& Int32.toUInt32 31)).toInt32) &&& 255)) 6 (((n1.toUInt32 >>> ((8 : Int32).toUInt32 &&& Int32.toUInt32 31)).toInt32) &&& 255)) 7 (((n1.toUInt32 >>> ((0 : Int32).toUInt32 &&& Int32.toUInt32 31)).toInt32) &&& 255))))] := hD
    refine lv_aload_n hx hb dX11_feed_25 rfl (lv_at hl 0 rfl) ?_
    refine lv_iload_n hx hb dX11_feed_26 rfl (lv_at hl 3 rfl) ?_
    have hPc := hP.sub (ws' := [(a0, .inr (11, [.ref a1, .ref a2, .ref a3, .ref a4, .ref a5, .ref a6, .ref a7, .ref a8, .ref a9, .ref a10, .int 8, .int 0, .int (-1), .ref a11, .int 0, .ref a12, .int 0])), (a10, .inl (G.2 0, 400, .inl (upd (upd (upd (upd (upd (upd (upd (upd (fun _ => 0) 0 (((n0.toUInt32 >>> ((24 : Int32).toUInt32 &&& Int32.toUInt32 31)).toInt32) &&& 255)) 1 (((n0.toUInt32 >>> ((16 : Int32).toUInt32 &&& Int32.toUInt32 31)).toInt32) &&& 255)) 2 (((n0.toUInt32 >>> ((8 : Int32).toUInt32 &&& Int32.toUInt32 31)).toInt32) &&& 255)) 3 (((n0.toUInt32 >>> ((0 : Int32).toUInt32 &&& Int32.toUInt32 31)).toInt32) &&& 255)) 4 (((n1.toUInt32 >>> ((24 : Int32).toUInt32 &&& Int32.toUInt32 31)).toInt32) &&& 255)) 5 (((n1.toUInt32 >>> ((16 : Int32).toUInt32 &&& Int32.toUInt32 31)).toInt32) &&& 255)) 6 (((n1.toUInt32 >>> ((8 : Int32).toUInt32 &&& Int32.toUInt32 31)).toInt32) &&& 255)) 7 (((n1.toUInt32 >>> ((0 : Int32).toUInt32 &&& Int32.toUInt32 31)).toInt32) &&& 255))))]) [0, 1] rfl
    have hDc := hD.sub (ws' := [(a0, .inr (11, [.ref a1, .ref a2, .ref a3, .ref a4, .ref a5, .ref a6, .ref a7, .ref a8, .ref a9, .ref a10, .int 8, .int 0, .int (-1), .ref a11, .int 0, .ref a12, .int 0])), (a10, .inl (G.2 0, 400, .inl (upd (upd (upd (upd (upd (upd (upd (upd (fun _ => 0) 0 (((n0.toUInt32 >>> ((24 : Int32).toUInt32 &&& Int32.toUInt32 31)).toInt32) &&& 255)) 1 (((n0.toUInt32 >>> ((16 : Int32).toUInt32 &&& Int32.toUInt32 31)).toInt32) &&& 255)) 2 (((n0.toUInt32 >>> ((8 : Int32).toUInt32 &&& Int32.toUInt32 31)).toInt32) &&& 255)) 3 (((n0.toUInt32 >>> ((0 : Int32).toUInt32 &&& Int32.toUInt32 31)).toInt32) &&& 255)) 4 (((n1.toUInt32 >>> ((24 : Int32).toUInt32 &&& Int32.toUInt32 31)).toInt32) &&& 255)) 5 (((n1.toUInt32 >>> ((16 : Int32).toUInt32 &&& Int32.toUInt32 31)).toInt32) &&& 255)) 6 (((n1.toUInt32 >>> ((8 : Int32).toUInt32 &&& Int32.toUInt32 31)).toInt32) &&& 255)) 7 (((n1.toUInt32 >>> ((0 : Int32).toUInt32 &&& Int32.toUInt32 31)).toInt32) &&& 255))))]) [0, 1] (by decide) rfl
    have hFc := va_free (wc := [(a0, .inr (11, [.ref a1, .ref a2, .ref a3, .ref a4, .ref a5, .ref a6, .ref a7, .ref a8, .ref a9, .ref a10, .int 8, .int 0, .int (-1), .ref a11, .int 0, .ref a12, .int 0])), (a10, .inl (G.2 0, 400, .inl (upd (upd (upd (upd (upd (upd (upd (upd (fun _ => 0) 0 (((n0.toUInt32 >>> ((24 : Int32).toUInt32 &&& Int32.toUInt32 31)).toInt32) &&& 255)) 1 (((n0.toUInt32 >>> ((16 : Int32).toUInt32 &&& Int32.toUInt32 31)).toInt32) &&& 255)) 2 (((n0.toUInt32 >>> ((8 : Int32).toUInt32 &&& Int32.toUInt32 31)).toInt32) &&& 255)) 3 (((n0.toUInt32 >>> ((0 : Int32).toUInt32 &&& Int32.toUInt32 31)).toInt32) &&& 255)) 4 (((n1.toUInt32 >>> ((24 : Int32).toUInt32 &&& Int32.toUInt32 31)).toInt32) &&& 255)) 5 (((n1.toUInt32 >>> ((16 : Int32).toUInt32 &&& Int32.toUInt32 31)).toInt32) &&& 255)) 6 (((n1.toUInt32 >>> ((8 : Int32).toUInt32 &&& Int32.toUInt32 31)).toInt32) &&& 255)) 7 (((n1.toUInt32 >>> ((0 : Int32).toUInt32 &&& Int32.toUInt32 31)).toInt32) &&& 255))))]) hD hS hA [0, 1] rfl
    refine va_callv (va_runV (As := [.int n2]) (rest := []) ⟨hx, hb, hml, hown, hts⟩ (kX11_write_3 l G a0 a1 a2 a3 a4 a5 a6 a7 a8 a9 a10 a11 a12 H.size n2 (upd (upd (upd (upd (upd (upd (upd (upd (fun _ => 0) 0 (((n0.toUInt32 >>> ((24 : Int32).toUInt32 &&& Int32.toUInt32 31)).toInt32) &&& 255)) 1 (((n0.toUInt32 >>> ((16 : Int32).toUInt32 &&& Int32.toUInt32 31)).toInt32) &&& 255)) 2 (((n0.toUInt32 >>> ((8 : Int32).toUInt32 &&& Int32.toUInt32 31)).toInt32) &&& 255)) 3 (((n0.toUInt32 >>> ((0 : Int32).toUInt32 &&& Int32.toUInt32 31)).toInt32) &&& 255)) 4 (((n1.toUInt32 >>> ((24 : Int32).toUInt32 &&& Int32.toUInt32 31)).toInt32) &&& 255)) 5 (((n1.toUInt32 >>> ((16 : Int32).toUInt32 &&& Int32.toUInt32 31)).toInt32) &&& 255)) 6 (((n1.toUInt32 >>> ((8 : Int32).toUInt32 &&& Int32.toUInt32 31)).toInt32) &&& 255)) 7 (((n1.toUInt32 >>> ((0 : Int32).toUInt32 &&& Int32.toUInt32 31)).toInt32) &&& 255))) (cwV 1 hts gV_X11_185 rfl rfl rfl hv_X11_write ⟨Nat.le_of_ble_eq_true rfl, Nat.le_of_ble_eq_true rfl⟩) (g5_preV hPc hK hDc hN hT hS hFc (ci := 11) (q0 := 0) rfl rfl) rfl rfl hl.1 rfl (lv_room (Nat.le_of_ble_eq_true rfl)) dX11_feed_27 ⟨Nat.le_of_ble_eq_true rfl, Nat.le_of_ble_eq_true rfl⟩) hS (fun q _ h => hFc q h) hFc (fun u t H1 locs ht hvm hw hB hz1 hk1 hS => ?_)
    obtain ⟨hP1, hD1⟩ := hB
    rw [ht] at hP1
    obtain rfl := hw
    obtain ⟨hP, hD⟩ := va_join (wr := []) (w1 := [(a0, .inr (11, [.ref a1, .ref a2, .ref a3, .ref a4, .ref a5, .ref a6, .ref a7, .ref a8, .ref a9, .ref a10, .int 12, .int 0, .int (-1), .ref a11, .int 0, .ref a12, .int 0])), (a10, .inl (G.2 0, 400, .inl (upd (upd (upd (upd (upd (upd (upd (upd (upd (upd (upd (upd (fun _ => 0) 0 (((n0.toUInt32 >>> ((24 : Int32).toUInt32 &&& Int32.toUInt32 31)).toInt32) &&& 255)) 1 (((n0.toUInt32 >>> ((16 : Int32).toUInt32 &&& Int32.toUInt32 31)).toInt32) &&& 255)) 2 (((n0.toUInt32 >>> ((8 : Int32).toUInt32 &&& Int32.toUInt32 31)).toInt32) &&& 255)) 3 (((n0.toUInt32 >>> ((0 : Int32).toUInt32 &&& Int32.toUInt32 31)).toInt32) &&& 255)) 4 (((n1.toUInt32 >>> ((24 : Int32).toUInt32 &&& Int32.toUInt32 31)).toInt32) &&& 255)) 5 (((n1.toUInt32 >>> ((16 : Int32).toUInt32 &&& Int32.toUInt32 31)).toInt32) &&& 255)) 6 (((n1.toUInt32 >>> ((8 : Int32).toUInt32 &&& Int32.toUInt32 31)).toInt32) &&& 255)) 7 (((n1.toUInt32 >>> ((0 : Int32).toUInt32 &&& Int32.toUInt32 31)).toInt32) &&& 255)) 8 (((n2.toUInt32 >>> ((24 : Int32).toUInt32 &&& Int32.toUInt32 31)).toInt32) &&& 255)) 9 (((n2.toUInt32 >>> ((16 : Int32).toUInt32 &&& Int32.toUInt32 31)).toInt32) &&& 255)) 10 (((n2.toUInt32 >>> ((8 : Int32).toUInt32 &&& Int32.toUInt32 31)).toInt32) &&& 255)) 11 (((n2.toUInt32 >>> ((0 : Int32).toUInt32 &&& Int32.toUInt32 31)).toInt32) &&& 255))))]) hP hD [0, 1] [] rfl rfl (by decide) (by decide) hk1 hFc hP1 hD1
    generalize H1 = H at hP hS ⊢
    have hP : va_P G.1 vwCl [(a0, .inr (11, [.ref a1, .ref a2, .ref a3, .ref a4, .ref a5, .ref a6, .ref a7, .ref a8, .ref a9, .ref a10, .int 12, .int 0, .int (-1), .ref a11, .int 0, .ref a12, .int 0])), (a10, .inl (G.2 0, 400, .inl (upd (upd (upd (upd (upd (upd (upd (upd (upd (upd (upd (upd (fun _ => 0) 0 (((n0.toUInt32 >>> ((24 : Int32).toUInt32 &&& Int32.toUInt32 31)).toInt32) &&& 255)) 1 (((n0.toUInt32 >>> ((16 : Int32).toUInt32 &&& Int32.toUInt32 31)).toInt32) &&& 255)) 2 (((n0.toUInt32 >>> ((8 : Int32).toUInt32 &&& Int32.toUInt32 31)).toInt32) &&& 255)) 3 (((n0.toUInt32 >>> ((0 : Int32).toUInt32 &&& Int32.toUInt32 31)).toInt32) &&& 255)) 4 (((n1.toUInt32 >>> ((24 : Int32).toUInt32 &&& Int32.toUInt32 31)).toInt32) &&& 255)) 5 (((n1.toUInt32 >>> ((16 : Int32).toUInt32 &&& Int32.toUInt32 31)).toInt32) &&& 255)) 6 (((n1.toUInt32 >>> ((8 : Int32).toUInt32 &&& Int32.toUInt32 31)).toInt32) &&& 255)) 7 (((n1.toUInt32 >>> ((0 : Int32).toUInt32 &&& Int32.toUInt32 31)).toInt32) &&& 255)) 8 (((n2.toUInt32 >>> ((24 : Int32).toUInt32 &&& Int32.toUInt32 31)).toInt32) &&& 255)) 9 (((n2.toUInt32 >>> ((16 : Int32).toUInt32 &&& Int32.toUInt32 31)).toInt32) &&& 255)) 10 (((n2.toUInt32 >>> ((8 : Int32).toUInt32 &&& Int32.toUInt32 31)).toInt32) &&& 255)) 11 (((n2.toUInt32 >>> ((0 : Int32).toUInt32 &&& Int32.toUInt32 31)).toInt32) &&& 255))))] H := hP
    have hD : va_D A [(a0, .inr (11, [.ref a1, .ref a2, .ref a3, .ref a4, .ref a5, .ref a6, .ref a7, .ref a8, .ref a9, .ref a10, .int 12, .int 0, .int (-1), .ref a11, .int 0, .ref a12, .int 0])), (a10, .inl (G.2 0, 400, .inl (upd (upd (upd (upd (upd (upd (upd (upd (upd (upd (upd (upd (fun _ => 0) 0 (((n0.toUInt32 >>> ((24 : Int32).toUInt32 &&& Int32.toUInt32 31)).toInt32) &&& 255)) 1 (((n0.toUInt32 >>> ((16 : Int32).toUInt32 &&& Int32.toUInt32 31)).toInt32) &&& 255)) 2 (((n0.toUInt32 >>> ((8 : Int32).toUInt32 &&& Int32.toUInt32 31)).toInt32) &&& 255)) 3 (((n0.toUInt32 >>> ((0 : Int32).toUInt32 &&& Int32.toUInt32 31)).toInt32) &&& 255)) 4 (((n1.toUInt32 >>> ((24 : Int32).toUInt32 &&& Int32.toUInt32 31)).toInt32) &&& 255)) 5 (((n1.toUInt32 >>> ((16 : Int32).toUInt32 &&& Int32.toUInt32 31)).toInt32) &&& 255)) 6 (((n1.toUInt32 >>> ((8 : Int32).toUInt32 &&& Int32.toUInt32 31)).toInt32) &&& 255)) 7 (((n1.toUInt32 >>> ((0 : Int32).toUInt32 &&& Int32.toUInt32 31)).toInt32) &&& 255)) 8 (((n2.toUInt32 >>> ((24 : Int32).toUInt32 &&& Int32.toUInt32 31)).toInt32) &&& 255)) 9 (((n2.toUInt32 >>> ((16 : Int32).toUInt32 &&& Int32.toUInt32 31)).toInt32) &&& 255)) 10 (((n2.toUInt32 >>> ((8 : Int32).toUInt32 &&& Int32.toUInt32 31)).toInt32) &&& 255)) 11 (((n2.toUInt32 >>> ((0 : Int32).toUInt32 &&& Int32.toUInt32 31)).toInt32) &&& 255))))] := hD
    refine lv_aload_n hx hb dX11_feed_30 rfl (lv_at hl 0 rfl) ?_
    refine lv_iload hx hb dX11_feed_31 (lv_at hl 4 rfl) ?_
    have hPc := hP.sub (ws' := [(a0, .inr (11, [.ref a1, .ref a2, .ref a3, .ref a4, .ref a5, .ref a6, .ref a7, .ref a8, .ref a9, .ref a10, .int 12, .int 0, .int (-1), .ref a11, .int 0, .ref a12, .int 0])), (a10, .inl (G.2 0, 400, .inl (upd (upd (upd (upd (upd (upd (upd (upd (upd (upd (upd (upd (fun _ => 0) 0 (((n0.toUInt32 >>> ((24 : Int32).toUInt32 &&& Int32.toUInt32 31)).toInt32) &&& 255)) 1 (((n0.toUInt32 >>> ((16 : Int32).toUInt32 &&& Int32.toUInt32 31)).toInt32) &&& 255)) 2 (((n0.toUInt32 >>> ((8 : Int32).toUInt32 &&& Int32.toUInt32 31)).toInt32) &&& 255)) 3 (((n0.toUInt32 >>> ((0 : Int32).toUInt32 &&& Int32.toUInt32 31)).toInt32) &&& 255)) 4 (((n1.toUInt32 >>> ((24 : Int32).toUInt32 &&& Int32.toUInt32 31)).toInt32) &&& 255)) 5 (((n1.toUInt32 >>> ((16 : Int32).toUInt32 &&& Int32.toUInt32 31)).toInt32) &&& 255)) 6 (((n1.toUInt32 >>> ((8 : Int32).toUInt32 &&& Int32.toUInt32 31)).toInt32) &&& 255)) 7 (((n1.toUInt32 >>> ((0 : Int32).toUInt32 &&& Int32.toUInt32 31)).toInt32) &&& 255)) 8 (((n2.toUInt32 >>> ((24 : Int32).toUInt32 &&& Int32.toUInt32 31)).toInt32) &&& 255)) 9 (((n2.toUInt32 >>> ((16 : Int32).toUInt32 &&& Int32.toUInt32 31)).toInt32) &&& 255)) 10 (((n2.toUInt32 >>> ((8 : Int32).toUInt32 &&& Int32.toUInt32 31)).toInt32) &&& 255)) 11 (((n2.toUInt32 >>> ((0 : Int32).toUInt32 &&& Int32.toUInt32 31)).toInt32) &&& 255))))]) [0, 1] rfl
    have hDc := hD.sub (ws' := [(a0, .inr (11, [.ref a1, .ref a2, .ref a3, .ref a4, .ref a5, .ref a6, .ref a7, .ref a8, .ref a9, .ref a10, .int 12, .int 0, .int (-1), .ref a11, .int 0, .ref a12, .int 0])), (a10, .inl (G.2 0, 400, .inl (upd (upd (upd (upd (upd (upd (upd (upd (upd (upd (upd (upd (fun _ => 0) 0 (((n0.toUInt32 >>> ((24 : Int32).toUInt32 &&& Int32.toUInt32 31)).toInt32) &&& 255)) 1 (((n0.toUInt32 >>> ((16 : Int32).toUInt32 &&& Int32.toUInt32 31)).toInt32) &&& 255)) 2 (((n0.toUInt32 >>> ((8 : Int32).toUInt32 &&& Int32.toUInt32 31)).toInt32) &&& 255)) 3 (((n0.toUInt32 >>> ((0 : Int32).toUInt32 &&& Int32.toUInt32 31)).toInt32) &&& 255)) 4 (((n1.toUInt32 >>> ((24 : Int32).toUInt32 &&& Int32.toUInt32 31)).toInt32) &&& 255)) 5 (((n1.toUInt32 >>> ((16 : Int32).toUInt32 &&& Int32.toUInt32 31)).toInt32) &&& 255)) 6 (((n1.toUInt32 >>> ((8 : Int32).toUInt32 &&& Int32.toUInt32 31)).toInt32) &&& 255)) 7 (((n1.toUInt32 >>> ((0 : Int32).toUInt32 &&& Int32.toUInt32 31)).toInt32) &&& 255)) 8 (((n2.toUInt32 >>> ((24 : Int32).toUInt32 &&& Int32.toUInt32 31)).toInt32) &&& 255)) 9 (((n2.toUInt32 >>> ((16 : Int32).toUInt32 &&& Int32.toUInt32 31)).toInt32) &&& 255)) 10 (((n2.toUInt32 >>> ((8 : Int32).toUInt32 &&& Int32.toUInt32 31)).toInt32) &&& 255)) 11 (((n2.toUInt32 >>> ((0 : Int32).toUInt32 &&& Int32.toUInt32 31)).toInt32) &&& 255))))]) [0, 1] (by decide) rfl
    have hFc := va_free (wc := [(a0, .inr (11, [.ref a1, .ref a2, .ref a3, .ref a4, .ref a5, .ref a6, .ref a7, .ref a8, .ref a9, .ref a10, .int 12, .int 0, .int (-1), .ref a11, .int 0, .ref a12, .int 0])), (a10, .inl (G.2 0, 400, .inl (upd (upd (upd (upd (upd (upd (upd (upd (upd (upd (upd (upd (fun _ => 0) 0 (((n0.toUInt32 >>> ((24 : Int32).toUInt32 &&& Int32.toUInt32 31)).toInt32) &&& 255)) 1 (((n0.toUInt32 >>> ((16 : Int32).toUInt32 &&& Int32.toUInt32 31)).toInt32) &&& 255)) 2 (((n0.toUInt32 >>> ((8 : Int32).toUInt32 &&& Int32.toUInt32 31)).toInt32) &&& 255)) 3 (((n0.toUInt32 >>> ((0 : Int32).toUInt32 &&& Int32.toUInt32 31)).toInt32) &&& 255)) 4 (((n1.toUInt32 >>> ((24 : Int32).toUInt32 &&& Int32.toUInt32 31)).toInt32) &&& 255)) 5 (((n1.toUInt32 >>> ((16 : Int32).toUInt32 &&& Int32.toUInt32 31)).toInt32) &&& 255)) 6 (((n1.toUInt32 >>> ((8 : Int32).toUInt32 &&& Int32.toUInt32 31)).toInt32) &&& 255)) 7 (((n1.toUInt32 >>> ((0 : Int32).toUInt32 &&& Int32.toUInt32 31)).toInt32) &&& 255)) 8 (((n2.toUInt32 >>> ((24 : Int32).toUInt32 &&& Int32.toUInt32 31)).toInt32) &&& 255)) 9 (((n2.toUInt32 >>> ((16 : Int32).toUInt32 &&& Int32.toUInt32 31)).toInt32) &&& 255)) 10 (((n2.toUInt32 >>> ((8 : Int32).toUInt32 &&& Int32.toUInt32 31)).toInt32) &&& 255)) 11 (((n2.toUInt32 >>> ((0 : Int32).toUInt32 &&& Int32.toUInt32 31)).toInt32) &&& 255))))]) hD hS hA [0, 1] rfl
    refine va_callv (va_runV (As := [.int n3]) (rest := []) ⟨hx, hb, hml, hown, hts⟩ (kX11_write_4 l G a0 a1 a2 a3 a4 a5 a6 a7 a8 a9 a10 a11 a12 H.size n3 (upd (upd (upd (upd (upd (upd (upd (upd (upd (upd (upd (upd (fun _ => 0) 0 (((n0.toUInt32 >>> ((24 : Int32).toUInt32 &&& Int32.toUInt32 31)).toInt32) &&& 255)) 1 (((n0.toUInt32 >>> ((16 : Int32).toUInt32 &&& Int32.toUInt32 31)).toInt32) &&& 255)) 2 (((n0.toUInt32 >>> ((8 : Int32).toUInt32 &&& Int32.toUInt32 31)).toInt32) &&& 255)) 3 (((n0.toUInt32 >>> ((0 : Int32).toUInt32 &&& Int32.toUInt32 31)).toInt32) &&& 255)) 4 (((n1.toUInt32 >>> ((24 : Int32).toUInt32 &&& Int32.toUInt32 31)).toInt32) &&& 255)) 5 (((n1.toUInt32 >>> ((16 : Int32).toUInt32 &&& Int32.toUInt32 31)).toInt32) &&& 255)) 6 (((n1.toUInt32 >>> ((8 : Int32).toUInt32 &&& Int32.toUInt32 31)).toInt32) &&& 255)) 7 (((n1.toUInt32 >>> ((0 : Int32).toUInt32 &&& Int32.toUInt32 31)).toInt32) &&& 255)) 8 (((n2.toUInt32 >>> ((24 : Int32).toUInt32 &&& Int32.toUInt32 31)).toInt32) &&& 255)) 9 (((n2.toUInt32 >>> ((16 : Int32).toUInt32 &&& Int32.toUInt32 31)).toInt32) &&& 255)) 10 (((n2.toUInt32 >>> ((8 : Int32).toUInt32 &&& Int32.toUInt32 31)).toInt32) &&& 255)) 11 (((n2.toUInt32 >>> ((0 : Int32).toUInt32 &&& Int32.toUInt32 31)).toInt32) &&& 255))) (cwV 1 hts gV_X11_185 rfl rfl rfl hv_X11_write ⟨Nat.le_of_ble_eq_true rfl, Nat.le_of_ble_eq_true rfl⟩) (g5_preV hPc hK hDc hN hT hS hFc (ci := 11) (q0 := 0) rfl rfl) rfl rfl hl.1 rfl (lv_room (Nat.le_of_ble_eq_true rfl)) dX11_feed_33 ⟨Nat.le_of_ble_eq_true rfl, Nat.le_of_ble_eq_true rfl⟩) hS (fun q _ h => hFc q h) hFc (fun u t H1 locs ht hvm hw hB hz1 hk1 hS => ?_)
    obtain ⟨hP1, hD1⟩ := hB
    rw [ht] at hP1
    obtain rfl := hw
    obtain ⟨hP, hD⟩ := va_join (wr := []) (w1 := [(a0, .inr (11, [.ref a1, .ref a2, .ref a3, .ref a4, .ref a5, .ref a6, .ref a7, .ref a8, .ref a9, .ref a10, .int 16, .int 0, .int (-1), .ref a11, .int 0, .ref a12, .int 0])), (a10, .inl (G.2 0, 400, .inl (upd (upd (upd (upd (upd (upd (upd (upd (upd (upd (upd (upd (upd (upd (upd (upd (fun _ => 0) 0 (((n0.toUInt32 >>> ((24 : Int32).toUInt32 &&& Int32.toUInt32 31)).toInt32) &&& 255)) 1 (((n0.toUInt32 >>> ((16 : Int32).toUInt32 &&& Int32.toUInt32 31)).toInt32) &&& 255)) 2 (((n0.toUInt32 >>> ((8 : Int32).toUInt32 &&& Int32.toUInt32 31)).toInt32) &&& 255)) 3 (((n0.toUInt32 >>> ((0 : Int32).toUInt32 &&& Int32.toUInt32 31)).toInt32) &&& 255)) 4 (((n1.toUInt32 >>> ((24 : Int32).toUInt32 &&& Int32.toUInt32 31)).toInt32) &&& 255)) 5 (((n1.toUInt32 >>> ((16 : Int32).toUInt32 &&& Int32.toUInt32 31)).toInt32) &&& 255)) 6 (((n1.toUInt32 >>> ((8 : Int32).toUInt32 &&& Int32.toUInt32 31)).toInt32) &&& 255)) 7 (((n1.toUInt32 >>> ((0 : Int32).toUInt32 &&& Int32.toUInt32 31)).toInt32) &&& 255)) 8 (((n2.toUInt32 >>> ((24 : Int32).toUInt32 &&& Int32.toUInt32 31)).toInt32) &&& 255)) 9 (((n2.toUInt32 >>> ((16 : Int32).toUInt32 &&& Int32.toUInt32 31)).toInt32) &&& 255)) 10 (((n2.toUInt32 >>> ((8 : Int32).toUInt32 &&& Int32.toUInt32 31)).toInt32) &&& 255)) 11 (((n2.toUInt32 >>> ((0 : Int32).toUInt32 &&& Int32.toUInt32 31)).toInt32) &&& 255)) 12 (((n3.toUInt32 >>> ((24 : Int32).toUInt32 &&& Int32.toUInt32 31)).toInt32) &&& 255)) 13 (((n3.toUInt32 >>> ((16 : Int32).toUInt32 &&& Int32.toUInt32 31)).toInt32) &&& 255)) 14 (((n3.toUInt32 >>> ((8 : Int32).toUInt32 &&& Int32.toUInt32 31)).toInt32) &&& 255)) 15 (((n3.toUInt32 >>> ((0 : Int32).toUInt32 &&& Int32.toUInt32 31)).toInt32) &&& 255))))]) hP hD [0, 1] [] rfl rfl (by decide) (by decide) hk1 hFc hP1 hD1
    generalize H1 = H at hP hS ⊢
    have hP : va_P G.1 vwCl [(a0, .inr (11, [.ref a1, .ref a2, .ref a3, .ref a4, .ref a5, .ref a6, .ref a7, .ref a8, .ref a9, .ref a10, .int 16, .int 0, .int (-1), .ref a11, .int 0, .ref a12, .int 0])), (a10, .inl (G.2 0, 400, .inl (upd (upd (upd (upd (upd (upd (upd (upd (upd (upd (upd (upd (upd (upd (upd (upd (fun _ => 0) 0 (((n0.toUInt32 >>> ((24 : Int32).toUInt32 &&& Int32.toUInt32 31)).toInt32) &&& 255)) 1 (((n0.toUInt32 >>> ((16 : Int32).toUInt32 &&& Int32.toUInt32 31)).toInt32) &&& 255)) 2 (((n0.toUInt32 >>> ((8 : Int32).toUInt32 &&& Int32.toUInt32 31)).toInt32) &&& 255)) 3 (((n0.toUInt32 >>> ((0 : Int32).toUInt32 &&& Int32.toUInt32 31)).toInt32) &&& 255)) 4 (((n1.toUInt32 >>> ((24 : Int32).toUInt32 &&& Int32.toUInt32 31)).toInt32) &&& 255)) 5 (((n1.toUInt32 >>> ((16 : Int32).toUInt32 &&& Int32.toUInt32 31)).toInt32) &&& 255)) 6 (((n1.toUInt32 >>> ((8 : Int32).toUInt32 &&& Int32.toUInt32 31)).toInt32) &&& 255)) 7 (((n1.toUInt32 >>> ((0 : Int32).toUInt32 &&& Int32.toUInt32 31)).toInt32) &&& 255)) 8 (((n2.toUInt32 >>> ((24 : Int32).toUInt32 &&& Int32.toUInt32 31)).toInt32) &&& 255)) 9 (((n2.toUInt32 >>> ((16 : Int32).toUInt32 &&& Int32.toUInt32 31)).toInt32) &&& 255)) 10 (((n2.toUInt32 >>> ((8 : Int32).toUInt32 &&& Int32.toUInt32 31)).toInt32) &&& 255)) 11 (((n2.toUInt32 >>> ((0 : Int32).toUInt32 &&& Int32.toUInt32 31)).toInt32) &&& 255)) 12 (((n3.toUInt32 >>> ((24 : Int32).toUInt32 &&& Int32.toUInt32 31)).toInt32) &&& 255)) 13 (((n3.toUInt32 >>> ((16 : Int32).toUInt32 &&& Int32.toUInt32 31)).toInt32) &&& 255)) 14 (((n3.toUInt32 >>> ((8 : Int32).toUInt32 &&& Int32.toUInt32 31)).toInt32) &&& 255)) 15 (((n3.toUInt32 >>> ((0 : Int32).toUInt32 &&& Int32.toUInt32 31)).toInt32) &&& 255))))] H := hP
    have hD : va_D A [(a0, .inr (11, [.ref a1, .ref a2, .ref a3, .ref a4, .ref a5, .ref a6, .ref a7, .ref a8, .ref a9, .ref a10, .int 16, .int 0, .int (-1), .ref a11, .int 0, .ref a12, .int 0])), (a10, .inl (G.2 0, 400, .inl (upd (upd (upd (upd (upd (upd (upd (upd (upd (upd (upd (upd (upd (upd (upd (upd (fun _ => 0) 0 (((n0.toUInt32 >>> ((24 : Int32).toUInt32 &&& Int32.toUInt32 31)).toInt32) &&& 255)) 1 (((n0.toUInt32 >>> ((16 : Int32).toUInt32 &&& Int32.toUInt32 31)).toInt32) &&& 255)) 2 (((n0.toUInt32 >>> ((8 : Int32).toUInt32 &&& Int32.toUInt32 31)).toInt32) &&& 255)) 3 (((n0.toUInt32 >>> ((0 : Int32).toUInt32 &&& Int32.toUInt32 31)).toInt32) &&& 255)) 4 (((n1.toUInt32 >>> ((24 : Int32).toUInt32 &&& Int32.toUInt32 31)).toInt32) &&& 255)) 5 (((n1.toUInt32 >>> ((16 : Int32).toUInt32 &&& Int32.toUInt32 31)).toInt32) &&& 255)) 6 (((n1.toUInt32 >>> ((8 : Int32).toUInt32 &&& Int32.toUInt32 31)).toInt32) &&& 255)) 7 (((n1.toUInt32 >>> ((0 : Int32).toUInt32 &&& Int32.toUInt32 31)).toInt32) &&& 255)) 8 (((n2.toUInt32 >>> ((24 : Int32).toUInt32 &&& Int32.toUInt32 31)).toInt32) &&& 255)) 9 (((n2.toUInt32 >>> ((16 : Int32).toUInt32 &&& Int32.toUInt32 31)).toInt32) &&& 255)) 10 (((n2.toUInt32 >>> ((8 : Int32).toUInt32 &&& Int32.toUInt32 31)).toInt32) &&& 255)) 11 (((n2.toUInt32 >>> ((0 : Int32).toUInt32 &&& Int32.toUInt32 31)).toInt32) &&& 255)) 12 (((n3.toUInt32 >>> ((24 : Int32).toUInt32 &&& Int32.toUInt32 31)).toInt32) &&& 255)) 13 (((n3.toUInt32 >>> ((16 : Int32).toUInt32 &&& Int32.toUInt32 31)).toInt32) &&& 255)) 14 (((n3.toUInt32 >>> ((8 : Int32).toUInt32 &&& Int32.toUInt32 31)).toInt32) &&& 255)) 15 (((n3.toUInt32 >>> ((0 : Int32).toUInt32 &&& Int32.toUInt32 31)).toInt32) &&& 255))))] := hD
    refine lv_aload_n hx hb dX11_feed_36 rfl (lv_at hl 0 rfl) ?_
    refine lv_iload hx hb dX11_feed_37 (lv_at hl 5 rfl) ?_
    have hPc := hP.sub (ws' := [(a0, .inr (11, [.ref a1, .ref a2, .ref a3, .ref a4, .ref a5, .ref a6, .ref a7, .ref a8, .ref a9, .ref a10, .int 16, .int 0, .int (-1), .ref a11, .int 0, .ref a12, .int 0])), (a10, .inl (G.2 0, 400, .inl (upd (upd (upd (upd (upd (upd (upd (upd (upd (upd (upd (upd (upd (upd (upd (upd (fun _ => 0) 0 (((n0.toUInt32 >>> ((24 : Int32).toUInt32 &&& Int32.toUInt32 31)).toInt32) &&& 255)) 1 (((n0.toUInt32 >>> ((16 : Int32).toUInt32 &&& Int32.toUInt32 31)).toInt32) &&& 255)) 2 (((n0.toUInt32 >>> ((8 : Int32).toUInt32 &&& Int32.toUInt32 31)).toInt32) &&& 255)) 3 (((n0.toUInt32 >>> ((0 : Int32).toUInt32 &&& Int32.toUInt32 31)).toInt32) &&& 255)) 4 (((n1.toUInt32 >>> ((24 : Int32).toUInt32 &&& Int32.toUInt32 31)).toInt32) &&& 255)) 5 (((n1.toUInt32 >>> ((16 : Int32).toUInt32 &&& Int32.toUInt32 31)).toInt32) &&& 255)) 6 (((n1.toUInt32 >>> ((8 : Int32).toUInt32 &&& Int32.toUInt32 31)).toInt32) &&& 255)) 7 (((n1.toUInt32 >>> ((0 : Int32).toUInt32 &&& Int32.toUInt32 31)).toInt32) &&& 255)) 8 (((n2.toUInt32 >>> ((24 : Int32).toUInt32 &&& Int32.toUInt32 31)).toInt32) &&& 255)) 9 (((n2.toUInt32 >>> ((16 : Int32).toUInt32 &&& Int32.toUInt32 31)).toInt32) &&& 255)) 10 (((n2.toUInt32 >>> ((8 : Int32).toUInt32 &&& Int32.toUInt32 31)).toInt32) &&& 255)) 11 (((n2.toUInt32 >>> ((0 : Int32).toUInt32 &&& Int32.toUInt32 31)).toInt32) &&& 255)) 12 (((n3.toUInt32 >>> ((24 : Int32).toUInt32 &&& Int32.toUInt32 31)).toInt32) &&& 255)) 13 (((n3.toUInt32 >>> ((16 : Int32).toUInt32 &&& Int32.toUInt32 31)).toInt32) &&& 255)) 14 (((n3.toUInt32 >>> ((8 : Int32).toUInt32 &&& Int32.toUInt32 31)).toInt32) &&& 255)) 15 (((n3.toUInt32 >>> ((0 : Int32).toUInt32 &&& Int32.toUInt32 31)).toInt32) &&& 255))))]) [0, 1] rfl
    have hDc := hD.sub (ws' := [(a0, .inr (11, [.ref a1, .ref a2, .ref a3, .ref a4, .ref a5, .ref a6, .ref a7, .ref a8, .ref a9, .ref a10, .int 16, .int 0, .int (-1), .ref a11, .int 0, .ref a12, .int 0])), (a10, .inl (G.2 0, 400, .inl (upd (upd (upd (upd (upd (upd (upd (upd (upd (upd (upd (upd (upd (upd (upd (upd (fun _ => 0) 0 (((n0.toUInt32 >>> ((24 : Int32).toUInt32 &&& Int32.toUInt32 31)).toInt32) &&& 255)) 1 (((n0.toUInt32 >>> ((16 : Int32).toUInt32 &&& Int32.toUInt32 31)).toInt32) &&& 255)) 2 (((n0.toUInt32 >>> ((8 : Int32).toUInt32 &&& Int32.toUInt32 31)).toInt32) &&& 255)) 3 (((n0.toUInt32 >>> ((0 : Int32).toUInt32 &&& Int32.toUInt32 31)).toInt32) &&& 255)) 4 (((n1.toUInt32 >>> ((24 : Int32).toUInt32 &&& Int32.toUInt32 31)).toInt32) &&& 255)) 5 (((n1.toUInt32 >>> ((16 : Int32).toUInt32 &&& Int32.toUInt32 31)).toInt32) &&& 255)) 6 (((n1.toUInt32 >>> ((8 : Int32).toUInt32 &&& Int32.toUInt32 31)).toInt32) &&& 255)) 7 (((n1.toUInt32 >>> ((0 : Int32).toUInt32 &&& Int32.toUInt32 31)).toInt32) &&& 255)) 8 (((n2.toUInt32 >>> ((24 : Int32).toUInt32 &&& Int32.toUInt32 31)).toInt32) &&& 255)) 9 (((n2.toUInt32 >>> ((16 : Int32).toUInt32 &&& Int32.toUInt32 31)).toInt32) &&& 255)) 10 (((n2.toUInt32 >>> ((8 : Int32).toUInt32 &&& Int32.toUInt32 31)).toInt32) &&& 255)) 11 (((n2.toUInt32 >>> ((0 : Int32).toUInt32 &&& Int32.toUInt32 31)).toInt32) &&& 255)) 12 (((n3.toUInt32 >>> ((24 : Int32).toUInt32 &&& Int32.toUInt32 31)).toInt32) &&& 255)) 13 (((n3.toUInt32 >>> ((16 : Int32).toUInt32 &&& Int32.toUInt32 31)).toInt32) &&& 255)) 14 (((n3.toUInt32 >>> ((8 : Int32).toUInt32 &&& Int32.toUInt32 31)).toInt32) &&& 255)) 15 (((n3.toUInt32 >>> ((0 : Int32).toUInt32 &&& Int32.toUInt32 31)).toInt32) &&& 255))))]) [0, 1] (by decide) rfl
    have hFc := va_free (wc := [(a0, .inr (11, [.ref a1, .ref a2, .ref a3, .ref a4, .ref a5, .ref a6, .ref a7, .ref a8, .ref a9, .ref a10, .int 16, .int 0, .int (-1), .ref a11, .int 0, .ref a12, .int 0])), (a10, .inl (G.2 0, 400, .inl (upd (upd (upd (upd (upd (upd (upd (upd (upd (upd (upd (upd (upd (upd (upd (upd (fun _ => 0) 0 (((n0.toUInt32 >>> ((24 : Int32).toUInt32 &&& Int32.toUInt32 31)).toInt32) &&& 255)) 1 (((n0.toUInt32 >>> ((16 : Int32).toUInt32 &&& Int32.toUInt32 31)).toInt32) &&& 255)) 2 (((n0.toUInt32 >>> ((8 : Int32).toUInt32 &&& Int32.toUInt32 31)).toInt32) &&& 255)) 3 (((n0.toUInt32 >>> ((0 : Int32).toUInt32 &&& Int32.toUInt32 31)).toInt32) &&& 255)) 4 (((n1.toUInt32 >>> ((24 : Int32).toUInt32 &&& Int32.toUInt32 31)).toInt32) &&& 255)) 5 (((n1.toUInt32 >>> ((16 : Int32).toUInt32 &&& Int32.toUInt32 31)).toInt32) &&& 255)) 6 (((n1.toUInt32 >>> ((8 : Int32).toUInt32 &&& Int32.toUInt32 31)).toInt32) &&& 255)) 7 (((n1.toUInt32 >>> ((0 : Int32).toUInt32 &&& Int32.toUInt32 31)).toInt32) &&& 255)) 8 (((n2.toUInt32 >>> ((24 : Int32).toUInt32 &&& Int32.toUInt32 31)).toInt32) &&& 255)) 9 (((n2.toUInt32 >>> ((16 : Int32).toUInt32 &&& Int32.toUInt32 31)).toInt32) &&& 255)) 10 (((n2.toUInt32 >>> ((8 : Int32).toUInt32 &&& Int32.toUInt32 31)).toInt32) &&& 255)) 11 (((n2.toUInt32 >>> ((0 : Int32).toUInt32 &&& Int32.toUInt32 31)).toInt32) &&& 255)) 12 (((n3.toUInt32 >>> ((24 : Int32).toUInt32 &&& Int32.toUInt32 31)).toInt32) &&& 255)) 13 (((n3.toUInt32 >>> ((16 : Int32).toUInt32 &&& Int32.toUInt32 31)).toInt32) &&& 255)) 14 (((n3.toUInt32 >>> ((8 : Int32).toUInt32 &&& Int32.toUInt32 31)).toInt32) &&& 255)) 15 (((n3.toUInt32 >>> ((0 : Int32).toUInt32 &&& Int32.toUInt32 31)).toInt32) &&& 255))))]) hD hS hA [0, 1] rfl
    refine va_callv (va_runV (As := [.int n4]) (rest := []) ⟨hx, hb, hml, hown, hts⟩ (kX11_write_5 l G a0 a1 a2 a3 a4 a5 a6 a7 a8 a9 a10 a11 a12 H.size n4 (upd (upd (upd (upd (upd (upd (upd (upd (upd (upd (upd (upd (upd (upd (upd (upd (fun _ => 0) 0 (((n0.toUInt32 >>> ((24 : Int32).toUInt32 &&& Int32.toUInt32 31)).toInt32) &&& 255)) 1 (((n0.toUInt32 >>> ((16 : Int32).toUInt32 &&& Int32.toUInt32 31)).toInt32) &&& 255)) 2 (((n0.toUInt32 >>> ((8 : Int32).toUInt32 &&& Int32.toUInt32 31)).toInt32) &&& 255)) 3 (((n0.toUInt32 >>> ((0 : Int32).toUInt32 &&& Int32.toUInt32 31)).toInt32) &&& 255)) 4 (((n1.toUInt32 >>> ((24 : Int32).toUInt32 &&& Int32.toUInt32 31)).toInt32) &&& 255)) 5 (((n1.toUInt32 >>> ((16 : Int32).toUInt32 &&& Int32.toUInt32 31)).toInt32) &&& 255)) 6 (((n1.toUInt32 >>> ((8 : Int32).toUInt32 &&& Int32.toUInt32 31)).toInt32) &&& 255)) 7 (((n1.toUInt32 >>> ((0 : Int32).toUInt32 &&& Int32.toUInt32 31)).toInt32) &&& 255)) 8 (((n2.toUInt32 >>> ((24 : Int32).toUInt32 &&& Int32.toUInt32 31)).toInt32) &&& 255)) 9 (((n2.toUInt32 >>> ((16 : Int32).toUInt32 &&& Int32.toUInt32 31)).toInt32) &&& 255)) 10 (((n2.toUInt32 >>> ((8 : Int32).toUInt32 &&& Int32.toUInt32 31)).toInt32) &&& 255)) 11 (((n2.toUInt32 >>> ((0 : Int32).toUInt32 &&& Int32.toUInt32 31)).toInt32) &&& 255)) 12 (((n3.toUInt32 >>> ((24 : Int32).toUInt32 &&& Int32.toUInt32 31)).toInt32) &&& 255)) 13 (((n3.toUInt32 >>> ((16 : Int32).toUInt32 &&& Int32.toUInt32 31)).toInt32) &&& 255)) 14 (((n3.toUInt32 >>> ((8 : Int32).toUInt32 &&& Int32.toUInt32 31)).toInt32) &&& 255)) 15 (((n3.toUInt32 >>> ((0 : Int32).toUInt32 &&& Int32.toUInt32 31)).toInt32) &&& 255))) (cwV 1 hts gV_X11_185 rfl rfl rfl hv_X11_write ⟨Nat.le_of_ble_eq_true rfl, Nat.le_of_ble_eq_true rfl⟩) (g5_preV hPc hK hDc hN hT hS hFc (ci := 11) (q0 := 0) rfl rfl) rfl rfl hl.1 rfl (lv_room (Nat.le_of_ble_eq_true rfl)) dX11_feed_39 ⟨Nat.le_of_ble_eq_true rfl, Nat.le_of_ble_eq_true rfl⟩) hS (fun q _ h => hFc q h) hFc (fun u t H1 locs ht hvm hw hB hz1 hk1 hS => ?_)
    obtain ⟨hP1, hD1⟩ := hB
    rw [ht] at hP1
    obtain rfl := hw
    obtain ⟨hP, hD⟩ := va_join (wr := []) (w1 := [(a0, .inr (11, [.ref a1, .ref a2, .ref a3, .ref a4, .ref a5, .ref a6, .ref a7, .ref a8, .ref a9, .ref a10, .int 20, .int 0, .int (-1), .ref a11, .int 0, .ref a12, .int 0])), (a10, .inl (G.2 0, 400, .inl (upd (upd (upd (upd (upd (upd (upd (upd (upd (upd (upd (upd (upd (upd (upd (upd (upd (upd (upd (upd (fun _ => 0) 0 (((n0.toUInt32 >>> ((24 : Int32).toUInt32 &&& Int32.toUInt32 31)).toInt32) &&& 255)) 1 (((n0.toUInt32 >>> ((16 : Int32).toUInt32 &&& Int32.toUInt32 31)).toInt32) &&& 255)) 2 (((n0.toUInt32 >>> ((8 : Int32).toUInt32 &&& Int32.toUInt32 31)).toInt32) &&& 255)) 3 (((n0.toUInt32 >>> ((0 : Int32).toUInt32 &&& Int32.toUInt32 31)).toInt32) &&& 255)) 4 (((n1.toUInt32 >>> ((24 : Int32).toUInt32 &&& Int32.toUInt32 31)).toInt32) &&& 255)) 5 (((n1.toUInt32 >>> ((16 : Int32).toUInt32 &&& Int32.toUInt32 31)).toInt32) &&& 255)) 6 (((n1.toUInt32 >>> ((8 : Int32).toUInt32 &&& Int32.toUInt32 31)).toInt32) &&& 255)) 7 (((n1.toUInt32 >>> ((0 : Int32).toUInt32 &&& Int32.toUInt32 31)).toInt32) &&& 255)) 8 (((n2.toUInt32 >>> ((24 : Int32).toUInt32 &&& Int32.toUInt32 31)).toInt32) &&& 255)) 9 (((n2.toUInt32 >>> ((16 : Int32).toUInt32 &&& Int32.toUInt32 31)).toInt32) &&& 255)) 10 (((n2.toUInt32 >>> ((8 : Int32).toUInt32 &&& Int32.toUInt32 31)).toInt32) &&& 255)) 11 (((n2.toUInt32 >>> ((0 : Int32).toUInt32 &&& Int32.toUInt32 31)).toInt32) &&& 255)) 12 (((n3.toUInt32 >>> ((24 : Int32).toUInt32 &&& Int32.toUInt32 31)).toInt32) &&& 255)) 13 (((n3.toUInt32 >>> ((16 : Int32).toUInt32 &&& Int32.toUInt32 31)).toInt32) &&& 255)) 14 (((n3.toUInt32 >>> ((8 : Int32).toUInt32 &&& Int32.toUInt32 31)).toInt32) &&& 255)) 15 (((n3.toUInt32 >>> ((0 : Int32).toUInt32 &&& Int32.toUInt32 31)).toInt32) &&& 255)) 16 (((n4.toUInt32 >>> ((24 : Int32).toUInt32 &&& Int32.toUInt32 31)).toInt32) &&& 255)) 17 (((n4.toUInt32 >>> ((16 : Int32).toUInt32 &&& Int32.toUInt32 31)).toInt32) &&& 255)) 18 (((n4.toUInt32 >>> ((8 : Int32).toUInt32 &&& Int32.toUInt32 31)).toInt32) &&& 255)) 19 (((n4.toUInt32 >>> ((0 : Int32).toUInt32 &&& Int32.toUInt32 31)).toInt32) &&& 255))))]) hP hD [0, 1] [] rfl rfl (by decide) (by decide) hk1 hFc hP1 hD1
    generalize H1 = H at hP hS ⊢
    have hP : va_P G.1 vwCl [(a0, .inr (11, [.ref a1, .ref a2, .ref a3, .ref a4, .ref a5, .ref a6, .ref a7, .ref a8, .ref a9, .ref a10, .int 20, .int 0, .int (-1), .ref a11, .int 0, .ref a12, .int 0])), (a10, .inl (G.2 0, 400, .inl (upd (upd (upd (upd (upd (upd (upd (upd (upd (upd (upd (upd (upd (upd (upd (upd (upd (upd (upd (upd (fun _ => 0) 0 (((n0.toUInt32 >>> ((24 : Int32).toUInt32 &&& Int32.toUInt32 31)).toInt32) &&& 255)) 1 (((n0.toUInt32 >>> ((16 : Int32).toUInt32 &&& Int32.toUInt32 31)).toInt32) &&& 255)) 2 (((n0.toUInt32 >>> ((8 : Int32).toUInt32 &&& Int32.toUInt32 31)).toInt32) &&& 255)) 3 (((n0.toUInt32 >>> ((0 : Int32).toUInt32 &&& Int32.toUInt32 31)).toInt32) &&& 255)) 4 (((n1.toUInt32 >>> ((24 : Int32).toUInt32 &&& Int32.toUInt32 31)).toInt32) &&& 255)) 5 (((n1.toUInt32 >>> ((16 : Int32).toUInt32 &&& Int32.toUInt32 31)).toInt32) &&& 255)) 6 (((n1.toUInt32 >>> ((8 : Int32).toUInt32 &&& Int32.toUInt32 31)).toInt32) &&& 255)) 7 (((n1.toUInt32 >>> ((0 : Int32).toUInt32 &&& Int32.toUInt32 31)).toInt32) &&& 255)) 8 (((n2.toUInt32 >>> ((24 : Int32).toUInt32 &&& Int32.toUInt32 31)).toInt32) &&& 255)) 9 (((n2.toUInt32 >>> ((16 : Int32).toUInt32 &&& Int32.toUInt32 31)).toInt32) &&& 255)) 10 (((n2.toUInt32 >>> ((8 : Int32).toUInt32 &&& Int32.toUInt32 31)).toInt32) &&& 255)) 11 (((n2.toUInt32 >>> ((0 : Int32).toUInt32 &&& Int32.toUInt32 31)).toInt32) &&& 255)) 12 (((n3.toUInt32 >>> ((24 : Int32).toUInt32 &&& Int32.toUInt32 31)).toInt32) &&& 255)) 13 (((n3.toUInt32 >>> ((16 : Int32).toUInt32 &&& Int32.toUInt32 31)).toInt32) &&& 255)) 14 (((n3.toUInt32 >>> ((8 : Int32).toUInt32 &&& Int32.toUInt32 31)).toInt32) &&& 255)) 15 (((n3.toUInt32 >>> ((0 : Int32).toUInt32 &&& Int32.toUInt32 31)).toInt32) &&& 255)) 16 (((n4.toUInt32 >>> ((24 : Int32).toUInt32 &&& Int32.toUInt32 31)).toInt32) &&& 255)) 17 (((n4.toUInt32 >>> ((16 : Int32).toUInt32 &&& Int32.toUInt32 31)).toInt32) &&& 255)) 18 (((n4.toUInt32 >>> ((8 : Int32).toUInt32 &&& Int32.toUInt32 31)).toInt32) &&& 255)) 19 (((n4.toUInt32 >>> ((0 : Int32).toUInt32 &&& Int32.toUInt32 31)).toInt32) &&& 255))))] H := hP
    have hD : va_D A [(a0, .inr (11, [.ref a1, .ref a2, .ref a3, .ref a4, .ref a5, .ref a6, .ref a7, .ref a8, .ref a9, .ref a10, .int 20, .int 0, .int (-1), .ref a11, .int 0, .ref a12, .int 0])), (a10, .inl (G.2 0, 400, .inl (upd (upd (upd (upd (upd (upd (upd (upd (upd (upd (upd (upd (upd (upd (upd (upd (upd (upd (upd (upd (fun _ => 0) 0 (((n0.toUInt32 >>> ((24 : Int32).toUInt32 &&& Int32.toUInt32 31)).toInt32) &&& 255)) 1 (((n0.toUInt32 >>> ((16 : Int32).toUInt32 &&& Int32.toUInt32 31)).toInt32) &&& 255)) 2 (((n0.toUInt32 >>> ((8 : Int32).toUInt32 &&& Int32.toUInt32 31)).toInt32) &&& 255)) 3 (((n0.toUInt32 >>> ((0 : Int32).toUInt32 &&& Int32.toUInt32 31)).toInt32) &&& 255)) 4 (((n1.toUInt32 >>> ((24 : Int32).toUInt32 &&& Int32.toUInt32 31)).toInt32) &&& 255)) 5 (((n1.toUInt32 >>> ((16 : Int32).toUInt32 &&& Int32.toUInt32 31)).toInt32) &&& 255)) 6 (((n1.toUInt32 >>> ((8 : Int32).toUInt32 &&& Int32.toUInt32 31)).toInt32) &&& 255)) 7 (((n1.toUInt32 >>> ((0 : Int32).toUInt32 &&& Int32.toUInt32 31)).toInt32) &&& 255)) 8 (((n2.toUInt32 >>> ((24 : Int32).toUInt32 &&& Int32.toUInt32 31)).toInt32) &&& 255)) 9 (((n2.toUInt32 >>> ((16 : Int32).toUInt32 &&& Int32.toUInt32 31)).toInt32) &&& 255)) 10 (((n2.toUInt32 >>> ((8 : Int32).toUInt32 &&& Int32.toUInt32 31)).toInt32) &&& 255)) 11 (((n2.toUInt32 >>> ((0 : Int32).toUInt32 &&& Int32.toUInt32 31)).toInt32) &&& 255)) 12 (((n3.toUInt32 >>> ((24 : Int32).toUInt32 &&& Int32.toUInt32 31)).toInt32) &&& 255)) 13 (((n3.toUInt32 >>> ((16 : Int32).toUInt32 &&& Int32.toUInt32 31)).toInt32) &&& 255)) 14 (((n3.toUInt32 >>> ((8 : Int32).toUInt32 &&& Int32.toUInt32 31)).toInt32) &&& 255)) 15 (((n3.toUInt32 >>> ((0 : Int32).toUInt32 &&& Int32.toUInt32 31)).toInt32) &&& 255)) 16 (((n4.toUInt32 >>> ((24 : Int32).toUInt32 &&& Int32.toUInt32 31)).toInt32) &&& 255)) 17 (((n4.toUInt32 >>> ((16 : Int32).toUInt32 &&& Int32.toUInt32 31)).toInt32) &&& 255)) 18 (((n4.toUInt32 >>> ((8 : Int32).toUInt32 &&& Int32.toUInt32 31)).toInt32) &&& 255)) 19 (((n4.toUInt32 >>> ((0 : Int32).toUInt32 &&& Int32.toUInt32 31)).toInt32) &&& 255))))] := hD
    refine lv_aload_n hx hb dX11_feed_42 rfl (lv_at hl 0 rfl) ?_
    refine va_get (D := G.1) (ci := 11) (v := .int 20) (C := RX11) (T := TX11) (N := 17) hx hb hts inG_X11 hown hK hP 0 rfl rfl 10 (by decide) (hts _ fl_X11_74) (fun _ h9 => h9) rfl dX11_feed_43 ?_
    have hP := hP.sub (ws' := []) [] rfl
    have hD := hD.sub (ws' := []) [] (by decide) rfl
    exact W.iret (v := 20) hx hb hr (fun t ht hW => ⟨⟨20, [], rfl, ⟨rfl, rfl⟩, by rw [ht]; exact hP, hD⟩, hS.F ht⟩) hS.2.2 dX11_feed_46
  ·
    exact absurd c_1 (by decide)
theorem dX11_end_0 : decode cX11_end 0 = .ok (.iload_n 1, 1) := by decide +kernel
theorem dX11_end_1 : decode cX11_end 1 = .ok (.ifCond .lt 11, 3) := by decide +kernel
theorem dX11_end_4 : decode cX11_end 4 = .ok (.iload_n 1, 1) := by decide +kernel
theorem dX11_end_5 : decode cX11_end 5 = .ok (.aload_n 0, 1) := by decide +kernel
theorem dX11_end_6 : decode cX11_end 6 = .ok (.getfield 74, 3) := by decide +kernel
theorem dX11_end_9 : decode cX11_end 9 = .ok (.if_icmp .le 5, 3) := by decide +kernel
theorem dX11_end_12 : decode cX11_end 12 = .ok (.iconst (-1), 1) := by decide +kernel
theorem dX11_end_13 : decode cX11_end 13 = .ok (.ireturn, 1) := by decide +kernel
theorem dX11_end_14 : decode cX11_end 14 = .ok (.aload_n 0, 1) := by decide +kernel
theorem dX11_end_15 : decode cX11_end 15 = .ok (.iload_n 1, 1) := by decide +kernel
theorem dX11_end_16 : decode cX11_end 16 = .ok (.putfield 74, 3) := by decide +kernel
theorem dX11_end_19 : decode cX11_end 19 = .ok (.iload_n 1, 1) := by decide +kernel
theorem dX11_end_20 : decode cX11_end 20 = .ok (.ireturn, 1) := by decide +kernel
set_option maxHeartbeats 4000000 in
set_option maxRecDepth 100000 in
theorem kX11_end (l : Launch) (G : g5_G) (a0 a1 a2 a3 a4 a5 a6 a7 a8 a9 a10 a11 a12 : Nat) (sz : Nat) (n0 : Int32) : Met l yX11_end (wsG yX11_end cX11_end 2 (some .int)) ({ frames := 0, cells := 0, slots := 0, locals := 0 }) (va_Pc [.ref a0, .int n0] (g5_P G [(a0, .inr (11, [.ref a1, .ref a2, .ref a3, .ref a4, .ref a5, .ref a6, .ref a7, .ref a8, .ref a9, .ref a10, .int 0, .int 0, .int (-1), .ref a11, .int 0, .ref a12, .int 0]))] sz)) (va_Qi (fun (r : Int32) (u : va_W) => ((n0.toInt < 0) ∧ (r = (-1)) ∧ (u = [])) ∨ ((n0.toInt ≥ 0) ∧ (n0.toInt ≤ 0) ∧ (r = n0) ∧ (u = [])) ∨ ((n0.toInt ≥ 0) ∧ (n0.toInt > 0) ∧ (r = (-1)) ∧ (u = []))) (g5_B G (va_A [(a0, .inr (11, [.ref a1, .ref a2, .ref a3, .ref a4, .ref a5, .ref a6, .ref a7, .ref a8, .ref a9, .ref a10, .int 0, .int 0, .int (-1), .ref a11, .int 0, .ref a12, .int 0]))] sz)) (va_A [(a0, .inr (11, [.ref a1, .ref a2, .ref a3, .ref a4, .ref a5, .ref a6, .ref a7, .ref a8, .ref a9, .ref a10, .int 0, .int 0, .int (-1), .ref a11, .int 0, .ref a12, .int 0]))] sz)) 0 0 (va_A [(a0, .inr (11, [.ref a1, .ref a2, .ref a3, .ref a4, .ref a5, .ref a6, .ref a7, .ref a8, .ref a9, .ref a10, .int 0, .int 0, .int (-1), .ref a11, .int 0, .ref a12, .int 0]))] sz) := by
  refine Met.ofW (cc := cX11_end) (maxL := 2) (ret := (some .int)) (by decide) rfl ?_
  intro p e s m args below meth c s₁ B hml hv
  obtain ⟨rfl, hsz, hP, hK, hD0, hN, hT⟩ := hv
  have hx := B.exec
  have hb := B.bytes
  have hr := B.returns
  have hts : ∀ w ∈ tblG, w.before _ s = true := fun w h => atoms_spec (ws := (wsG yX11_end cX11_end 2 (some .int))) B.pre w (List.mem_cons_of_mem _ h)
  have hown : s.vm.findClass RX11 = some m.cls := findClass_of_methodNamed B.named
  have hlocks := B.notSynchronized
  subst hsz
  have hD := hD0.self (sz := s.heap.size)
  generalize hAe : va_A [(a0, .inr (11, [.ref a1, .ref a2, .ref a3, .ref a4, .ref a5, .ref a6, .ref a7, .ref a8, .ref a9, .ref a10, .int 0, .int 0, .int (-1), .ref a11, .int 0, .ref a12, .int 0]))] s.heap.size = A at hD hT ⊢
  have hA : ∀ q : Nat, s.heap.size ≤ q → A q := fun q h => by rw [← hAe]; exact Or.inr h
  have hS : va_S A s.heap s.heap [] := va_S.rf
  have hP : va_P G.1 vwCl [(a0, .inr (11, [.ref a1, .ref a2, .ref a3, .ref a4, .ref a5, .ref a6, .ref a7, .ref a8, .ref a9, .ref a10, .int 0, .int 0, .int (-1), .ref a11, .int 0, .ref a12, .int 0]))] s.heap := hP
  have hl := lv_entry ([.ref a0, .int n0]) (n := 2) (Nat.le_of_ble_eq_true rfl)
  rw [lg_entry_eq]
  generalize (lg_sl ([.ref a0, .int n0]) ++ List.replicate (2 - (lg_sl ([.ref a0, .int n0])).length) Slot.unset).toArray = ls at hl ⊢
  have hl : lv_has ls 2 [(0, .ref a0), (1, .int n0)] := hl
  refine lv_iload_n hx hb dX11_end_0 rfl (lv_at hl 1 rfl) ?_
  refine lv_if_lt (tgt := 12) hx hb dX11_end_1 (by decide) (fun c_1 => ?_) (fun c_1 => ?_)
  ·
    have i_1 : n0.toInt < 0 := by have z := g5_lt (a := n0.toInt) (b := 0) (by rfl) (by decide) c_1; omega
    refine lv_iconst (v := (-1)) hx hb dX11_end_12 (by decide) ?_
    have hP := hP.sub (ws' := []) [] rfl
    have hD := hD.sub (ws' := []) [] (by decide) rfl
    exact W.iret (v := (-1)) hx hb hr (fun t ht hW => ⟨⟨(-1), [], rfl, Or.inl (⟨i_1, rfl, rfl⟩), by rw [ht]; exact hP, hD⟩, hS.F ht⟩) hS.2.2 dX11_end_13
  ·
    have i_1 : n0.toInt ≥ 0 := by have z := g5_ltN (a := n0.toInt) (b := 0) (by rfl) (by decide) c_1; omega
    refine lv_iload_n hx hb dX11_end_4 rfl (lv_at hl 1 rfl) ?_
    refine lv_aload_n hx hb dX11_end_5 rfl (lv_at hl 0 rfl) ?_
    refine va_get (D := G.1) (ci := 11) (v := .int 0) (C := RX11) (T := TX11) (N := 17) hx hb hts inG_X11 hown hK hP 0 rfl rfl 10 (by decide) (hts _ fl_X11_74) (fun _ h9 => h9) rfl dX11_end_6 ?_
    refine lv_icmp_le (tgt := 14) hx hb dX11_end_9 (by decide) (fun c_2 => ?_) (fun c_2 => ?_)
    ·
      have i_2 : n0.toInt ≤ 0 := by have z := g5_le (a := n0.toInt) (b := 0) (by rfl) (by decide) c_2; omega
      refine lv_aload_n hx hb dX11_end_14 rfl (lv_at hl 0 rfl) ?_
      refine lv_iload_n hx hb dX11_end_15 rfl (lv_at hl 1 rfl) ?_
      refine va_put (D := G.1) (ci := 11) (v := .int n0) (ty := .int) (C := RX11) (T := TX11) (N := 17) hx hb hts inG_X11 tyX11 tyX11_ok nmX11 hown hK hP hD hS 0 rfl rfl 10 (by decide) (hts _ fl_X11_74) (fun _ h9 => h9) rfl (by decide +kernel) rfl rfl (Nat.le_of_ble_eq_true rfl) dX11_end_16 (fun H locs hP hD hS => ?_)
      have hP : va_P G.1 vwCl [(a0, .inr (11, [.ref a1, .ref a2, .ref a3, .ref a4, .ref a5, .ref a6, .ref a7, .ref a8, .ref a9, .ref a10, .int n0, .int 0, .int (-1), .ref a11, .int 0, .ref a12, .int 0]))] H := hP
      have hD : va_D A [(a0, .inr (11, [.ref a1, .ref a2, .ref a3, .ref a4, .ref a5, .ref a6, .ref a7, .ref a8, .ref a9, .ref a10, .int n0, .int 0, .int (-1), .ref a11, .int 0, .ref a12, .int 0]))] := hD
      refine lv_iload_n hx hb dX11_end_19 rfl (lv_at hl 1 rfl) ?_
      have hP := hP.sub (ws' := []) [] rfl
      have hD := hD.sub (ws' := []) [] (by decide) rfl
      exact W.iret (v := n0) hx hb hr (fun t ht hW => ⟨⟨n0, [], rfl, Or.inr (Or.inl (⟨i_1, i_2, rfl, rfl⟩)), by rw [ht]; exact hP, hD⟩, hS.F ht⟩) hS.2.2 dX11_end_20
    ·
      have i_2 : n0.toInt > 0 := by have z := g5_leN (a := n0.toInt) (b := 0) (by rfl) (by decide) c_2; omega
      refine lv_iconst (v := (-1)) hx hb dX11_end_12 (by decide) ?_
      have hP := hP.sub (ws' := []) [] rfl
      have hD := hD.sub (ws' := []) [] (by decide) rfl
      exact W.iret (v := (-1)) hx hb hr (fun t ht hW => ⟨⟨(-1), [], rfl, Or.inr (Or.inr (⟨i_1, i_2, rfl, rfl⟩)), by rw [ht]; exact hP, hD⟩, hS.F ht⟩) hS.2.2 dX11_end_13
set_option maxHeartbeats 4000000 in
set_option maxRecDepth 100000 in
theorem kX11_refuse_3 (l : Launch) (G : g5_G) (a0 a1 a2 a3 a4 a5 a6 a7 a8 a9 a10 a11 a12 : Nat) (sz : Nat) : Met l yX11_refuse (wsG yX11_refuse cX11_refuse 3 (some .int)) ({ frames := 0, cells := 0, slots := 0, locals := 0 }) (va_Pc [.ref a0, .int (-6)] (g5_P G [(a0, .inr (11, [.ref a1, .ref a2, .ref a3, .ref a4, .ref a5, .ref a6, .ref a7, .ref a8, .ref a9, .ref a10, .int 0, .int 0, .int (-1), .ref a11, .int 0, .ref a12, .int 0])), (a12, .inl (G.2 0, 5, .inl (fun _ => 0)))] sz)) (va_Qi (fun (r : Int32) (u : va_W) => ((r = (-6)) ∧ (u = [(a0, .inr (11, [.ref a1, .ref a2, .ref a3, .ref a4, .ref a5, .ref a6, .ref a7, .ref a8, .ref a9, .ref a10, .int 0, .int 0, .int (-1), .ref a11, .int 0, .ref a12, .int (-6)])), (a12, .inl (G.2 0, 5, .inl (upd (fun _ => 0) 4 1)))]))) (g5_B G (va_A [(a0, .inr (11, [.ref a1, .ref a2, .ref a3, .ref a4, .ref a5, .ref a6, .ref a7, .ref a8, .ref a9, .ref a10, .int 0, .int 0, .int (-1), .ref a11, .int 0, .ref a12, .int 0])), (a12, .inl (G.2 0, 5, .inl (fun _ => 0)))] sz)) (va_A [(a0, .inr (11, [.ref a1, .ref a2, .ref a3, .ref a4, .ref a5, .ref a6, .ref a7, .ref a8, .ref a9, .ref a10, .int 0, .int 0, .int (-1), .ref a11, .int 0, .ref a12, .int 0])), (a12, .inl (G.2 0, 5, .inl (fun _ => 0)))] sz)) 0 0 (va_A [(a0, .inr (11, [.ref a1, .ref a2, .ref a3, .ref a4, .ref a5, .ref a6, .ref a7, .ref a8, .ref a9, .ref a10, .int 0, .int 0, .int (-1), .ref a11, .int 0, .ref a12, .int 0])), (a12, .inl (G.2 0, 5, .inl (fun _ => 0)))] sz) := by
  refine Met.ofW (cc := cX11_refuse) (maxL := 3) (ret := (some .int)) (by decide) rfl ?_
  intro p e s m args below meth c s₁ B hml hv
  obtain ⟨rfl, hsz, hP, hK, hD0, hN, hT⟩ := hv
  have hx := B.exec
  have hb := B.bytes
  have hr := B.returns
  have hts : ∀ w ∈ tblG, w.before _ s = true := fun w h => atoms_spec (ws := (wsG yX11_refuse cX11_refuse 3 (some .int))) B.pre w (List.mem_cons_of_mem _ h)
  have hown : s.vm.findClass RX11 = some m.cls := findClass_of_methodNamed B.named
  have hlocks := B.notSynchronized
  subst hsz
  have hD := hD0.self (sz := s.heap.size)
  generalize hAe : va_A [(a0, .inr (11, [.ref a1, .ref a2, .ref a3, .ref a4, .ref a5, .ref a6, .ref a7, .ref a8, .ref a9, .ref a10, .int 0, .int 0, .int (-1), .ref a11, .int 0, .ref a12, .int 0])), (a12, .inl (G.2 0, 5, .inl (fun _ => 0)))] s.heap.size = A at hD hT ⊢
  have hA : ∀ q : Nat, s.heap.size ≤ q → A q := fun q h => by rw [← hAe]; exact Or.inr h
  have hS : va_S A s.heap s.heap [] := va_S.rf
  have hP : va_P G.1 vwCl [(a0, .inr (11, [.ref a1, .ref a2, .ref a3, .ref a4, .ref a5, .ref a6, .ref a7, .ref a8, .ref a9, .ref a10, .int 0, .int 0, .int (-1), .ref a11, .int 0, .ref a12, .int 0])), (a12, .inl (G.2 0, 5, .inl (fun _ => 0)))] s.heap := hP
  have hl := lv_entry ([.ref a0, .int (-6)]) (n := 3) (Nat.le_of_ble_eq_true rfl)
  rw [lg_entry_eq]
  generalize (lg_sl ([.ref a0, .int (-6)]) ++ List.replicate (3 - (lg_sl ([.ref a0, .int (-6)])).length) Slot.unset).toArray = ls at hl ⊢
  have hl : lv_has ls 3 [(0, .ref a0), (1, .int (-6))] := hl
  refine lv_aload_n hx hb dX11_refuse_0 rfl (lv_at hl 0 rfl) ?_
  refine lv_iload_n hx hb dX11_refuse_1 rfl (lv_at hl 1 rfl) ?_
  refine va_put (D := G.1) (ci := 11) (v := .int (-6)) (ty := .int) (C := RX11) (T := TX11) (N := 17) hx hb hts inG_X11 tyX11 tyX11_ok nmX11 hown hK hP hD hS 0 rfl rfl 16 (by decide) (hts _ fl_X11_94) (fun _ h9 => h9) rfl (by decide +kernel) rfl rfl (Nat.le_of_ble_eq_true rfl) dX11_refuse_2 (fun H locs hP hD hS => ?_)
  have hP : va_P G.1 vwCl [(a0, .inr (11, [.ref a1, .ref a2, .ref a3, .ref a4, .ref a5, .ref a6, .ref a7, .ref a8, .ref a9, .ref a10, .int 0, .int 0, .int (-1), .ref a11, .int 0, .ref a12, .int (-6)])), (a12, .inl (G.2 0, 5, .inl (fun _ => 0)))] H := hP
  have hD : va_D A [(a0, .inr (11, [.ref a1, .ref a2, .ref a3, .ref a4, .ref a5, .ref a6, .ref a7, .ref a8, .ref a9, .ref a10, .int 0, .int 0, .int (-1), .ref a11, .int 0, .ref a12, .int (-6)])), (a12, .inl (G.2 0, 5, .inl (fun _ => 0)))] := hD
  refine lv_iload_n hx hb dX11_refuse_5 rfl (lv_at hl 1 rfl) ?_
  refine lv_bipush (v := (-3)) hx hb dX11_refuse_6 (by decide) ?_
  refine lv_icmp_lt (tgt := 18) hx hb dX11_refuse_8 (by decide) (fun c_1 => ?_) (fun c_1 => ?_)
  ·
    refine lv_iload_n hx hb dX11_refuse_18 rfl (lv_at hl 1 rfl) ?_
    refine lv_ineg hx hb dX11_refuse_19 ?_
    refine g5_ti (v := 6) (by decide) ?_
    refine lv_iconst (v := 2) hx hb dX11_refuse_20 (by decide) ?_
    refine lv_isub hx hb dX11_refuse_21 ?_
    refine g5_ti (v := 4) (by decide) ?_
    refine lv_istore_n (lv' := [(2, .int 4), (0, .ref a0), (1, .int (-6))]) hx hb dX11_refuse_22 rfl hl (by decide) rfl (fun ls hl => ?_)
    refine lv_iload_n hx hb dX11_refuse_23 rfl (lv_at hl 0 rfl) ?_
    refine lv_if_lt (tgt := 46) hx hb dX11_refuse_24 (by decide) (fun c_2 => ?_) (fun c_2 => ?_)
    ·
      exact absurd c_2 (by decide)
    ·
      refine lv_iload_n hx hb dX11_refuse_27 rfl (lv_at hl 0 rfl) ?_
      refine lv_aload_n hx hb dX11_refuse_28 rfl (lv_at hl 1 rfl) ?_
      refine va_get (D := G.1) (ci := 11) (v := .ref a12) (C := RX11) (T := TX11) (N := 17) hx hb hts inG_X11 hown hK hP 0 rfl rfl 15 (by decide) (hts _ fl_X11_91) (fun _ h9 => h9) rfl dX11_refuse_29 ?_
      refine va_alen hx hb hK hP 1 0 rfl rfl (v := 5) (by show Int32.ofNat 5 = 5; decide) dX11_refuse_32 ?_
      refine lv_icmp_ge (tgt := 46) hx hb dX11_refuse_33 (by decide) (fun c_3 => ?_) (fun c_3 => ?_)
      ·
        exact absurd c_3 (by decide)
      ·
        refine lv_aload_n hx hb dX11_refuse_36 rfl (lv_at hl 1 rfl) ?_
        refine va_get (D := G.1) (ci := 11) (v := .ref a12) (C := RX11) (T := TX11) (N := 17) hx hb hts inG_X11 hown hK hP 0 rfl rfl 15 (by decide) (hts _ fl_X11_91) (fun _ h9 => h9) rfl dX11_refuse_37 ?_
        refine lv_iload_n hx hb dX11_refuse_40 rfl (lv_at hl 0 rfl) ?_
        refine lv_dup2_11 hx hb dX11_refuse_41 rfl rfl ?_
        refine va_iald hx hb hK hP 1 0 rfl rfl (i := 4) (by unfold vp_in; decide) dX11_refuse_42 ?_
        refine g5_ti (v := 0) rfl ?_
        refine lv_iconst (v := 1) hx hb dX11_refuse_43 (by decide) ?_
        refine lv_iadd hx hb dX11_refuse_44 ?_
        refine g5_ti (v := 1) (by decide) ?_
        refine va_iast hx hb hK hP hD hS 1 0 rfl rfl (i := 4) (x := 1) (by unfold vp_in; decide) dX11_refuse_45 (fun H locs hP hD hS => ?_)
        have hP : va_P G.1 vwCl [(a0, .inr (11, [.ref a1, .ref a2, .ref a3, .ref a4, .ref a5, .ref a6, .ref a7, .ref a8, .ref a9, .ref a10, .int 0, .int 0, .int (-1), .ref a11, .int 0, .ref a12, .int (-6)])), (a12, .inl (G.2 0, 5, .inl (upd (fun _ => 0) 4 1)))] H := hP
        have hD : va_D A [(a0, .inr (11, [.ref a1, .ref a2, .ref a3, .ref a4, .ref a5, .ref a6, .ref a7, .ref a8, .ref a9, .ref a10, .int 0, .int 0, .int (-1), .ref a11, .int 0, .ref a12, .int (-6)])), (a12, .inl (G.2 0, 5, .inl (upd (fun _ => 0) 4 1)))] := hD
        refine lv_iload_n hx hb dX11_refuse_46 rfl (lv_at hl 2 rfl) ?_
        exact W.iret (v := (-6)) hx hb hr (fun t ht hW => ⟨⟨(-6), [(a0, .inr (11, [.ref a1, .ref a2, .ref a3, .ref a4, .ref a5, .ref a6, .ref a7, .ref a8, .ref a9, .ref a10, .int 0, .int 0, .int (-1), .ref a11, .int 0, .ref a12, .int (-6)])), (a12, .inl (G.2 0, 5, .inl (upd (fun _ => 0) 4 1)))], rfl, ⟨rfl, rfl⟩, by rw [ht]; exact hP, hD⟩, hS.F ht⟩) hS.2.2 dX11_refuse_47
  ·
    exact absurd c_1 (by decide)
theorem dX11_row_0 : decode cX11_row 0 = .ok (.aload_n 0, 1) := by decide +kernel
theorem dX11_row_1 : decode cX11_row 1 = .ok (.getfield 74, 3) := by decide +kernel
theorem dX11_row_4 : decode cX11_row 4 = .ok (.ifCond .ne 10, 3) := by decide +kernel
theorem dX11_row_7 : decode cX11_row 7 = .ok (.aload_n 0, 1) := by decide +kernel
theorem dX11_row_8 : decode cX11_row 8 = .ok (.bipush (-6), 2) := by decide +kernel
theorem dX11_row_10 : decode cX11_row 10 = .ok (.invokevirtual 104, 3) := by decide +kernel
theorem dX11_row_13 : decode cX11_row 13 = .ok (.ireturn, 1) := by decide +kernel
theorem dX11_row_14 : decode cX11_row 14 = .ok (.iconst 0, 1) := by decide +kernel
theorem dX11_row_15 : decode cX11_row 15 = .ok (.istore_n 1, 1) := by decide +kernel
theorem dX11_row_16 : decode cX11_row 16 = .ok (.iconst 0, 1) := by decide +kernel
theorem dX11_row_17 : decode cX11_row 17 = .ok (.istore_n 2, 1) := by decide +kernel
theorem dX11_row_18 : decode cX11_row 18 = .ok (.iconst 0, 1) := by decide +kernel
theorem dX11_row_19 : decode cX11_row 19 = .ok (.istore_n 3, 1) := by decide +kernel
theorem dX11_row_20 : decode cX11_row 20 = .ok (.iload_n 3, 1) := by decide +kernel
theorem dX11_row_21 : decode cX11_row 21 = .ok (.aload_n 0, 1) := by decide +kernel
theorem dX11_row_22 : decode cX11_row 22 = .ok (.getfield 74, 3) := by decide +kernel
theorem dX11_row_25 : decode cX11_row 25 = .ok (.if_icmp .ge 26, 3) := by decide +kernel
theorem dX11_row_28 : decode cX11_row 28 = .ok (.aload_n 0, 1) := by decide +kernel
theorem dX11_row_29 : decode cX11_row 29 = .ok (.iload_n 3, 1) := by decide +kernel
theorem dX11_row_30 : decode cX11_row 30 = .ok (.invokevirtual 189, 3) := by decide +kernel
theorem dX11_row_33 : decode cX11_row 33 = .ok (.ifCond .eq 9, 3) := by decide +kernel
theorem dX11_row_36 : decode cX11_row 36 = .ok (.iinc 1 1, 3) := by decide +kernel
theorem dX11_row_39 : decode cX11_row 39 = .ok (.goto 6, 3) := by decide +kernel
theorem dX11_row_42 : decode cX11_row 42 = .ok (.iinc 2 1, 3) := by decide +kernel
theorem dX11_row_45 : decode cX11_row 45 = .ok (.iinc 3 4, 3) := by decide +kernel
theorem dX11_row_48 : decode cX11_row 48 = .ok (.goto (-28), 3) := by decide +kernel
theorem dX11_row_51 : decode cX11_row 51 = .ok (.aload_n 0, 1) := by decide +kernel
theorem dX11_row_52 : decode cX11_row 52 = .ok (.iload_n 2, 1) := by decide +kernel
theorem dX11_row_53 : decode cX11_row 53 = .ok (.putfield 78, 3) := by decide +kernel
theorem dX11_row_56 : decode cX11_row 56 = .ok (.aload_n 0, 1) := by decide +kernel
theorem dX11_row_57 : decode cX11_row 57 = .ok (.iconst 0, 1) := by decide +kernel
theorem dX11_row_58 : decode cX11_row 58 = .ok (.putfield 74, 3) := by decide +kernel
theorem dX11_row_61 : decode cX11_row 61 = .ok (.aload_n 0, 1) := by decide +kernel
theorem dX11_row_62 : decode cX11_row 62 = .ok (.iload_n 1, 1) := by decide +kernel
theorem dX11_row_63 : decode cX11_row 63 = .ok (.invokevirtual 121, 3) := by decide +kernel
theorem dX11_row_66 : decode cX11_row 66 = .ok (.ireturn, 1) := by decide +kernel
