set_option maxHeartbeats 4000000 in
set_option maxRecDepth 100000 in
theorem kX6_set_41 (l : Launch) (G : g5_G) (a0 a1 : Nat) (sz : Nat) (n0 : Int32) (f0 : Nat → Int32) (h_n0 : 0 ≤ n0.toInt ∧ n0.toInt ≤ 0) : Met l yX6_set (wsG yX6_set cX6_set 4 none) ({ frames := 1, cells := 0, slots := 0, locals := 21 }) (va_Pc [.ref a0, .int 0, .int 3, .int n0] (g5_P G [(a0, .inr (6, [.int 10, .int 4, .ref a1, .int 1])), (a1, .inl (G.2 0, 40, .inl f0))] sz)) (va_Qv (fun (u : va_W) => ((u = [(a1, .inl (G.2 0, 40, .inl (upd f0 3 n0))), (a0, .inr (6, [.int 10, .int 4, .ref a1, .int 1]))]))) (g5_B G (va_A [(a0, .inr (6, [.int 10, .int 4, .ref a1, .int 1])), (a1, .inl (G.2 0, 40, .inl f0))] sz)) (va_A [(a0, .inr (6, [.int 10, .int 4, .ref a1, .int 1])), (a1, .inl (G.2 0, 40, .inl f0))] sz)) 0 0 (va_A [(a0, .inr (6, [.int 10, .int 4, .ref a1, .int 1])), (a1, .inl (G.2 0, 40, .inl f0))] sz) := by
  refine Met.ofW (cc := cX6_set) (maxL := 4) (ret := none) (by decide) rfl ?_
  intro p e s m args below meth c s₁ B hml hv
  obtain ⟨rfl, hsz, hP, hK, hD0, hN, hT⟩ := hv
  have hx := B.exec
  have hb := B.bytes
  have hr := B.returns
  have hts : ∀ w ∈ tblG, w.before _ s = true := fun w h => atoms_spec (ws := (wsG yX6_set cX6_set 4 none)) B.pre w (List.mem_cons_of_mem _ h)
  have hown : s.vm.findClass RX6 = some m.cls := findClass_of_methodNamed B.named
  have hlocks := B.notSynchronized
  subst hsz
  have hD := hD0.self (sz := s.heap.size)
  generalize hAe : va_A [(a0, .inr (6, [.int 10, .int 4, .ref a1, .int 1])), (a1, .inl (G.2 0, 40, .inl f0))] s.heap.size = A at hD hT ⊢
  have hA : ∀ q : Nat, s.heap.size ≤ q → A q := fun q h => by rw [← hAe]; exact Or.inr h
  have hS : va_S A s.heap s.heap [] := va_S.rf
  have hP : va_P G.1 vwCl [(a0, .inr (6, [.int 10, .int 4, .ref a1, .int 1])), (a1, .inl (G.2 0, 40, .inl f0))] s.heap := hP
  have hl := lv_entry ([.ref a0, .int 0, .int 3, .int n0]) (n := 4) (Nat.le_of_ble_eq_true rfl)
  rw [lg_entry_eq]
  generalize (lg_sl ([.ref a0, .int 0, .int 3, .int n0]) ++ List.replicate (4 - (lg_sl ([.ref a0, .int 0, .int 3, .int n0])).length) Slot.unset).toArray = ls at hl ⊢
  have hl : lv_has ls 4 [(0, .ref a0), (1, .int 0), (2, .int 3), (3, .int n0)] := hl
  refine lv_aload_n hx hb dX6_set_0 rfl (lv_at hl 0 rfl) ?_
  refine lv_iload_n hx hb dX6_set_1 rfl (lv_at hl 1 rfl) ?_
  have hPc := hP.sub (ws' := [(a0, .inr (6, [.int 10, .int 4, .ref a1, .int 1]))]) [0] rfl
  have hDc := hD.sub (ws' := [(a0, .inr (6, [.int 10, .int 4, .ref a1, .int 1]))]) [0] (by decide) rfl
  have hFc := va_free (wc := [(a0, .inr (6, [.int 10, .int 4, .ref a1, .int 1]))]) hD hS hA [0] rfl
  refine va_calli (va_runV (As := [.int 0]) (rest := []) ⟨hx, hb, hml, hown, hts⟩ (kX6_has_5 l G a0 a1 s.heap.size) (cwV 1 hts gV_X6_25 rfl rfl rfl hv_X6_has ⟨Nat.le_of_ble_eq_true rfl, Nat.le_of_ble_eq_true rfl⟩) (g5_preV hPc hK hDc hN hT hS hFc (ci := 6) (q0 := 0) rfl rfl) rfl rfl hl.1 rfl (lv_room (Nat.le_of_ble_eq_true rfl)) dX6_set_2 ⟨Nat.le_of_ble_eq_true rfl, Nat.le_of_ble_eq_true rfl⟩) hS (fun q _ h => hFc q h) hFc (fun r u t H1 locs ht hvm hw hB hz1 hk1 hS => ?_)
  obtain ⟨hP1, hD1⟩ := hB
  rw [ht] at hP1
  obtain ⟨rfl, rfl⟩ := hw
  obtain ⟨hP, hD⟩ := va_join (wr := [(a1, .inl (G.2 0, 40, .inl f0))]) (w1 := [(a0, .inr (6, [.int 10, .int 4, .ref a1, .int 1]))]) hP hD [0] [1] rfl rfl (by decide) (by decide) hk1 hFc hP1 hD1
  generalize H1 = H at hP hS ⊢
  have hP : va_P G.1 vwCl [(a1, .inl (G.2 0, 40, .inl f0)), (a0, .inr (6, [.int 10, .int 4, .ref a1, .int 1]))] H := hP
  have hD : va_D A [(a1, .inl (G.2 0, 40, .inl f0)), (a0, .inr (6, [.int 10, .int 4, .ref a1, .int 1]))] := hD
  refine lv_if_eq (tgt := 34) hx hb dX6_set_5 (by decide) (fun c_1 => ?_) (fun c_1 => ?_)
  ·
    exact absurd c_1 (by decide)
  ·
    refine lv_iload_n hx hb dX6_set_8 rfl (lv_at hl 2 rfl) ?_
    refine lv_if_lt (tgt := 34) hx hb dX6_set_9 (by decide) (fun c_2 => ?_) (fun c_2 => ?_)
    ·
      exact absurd c_2 (by decide)
    ·
      refine lv_iload_n hx hb dX6_set_12 rfl (lv_at hl 2 rfl) ?_
      refine lv_aload_n hx hb dX6_set_13 rfl (lv_at hl 0 rfl) ?_
      refine va_get (D := G.1) (ci := 6) (v := .int 4) (C := RX6) (T := TX6) (N := 4) hx hb hts inG_X6 hown hK hP 1 rfl rfl 1 (by decide) (hts _ fl_X6_18) (fun _ h9 => h9) rfl dX6_set_14 ?_
      refine lv_icmp_ge (tgt := 34) hx hb dX6_set_17 (by decide) (fun c_3 => ?_) (fun c_3 => ?_)
      ·
        exact absurd c_3 (by decide)
      ·
        refine lv_aload_n hx hb dX6_set_20 rfl (lv_at hl 0 rfl) ?_
        refine va_get (D := G.1) (ci := 6) (v := .ref a1) (C := RX6) (T := TX6) (N := 4) hx hb hts inG_X6 hown hK hP 1 rfl rfl 2 (by decide) (hts _ fl_X6_21) (fun _ h9 => h9) rfl dX6_set_21 ?_
        refine lv_iload_n hx hb dX6_set_24 rfl (lv_at hl 1 rfl) ?_
        refine lv_aload_n hx hb dX6_set_25 rfl (lv_at hl 0 rfl) ?_
        refine va_get (D := G.1) (ci := 6) (v := .int 4) (C := RX6) (T := TX6) (N := 4) hx hb hts inG_X6 hown hK hP 1 rfl rfl 1 (by decide) (hts _ fl_X6_18) (fun _ h9 => h9) rfl dX6_set_26 ?_
        refine lv_imul hx hb dX6_set_29 ?_
        refine g5_ti (v := 0) (by decide) ?_
        refine lv_iload_n hx hb dX6_set_30 rfl (lv_at hl 2 rfl) ?_
        refine lv_iadd hx hb dX6_set_31 ?_
        refine g5_ti (v := 3) (by decide) ?_
        refine lv_iload_n hx hb dX6_set_32 rfl (lv_at hl 3 rfl) ?_
        refine va_iast hx hb hK hP hD hS 0 0 rfl rfl (i := 3) (x := n0) (by unfold vp_in; decide) dX6_set_33 (fun H locs hP hD hS => ?_)
        have hP : va_P G.1 vwCl [(a1, .inl (G.2 0, 40, .inl (upd f0 3 n0))), (a0, .inr (6, [.int 10, .int 4, .ref a1, .int 1]))] H := hP
        have hD : va_D A [(a1, .inl (G.2 0, 40, .inl (upd f0 3 n0))), (a0, .inr (6, [.int 10, .int 4, .ref a1, .int 1]))] := hD
        exact W.vret hx hb hr (fun t ht hW => ⟨⟨[(a1, .inl (G.2 0, 40, .inl (upd f0 3 n0))), (a0, .inr (6, [.int 10, .int 4, .ref a1, .int 1]))], rfl, rfl, by rw [ht]; exact hP, hD⟩, hS.F ht⟩) hS.2.2 dX6_set_34
theorem fl_X11_238 : Cond.fieldLink RX11 238 "LateGlass$Table" "rows" "I" ∈ tblG := tg 142 (by decide +kernel) (by decide +kernel)
set_option maxHeartbeats 4000000 in
set_option maxRecDepth 100000 in
theorem kX11_done_5 (l : Launch) (G : g5_G) (a0 a1 a2 a3 a4 a5 a6 a7 a8 a9 a10 a11 a12 : Nat) (sz : Nat) : Met l yX11_done (wsG yX11_done cX11_done 2 (some .int)) ({ frames := 0, cells := 0, slots := 0, locals := 0 }) (va_Pc [.ref a0, .int 1] (g5_P G [(a0, .inr (11, [.ref a1, .ref a2, .ref a3, .ref a4, .ref a5, .ref a6, .ref a7, .ref a8, .ref a9, .ref a10, .int 0, .int 0, .int (-1), .ref a11, .int 0, .ref a12, .int 0]))] sz)) (va_Qi (fun (r : Int32) (u : va_W) => ((r = 1) ∧ (u = [(a0, .inr (11, [.ref a1, .ref a2, .ref a3, .ref a4, .ref a5, .ref a6, .ref a7, .ref a8, .ref a9, .ref a10, .int 0, .int 0, .int (-1), .ref a11, .int 0, .ref a12, .int 0]))]))) (g5_B G (va_A [(a0, .inr (11, [.ref a1, .ref a2, .ref a3, .ref a4, .ref a5, .ref a6, .ref a7, .ref a8, .ref a9, .ref a10, .int 0, .int 0, .int (-1), .ref a11, .int 0, .ref a12, .int 0]))] sz)) (va_A [(a0, .inr (11, [.ref a1, .ref a2, .ref a3, .ref a4, .ref a5, .ref a6, .ref a7, .ref a8, .ref a9, .ref a10, .int 0, .int 0, .int (-1), .ref a11, .int 0, .ref a12, .int 0]))] sz)) 0 0 (va_A [(a0, .inr (11, [.ref a1, .ref a2, .ref a3, .ref a4, .ref a5, .ref a6, .ref a7, .ref a8, .ref a9, .ref a10, .int 0, .int 0, .int (-1), .ref a11, .int 0, .ref a12, .int 0]))] sz) := by
  refine Met.ofW (cc := cX11_done) (maxL := 2) (ret := (some .int)) (by decide) rfl ?_
  intro p e s m args below meth c s₁ B hml hv
  obtain ⟨rfl, hsz, hP, hK, hD0, hN, hT⟩ := hv
  have hx := B.exec
  have hb := B.bytes
  have hr := B.returns
  have hts : ∀ w ∈ tblG, w.before _ s = true := fun w h => atoms_spec (ws := (wsG yX11_done cX11_done 2 (some .int))) B.pre w (List.mem_cons_of_mem _ h)
  have hown : s.vm.findClass RX11 = some m.cls := findClass_of_methodNamed B.named
  have hlocks := B.notSynchronized
  subst hsz
  have hD := hD0.self (sz := s.heap.size)
  generalize hAe : va_A [(a0, .inr (11, [.ref a1, .ref a2, .ref a3, .ref a4, .ref a5, .ref a6, .ref a7, .ref a8, .ref a9, .ref a10, .int 0, .int 0, .int (-1), .ref a11, .int 0, .ref a12, .int 0]))] s.heap.size = A at hD hT ⊢
  have hA : ∀ q : Nat, s.heap.size ≤ q → A q := fun q h => by rw [← hAe]; exact Or.inr h
  have hS : va_S A s.heap s.heap [] := va_S.rf
  have hP : va_P G.1 vwCl [(a0, .inr (11, [.ref a1, .ref a2, .ref a3, .ref a4, .ref a5, .ref a6, .ref a7, .ref a8, .ref a9, .ref a10, .int 0, .int 0, .int (-1), .ref a11, .int 0, .ref a12, .int 0]))] s.heap := hP
  have hl := lv_entry ([.ref a0, .int 1]) (n := 2) (Nat.le_of_ble_eq_true rfl)
  rw [lg_entry_eq]
  generalize (lg_sl ([.ref a0, .int 1]) ++ List.replicate (2 - (lg_sl ([.ref a0, .int 1])).length) Slot.unset).toArray = ls at hl ⊢
  have hl : lv_has ls 2 [(0, .ref a0), (1, .int 1)] := hl
  refine lv_aload_n hx hb dX11_done_0 rfl (lv_at hl 0 rfl) ?_
  refine lv_iconst (v := 0) hx hb dX11_done_1 (by decide) ?_
  refine va_put (D := G.1) (ci := 11) (v := .int 0) (ty := .int) (C := RX11) (T := TX11) (N := 17) hx hb hts inG_X11 tyX11 tyX11_ok nmX11 hown hK hP hD hS 0 rfl rfl 16 (by decide) (hts _ fl_X11_94) (fun _ h9 => h9) rfl (by decide +kernel) rfl rfl (Nat.le_of_ble_eq_true rfl) dX11_done_2 (fun H locs hP hD hS => ?_)
  have hP : va_P G.1 vwCl [(a0, .inr (11, [.ref a1, .ref a2, .ref a3, .ref a4, .ref a5, .ref a6, .ref a7, .ref a8, .ref a9, .ref a10, .int 0, .int 0, .int (-1), .ref a11, .int 0, .ref a12, .int 0]))] H := hP
  have hD : va_D A [(a0, .inr (11, [.ref a1, .ref a2, .ref a3, .ref a4, .ref a5, .ref a6, .ref a7, .ref a8, .ref a9, .ref a10, .int 0, .int 0, .int (-1), .ref a11, .int 0, .ref a12, .int 0]))] := hD
  refine lv_iload_n hx hb dX11_done_5 rfl (lv_at hl 1 rfl) ?_
  exact W.iret (v := 1) hx hb hr (fun t ht hW => ⟨⟨1, [(a0, .inr (11, [.ref a1, .ref a2, .ref a3, .ref a4, .ref a5, .ref a6, .ref a7, .ref a8, .ref a9, .ref a10, .int 0, .int 0, .int (-1), .ref a11, .int 0, .ref a12, .int 0]))], rfl, ⟨rfl, rfl⟩, by rw [ht]; exact hP, hD⟩, hS.F ht⟩) hS.2.2 dX11_done_6
theorem fl_X1_74 : Cond.fieldLink RX1 74 "LateGlass$Table" "rows" "I" ∈ tblG := tg 140 (by decide +kernel) (by decide +kernel)
theorem dX1_countSeen_0 : decode cX1_countSeen 0 = .ok (.iconst 0, 1) := by decide +kernel
theorem dX1_countSeen_1 : decode cX1_countSeen 1 = .ok (.istore_n 1, 1) := by decide +kernel
theorem dX1_countSeen_2 : decode cX1_countSeen 2 = .ok (.iconst 0, 1) := by decide +kernel
theorem dX1_countSeen_3 : decode cX1_countSeen 3 = .ok (.istore_n 2, 1) := by decide +kernel
theorem dX1_countSeen_4 : decode cX1_countSeen 4 = .ok (.iload_n 2, 1) := by decide +kernel
theorem dX1_countSeen_5 : decode cX1_countSeen 5 = .ok (.aload_n 0, 1) := by decide +kernel
theorem dX1_countSeen_6 : decode cX1_countSeen 6 = .ok (.getfield 46, 3) := by decide +kernel
theorem dX1_countSeen_9 : decode cX1_countSeen 9 = .ok (.getfield 74, 3) := by decide +kernel
theorem dX1_countSeen_12 : decode cX1_countSeen 12 = .ok (.if_icmp .ge 21, 3) := by decide +kernel
theorem dX1_countSeen_15 : decode cX1_countSeen 15 = .ok (.iload_n 1, 1) := by decide +kernel
theorem dX1_countSeen_16 : decode cX1_countSeen 16 = .ok (.aload_n 0, 1) := by decide +kernel
theorem dX1_countSeen_17 : decode cX1_countSeen 17 = .ok (.getfield 46, 3) := by decide +kernel
theorem dX1_countSeen_20 : decode cX1_countSeen 20 = .ok (.iload_n 2, 1) := by decide +kernel
theorem dX1_countSeen_21 : decode cX1_countSeen 21 = .ok (.iconst 3, 1) := by decide +kernel
theorem dX1_countSeen_22 : decode cX1_countSeen 22 = .ok (.invokevirtual 77, 3) := by decide +kernel
theorem dX1_countSeen_25 : decode cX1_countSeen 25 = .ok (.iadd, 1) := by decide +kernel
theorem dX1_countSeen_26 : decode cX1_countSeen 26 = .ok (.istore_n 1, 1) := by decide +kernel
theorem dX1_countSeen_27 : decode cX1_countSeen 27 = .ok (.iinc 2 1, 3) := by decide +kernel
theorem dX1_countSeen_30 : decode cX1_countSeen 30 = .ok (.goto (-26), 3) := by decide +kernel
theorem dX1_countSeen_33 : decode cX1_countSeen 33 = .ok (.iload_n 1, 1) := by decide +kernel
theorem dX1_countSeen_34 : decode cX1_countSeen 34 = .ok (.ireturn, 1) := by decide +kernel
set_option maxHeartbeats 4000000 in
set_option maxRecDepth 100000 in
theorem kX1_countSeen (l : Launch) (G : g5_G) (a0 a1 a2 a3 a4 a5 a6 a7 a8 : Nat) (sz : Nat) : Met l yX1_countSeen (wsG yX1_countSeen cX1_countSeen 3 (some .int)) ({ frames := 0, cells := 0, slots := 0, locals := 0 }) (va_Pc [.ref a0] (g5_P G [(a0, .inr (1, [.long 0, .int 1000, .int (-1), .int (-1), .int 0, .ref a1, .ref a2, .ref a3, .ref a4, .ref a5, .ref a6, .long 0, .ref a7])), (a4, .inr (6, [.int 10, .int 4, .ref a8, .int 0]))] sz)) (va_Qi (fun (r : Int32) (u : va_W) => ((r = 0) ∧ (u = [(a0, .inr (1, [.long 0, .int 1000, .int (-1), .int (-1), .int 0, .ref a1, .ref a2, .ref a3, .ref a4, .ref a5, .ref a6, .long 0, .ref a7])), (a4, .inr (6, [.int 10, .int 4, .ref a8, .int 0]))]))) (g5_B G (va_A [(a0, .inr (1, [.long 0, .int 1000, .int (-1), .int (-1), .int 0, .ref a1, .ref a2, .ref a3, .ref a4, .ref a5, .ref a6, .long 0, .ref a7])), (a4, .inr (6, [.int 10, .int 4, .ref a8, .int 0]))] sz)) (va_A [(a0, .inr (1, [.long 0, .int 1000, .int (-1), .int (-1), .int 0, .ref a1, .ref a2, .ref a3, .ref a4, .ref a5, .ref a6, .long 0, .ref a7])), (a4, .inr (6, [.int 10, .int 4, .ref a8, .int 0]))] sz)) 0 0 (va_A [(a0, .inr (1, [.long 0, .int 1000, .int (-1), .int (-1), .int 0, .ref a1, .ref a2, .ref a3, .ref a4, .ref a5, .ref a6, .long 0, .ref a7])), (a4, .inr (6, [.int 10, .int 4, .ref a8, .int 0]))] sz) := by
  refine Met.ofW (cc := cX1_countSeen) (maxL := 3) (ret := (some .int)) (by decide) rfl ?_
  intro p e s m args below meth c s₁ B hml hv
  obtain ⟨rfl, hsz, hP, hK, hD0, hN, hT⟩ := hv
  have hx := B.exec
  have hb := B.bytes
  have hr := B.returns
  have hts : ∀ w ∈ tblG, w.before _ s = true := fun w h => atoms_spec (ws := (wsG yX1_countSeen cX1_countSeen 3 (some .int))) B.pre w (List.mem_cons_of_mem _ h)
  have hown : s.vm.findClass RX1 = some m.cls := findClass_of_methodNamed B.named
  have hlocks := B.notSynchronized
  subst hsz
  have hD := hD0.self (sz := s.heap.size)
  generalize hAe : va_A [(a0, .inr (1, [.long 0, .int 1000, .int (-1), .int (-1), .int 0, .ref a1, .ref a2, .ref a3, .ref a4, .ref a5, .ref a6, .long 0, .ref a7])), (a4, .inr (6, [.int 10, .int 4, .ref a8, .int 0]))] s.heap.size = A at hD hT ⊢
  have hA : ∀ q : Nat, s.heap.size ≤ q → A q := fun q h => by rw [← hAe]; exact Or.inr h
  have hS : va_S A s.heap s.heap [] := va_S.rf
  have hP : va_P G.1 vwCl [(a0, .inr (1, [.long 0, .int 1000, .int (-1), .int (-1), .int 0, .ref a1, .ref a2, .ref a3, .ref a4, .ref a5, .ref a6, .long 0, .ref a7])), (a4, .inr (6, [.int 10, .int 4, .ref a8, .int 0]))] s.heap := hP
  have hl := lv_entry ([.ref a0]) (n := 3) (Nat.le_of_ble_eq_true rfl)
  rw [lg_entry_eq]
  generalize (lg_sl ([.ref a0]) ++ List.replicate (3 - (lg_sl ([.ref a0])).length) Slot.unset).toArray = ls at hl ⊢
  have hl : lv_has ls 3 [(0, .ref a0)] := hl
  refine lv_iconst (v := 0) hx hb dX1_countSeen_0 (by decide) ?_
  refine lv_istore_n (lv' := [(1, .int 0), (0, .ref a0)]) hx hb dX1_countSeen_1 rfl hl (by decide) rfl (fun ls hl => ?_)
  refine lv_iconst (v := 0) hx hb dX1_countSeen_2 (by decide) ?_
  refine lv_istore_n (lv' := [(2, .int 0), (1, .int 0), (0, .ref a0)]) hx hb dX1_countSeen_3 rfl hl (by decide) rfl (fun ls hl => ?_)
  refine lv_iload_n hx hb dX1_countSeen_4 rfl (lv_at hl 0 rfl) ?_
  refine lv_aload_n hx hb dX1_countSeen_5 rfl (lv_at hl 2 rfl) ?_
  refine va_get (D := G.1) (ci := 1) (v := .ref a4) (C := RX1) (T := TX1) (N := 13) hx hb hts inG_X1 hown hK hP 0 rfl rfl 8 (by decide) (hts _ fl_X1_46) (fun _ h9 => h9) rfl dX1_countSeen_6 ?_
  refine va_get (D := G.1) (ci := 6) (v := .int 0) (C := RX6) (T := TX6) (N := 4) hx hb hts inG_X6 hown hK hP 1 rfl rfl 3 (by decide) (hts _ fl_X1_74) (fun _ h9 => h9) rfl dX1_countSeen_9 ?_
  refine lv_icmp_ge (tgt := 33) hx hb dX1_countSeen_12 (by decide) (fun c_1 => ?_) (fun c_1 => ?_)
  ·
    refine lv_iload_n hx hb dX1_countSeen_33 rfl (lv_at hl 1 rfl) ?_
    exact W.iret (v := 0) hx hb hr (fun t ht hW => ⟨⟨0, [(a0, .inr (1, [.long 0, .int 1000, .int (-1), .int (-1), .int 0, .ref a1, .ref a2, .ref a3, .ref a4, .ref a5, .ref a6, .long 0, .ref a7])), (a4, .inr (6, [.int 10, .int 4, .ref a8, .int 0]))], rfl, ⟨rfl, rfl⟩, by rw [ht]; exact hP, hD⟩, hS.F ht⟩) hS.2.2 dX1_countSeen_34
  ·
    exact absurd c_1 (by decide)
theorem ml_X11_264 : Cond.methodLink RX11 264 yX1_countSeen ∈ tblG := tg 930 (by decide +kernel) (by decide +kernel)
theorem im_X1_countSeen : Cond.instanceMethod yX1_countSeen ∈ tblG := tg 931 (by decide +kernel) (by decide +kernel)
theorem se_X1_countSeen : Cond.selects RX1 yX1_countSeen yX1_countSeen ∈ tblG := tg 932 (by decide +kernel) (by decide +kernel)
theorem cd_X1_countSeen : Cond.code yX1_countSeen cX1_countSeen 3 (some .int) ∈ tblG := tg 933 (by decide +kernel) (by decide +kernel)
theorem gW_X1_countSeen : GoodIn tblG (wsG yX1_countSeen cX1_countSeen 3 (some .int)) := tgi cd_X1_countSeen
theorem gV_X11_264 : GoodIn tblG (wsV RX11 264 RX1 yX1_countSeen (wsG yX1_countSeen cX1_countSeen 3 (some .int))) := tgV ml_X11_264 im_X1_countSeen se_X1_countSeen ini_X1 gW_X1_countSeen
theorem hv_X1_countSeen : yX1_countSeen.cls = RX1 ∧ yX1_countSeen.cls ≠ "java/lang/invoke/MethodHandle" ∧ yX1_countSeen.cls ≠ "java/lang/invoke/VarHandle" ∧ (parseMethodDescriptor yX1_countSeen.desc).map (fun d => d.parameters.length) = some 0 := by decide +kernel
set_option maxHeartbeats 4000000 in
set_option maxRecDepth 100000 in
theorem kX6_set_42 (l : Launch) (G : g5_G) (a0 a1 : Nat) (sz : Nat) (n0 : Int32) (f0 : Nat → Int32) (h_n0 : 1 ≤ n0.toInt ∧ n0.toInt ≤ 1) : Met l yX6_set (wsG yX6_set cX6_set 4 none) ({ frames := 1, cells := 0, slots := 0, locals := 21 }) (va_Pc [.ref a0, .int 0, .int 3, .int n0] (g5_P G [(a0, .inr (6, [.int 10, .int 4, .ref a1, .int 1])), (a1, .inl (G.2 0, 40, .inl f0))] sz)) (va_Qv (fun (u : va_W) => ((u = [(a1, .inl (G.2 0, 40, .inl (upd f0 3 n0))), (a0, .inr (6, [.int 10, .int 4, .ref a1, .int 1]))]))) (g5_B G (va_A [(a0, .inr (6, [.int 10, .int 4, .ref a1, .int 1])), (a1, .inl (G.2 0, 40, .inl f0))] sz)) (va_A [(a0, .inr (6, [.int 10, .int 4, .ref a1, .int 1])), (a1, .inl (G.2 0, 40, .inl f0))] sz)) 0 0 (va_A [(a0, .inr (6, [.int 10, .int 4, .ref a1, .int 1])), (a1, .inl (G.2 0, 40, .inl f0))] sz) := by
  refine Met.ofW (cc := cX6_set) (maxL := 4) (ret := none) (by decide) rfl ?_
  intro p e s m args below meth c s₁ B hml hv
  obtain ⟨rfl, hsz, hP, hK, hD0, hN, hT⟩ := hv
  have hx := B.exec
  have hb := B.bytes
  have hr := B.returns
  have hts : ∀ w ∈ tblG, w.before _ s = true := fun w h => atoms_spec (ws := (wsG yX6_set cX6_set 4 none)) B.pre w (List.mem_cons_of_mem _ h)
  have hown : s.vm.findClass RX6 = some m.cls := findClass_of_methodNamed B.named
  have hlocks := B.notSynchronized
  subst hsz
  have hD := hD0.self (sz := s.heap.size)
  generalize hAe : va_A [(a0, .inr (6, [.int 10, .int 4, .ref a1, .int 1])), (a1, .inl (G.2 0, 40, .inl f0))] s.heap.size = A at hD hT ⊢
  have hA : ∀ q : Nat, s.heap.size ≤ q → A q := fun q h => by rw [← hAe]; exact Or.inr h
  have hS : va_S A s.heap s.heap [] := va_S.rf
  have hP : va_P G.1 vwCl [(a0, .inr (6, [.int 10, .int 4, .ref a1, .int 1])), (a1, .inl (G.2 0, 40, .inl f0))] s.heap := hP
  have hl := lv_entry ([.ref a0, .int 0, .int 3, .int n0]) (n := 4) (Nat.le_of_ble_eq_true rfl)
  rw [lg_entry_eq]
  generalize (lg_sl ([.ref a0, .int 0, .int 3, .int n0]) ++ List.replicate (4 - (lg_sl ([.ref a0, .int 0, .int 3, .int n0])).length) Slot.unset).toArray = ls at hl ⊢
  have hl : lv_has ls 4 [(0, .ref a0), (1, .int 0), (2, .int 3), (3, .int n0)] := hl
  refine lv_aload_n hx hb dX6_set_0 rfl (lv_at hl 0 rfl) ?_
  refine lv_iload_n hx hb dX6_set_1 rfl (lv_at hl 1 rfl) ?_
  have hPc := hP.sub (ws' := [(a0, .inr (6, [.int 10, .int 4, .ref a1, .int 1]))]) [0] rfl
  have hDc := hD.sub (ws' := [(a0, .inr (6, [.int 10, .int 4, .ref a1, .int 1]))]) [0] (by decide) rfl
  have hFc := va_free (wc := [(a0, .inr (6, [.int 10, .int 4, .ref a1, .int 1]))]) hD hS hA [0] rfl
  refine va_calli (va_runV (As := [.int 0]) (rest := []) ⟨hx, hb, hml, hown, hts⟩ (kX6_has_5 l G a0 a1 s.heap.size) (cwV 1 hts gV_X6_25 rfl rfl rfl hv_X6_has ⟨Nat.le_of_ble_eq_true rfl, Nat.le_of_ble_eq_true rfl⟩) (g5_preV hPc hK hDc hN hT hS hFc (ci := 6) (q0 := 0) rfl rfl) rfl rfl hl.1 rfl (lv_room (Nat.le_of_ble_eq_true rfl)) dX6_set_2 ⟨Nat.le_of_ble_eq_true rfl, Nat.le_of_ble_eq_true rfl⟩) hS (fun q _ h => hFc q h) hFc (fun r u t H1 locs ht hvm hw hB hz1 hk1 hS => ?_)
  obtain ⟨hP1, hD1⟩ := hB
  rw [ht] at hP1
  obtain ⟨rfl, rfl⟩ := hw
  obtain ⟨hP, hD⟩ := va_join (wr := [(a1, .inl (G.2 0, 40, .inl f0))]) (w1 := [(a0, .inr (6, [.int 10, .int 4, .ref a1, .int 1]))]) hP hD [0] [1] rfl rfl (by decide) (by decide) hk1 hFc hP1 hD1
  generalize H1 = H at hP hS ⊢
  have hP : va_P G.1 vwCl [(a1, .inl (G.2 0, 40, .inl f0)), (a0, .inr (6, [.int 10, .int 4, .ref a1, .int 1]))] H := hP
  have hD : va_D A [(a1, .inl (G.2 0, 40, .inl f0)), (a0, .inr (6, [.int 10, .int 4, .ref a1, .int 1]))] := hD
  refine lv_if_eq (tgt := 34) hx hb dX6_set_5 (by decide) (fun c_1 => ?_) (fun c_1 => ?_)
  ·
    exact absurd c_1 (by decide)
  ·
    refine lv_iload_n hx hb dX6_set_8 rfl (lv_at hl 2 rfl) ?_
    refine lv_if_lt (tgt := 34) hx hb dX6_set_9 (by decide) (fun c_2 => ?_) (fun c_2 => ?_)
    ·
      exact absurd c_2 (by decide)
    ·
      refine lv_iload_n hx hb dX6_set_12 rfl (lv_at hl 2 rfl) ?_
      refine lv_aload_n hx hb dX6_set_13 rfl (lv_at hl 0 rfl) ?_
      refine va_get (D := G.1) (ci := 6) (v := .int 4) (C := RX6) (T := TX6) (N := 4) hx hb hts inG_X6 hown hK hP 1 rfl rfl 1 (by decide) (hts _ fl_X6_18) (fun _ h9 => h9) rfl dX6_set_14 ?_
      refine lv_icmp_ge (tgt := 34) hx hb dX6_set_17 (by decide) (fun c_3 => ?_) (fun c_3 => ?_)
      ·
        exact absurd c_3 (by decide)
      ·
        refine lv_aload_n hx hb dX6_set_20 rfl (lv_at hl 0 rfl) ?_
        refine va_get (D := G.1) (ci := 6) (v := .ref a1) (C := RX6) (T := TX6) (N := 4) hx hb hts inG_X6 hown hK hP 1 rfl rfl 2 (by decide) (hts _ fl_X6_21) (fun _ h9 => h9) rfl dX6_set_21 ?_
        refine lv_iload_n hx hb dX6_set_24 rfl (lv_at hl 1 rfl) ?_
        refine lv_aload_n hx hb dX6_set_25 rfl (lv_at hl 0 rfl) ?_
        refine va_get (D := G.1) (ci := 6) (v := .int 4) (C := RX6) (T := TX6) (N := 4) hx hb hts inG_X6 hown hK hP 1 rfl rfl 1 (by decide) (hts _ fl_X6_18) (fun _ h9 => h9) rfl dX6_set_26 ?_
        refine lv_imul hx hb dX6_set_29 ?_
        refine g5_ti (v := 0) (by decide) ?_
        refine lv_iload_n hx hb dX6_set_30 rfl (lv_at hl 2 rfl) ?_
        refine lv_iadd hx hb dX6_set_31 ?_
        refine g5_ti (v := 3) (by decide) ?_
        refine lv_iload_n hx hb dX6_set_32 rfl (lv_at hl 3 rfl) ?_
        refine va_iast hx hb hK hP hD hS 0 0 rfl rfl (i := 3) (x := n0) (by unfold vp_in; decide) dX6_set_33 (fun H locs hP hD hS => ?_)
        have hP : va_P G.1 vwCl [(a1, .inl (G.2 0, 40, .inl (upd f0 3 n0))), (a0, .inr (6, [.int 10, .int 4, .ref a1, .int 1]))] H := hP
        have hD : va_D A [(a1, .inl (G.2 0, 40, .inl (upd f0 3 n0))), (a0, .inr (6, [.int 10, .int 4, .ref a1, .int 1]))] := hD
        exact W.vret hx hb hr (fun t ht hW => ⟨⟨[(a1, .inl (G.2 0, 40, .inl (upd f0 3 n0))), (a0, .inr (6, [.int 10, .int 4, .ref a1, .int 1]))], rfl, rfl, by rw [ht]; exact hP, hD⟩, hS.F ht⟩) hS.2.2 dX6_set_34
theorem dX11_sighting_0 : decode cX11_sighting 0 = .ok (.iload_n 1, 1) := by decide +kernel
theorem dX11_sighting_1 : decode cX11_sighting 1 = .ok (.iload_n 2, 1) := by decide +kernel
theorem dX11_sighting_2 : decode cX11_sighting 2 = .ok (.iload_n 3, 1) := by decide +kernel
theorem dX11_sighting_3 : decode cX11_sighting 3 = .ok (.invokestatic 207, 3) := by decide +kernel
theorem dX11_sighting_6 : decode cX11_sighting 6 = .ok (.ifCond .eq 11, 3) := by decide +kernel
theorem dX11_sighting_9 : decode cX11_sighting 9 = .ok (.iload 4, 2) := by decide +kernel
theorem dX11_sighting_11 : decode cX11_sighting 11 = .ok (.invokestatic 101, 3) := by decide +kernel
theorem dX11_sighting_14 : decode cX11_sighting 14 = .ok (.ifCond .ne 9, 3) := by decide +kernel
theorem dX11_sighting_17 : decode cX11_sighting 17 = .ok (.aload_n 0, 1) := by decide +kernel
theorem dX11_sighting_18 : decode cX11_sighting 18 = .ok (.iconst (-1), 1) := by decide +kernel
theorem dX11_sighting_19 : decode cX11_sighting 19 = .ok (.invokevirtual 104, 3) := by decide +kernel
theorem dX11_sighting_22 : decode cX11_sighting 22 = .ok (.ireturn, 1) := by decide +kernel
theorem dX11_sighting_23 : decode cX11_sighting 23 = .ok (.aload_n 0, 1) := by decide +kernel
theorem dX11_sighting_24 : decode cX11_sighting 24 = .ok (.getfield 12, 3) := by decide +kernel
theorem dX11_sighting_27 : decode cX11_sighting 27 = .ok (.getfield 261, 3) := by decide +kernel
theorem dX11_sighting_30 : decode cX11_sighting 30 = .ok (.invokevirtual 140, 3) := by decide +kernel
theorem dX11_sighting_33 : decode cX11_sighting 33 = .ok (.ifCond .ne 20, 3) := by decide +kernel
theorem dX11_sighting_36 : decode cX11_sighting 36 = .ok (.iload 4, 2) := by decide +kernel
theorem dX11_sighting_38 : decode cX11_sighting 38 = .ok (.iconst 1, 1) := by decide +kernel
theorem dX11_sighting_39 : decode cX11_sighting 39 = .ok (.if_icmp .ne 21, 3) := by decide +kernel
theorem dX11_sighting_42 : decode cX11_sighting 42 = .ok (.aload_n 0, 1) := by decide +kernel
theorem dX11_sighting_43 : decode cX11_sighting 43 = .ok (.getfield 12, 3) := by decide +kernel
theorem dX11_sighting_46 : decode cX11_sighting 46 = .ok (.invokevirtual 264, 3) := by decide +kernel
theorem dX11_sighting_49 : decode cX11_sighting 49 = .ok (.iconst 5, 1) := by decide +kernel
theorem dX11_sighting_50 : decode cX11_sighting 50 = .ok (.if_icmp .lt 10, 3) := by decide +kernel
theorem dX11_sighting_53 : decode cX11_sighting 53 = .ok (.aload_n 0, 1) := by decide +kernel
theorem dX11_sighting_54 : decode cX11_sighting 54 = .ok (.bipush (-5), 2) := by decide +kernel
theorem dX11_sighting_56 : decode cX11_sighting 56 = .ok (.invokevirtual 104, 3) := by decide +kernel
theorem dX11_sighting_59 : decode cX11_sighting 59 = .ok (.ireturn, 1) := by decide +kernel
theorem dX11_sighting_60 : decode cX11_sighting 60 = .ok (.aload_n 0, 1) := by decide +kernel
theorem dX11_sighting_61 : decode cX11_sighting 61 = .ok (.getfield 12, 3) := by decide +kernel
theorem dX11_sighting_64 : decode cX11_sighting 64 = .ok (.getfield 261, 3) := by decide +kernel
theorem dX11_sighting_67 : decode cX11_sighting 67 = .ok (.iconst 0, 1) := by decide +kernel
theorem dX11_sighting_68 : decode cX11_sighting 68 = .ok (.invokevirtual 146, 3) := by decide +kernel
theorem dX11_sighting_71 : decode cX11_sighting 71 = .ok (.istore 5, 2) := by decide +kernel
theorem dX11_sighting_73 : decode cX11_sighting 73 = .ok (.aload_n 0, 1) := by decide +kernel
theorem dX11_sighting_74 : decode cX11_sighting 74 = .ok (.getfield 12, 3) := by decide +kernel
theorem dX11_sighting_77 : decode cX11_sighting 77 = .ok (.getfield 261, 3) := by decide +kernel
theorem dX11_sighting_80 : decode cX11_sighting 80 = .ok (.iload 5, 2) := by decide +kernel
theorem dX11_sighting_82 : decode cX11_sighting 82 = .ok (.iload_n 1, 1) := by decide +kernel
theorem dX11_sighting_83 : decode cX11_sighting 83 = .ok (.iload_n 2, 1) := by decide +kernel
theorem dX11_sighting_84 : decode cX11_sighting 84 = .ok (.iload_n 3, 1) := by decide +kernel
theorem dX11_sighting_85 : decode cX11_sighting 85 = .ok (.invokevirtual 268, 3) := by decide +kernel
theorem dX11_sighting_88 : decode cX11_sighting 88 = .ok (.aload_n 0, 1) := by decide +kernel
theorem dX11_sighting_89 : decode cX11_sighting 89 = .ok (.getfield 12, 3) := by decide +kernel
theorem dX11_sighting_92 : decode cX11_sighting 92 = .ok (.getfield 261, 3) := by decide +kernel
theorem dX11_sighting_95 : decode cX11_sighting 95 = .ok (.iload 5, 2) := by decide +kernel
theorem dX11_sighting_97 : decode cX11_sighting 97 = .ok (.iconst 3, 1) := by decide +kernel
theorem dX11_sighting_98 : decode cX11_sighting 98 = .ok (.iload 4, 2) := by decide +kernel
theorem dX11_sighting_100 : decode cX11_sighting 100 = .ok (.invokevirtual 149, 3) := by decide +kernel
theorem dX11_sighting_103 : decode cX11_sighting 103 = .ok (.aload_n 0, 1) := by decide +kernel
theorem dX11_sighting_104 : decode cX11_sighting 104 = .ok (.aload_n 0, 1) := by decide +kernel
theorem dX11_sighting_105 : decode cX11_sighting 105 = .ok (.getfield 12, 3) := by decide +kernel
theorem dX11_sighting_108 : decode cX11_sighting 108 = .ok (.getfield 261, 3) := by decide +kernel
theorem dX11_sighting_111 : decode cX11_sighting 111 = .ok (.getfield 238, 3) := by decide +kernel
theorem dX11_sighting_114 : decode cX11_sighting 114 = .ok (.invokevirtual 121, 3) := by decide +kernel
theorem dX11_sighting_117 : decode cX11_sighting 117 = .ok (.ireturn, 1) := by decide +kernel
set_option maxHeartbeats 4000000 in
set_option maxRecDepth 100000 in
theorem kX11_sighting (l : Launch) (G : g5_G) (a0 a1 a2 a3 a4 a5 a6 a7 a8 a9 a10 a11 a12 a13 a14 a15 a16 a17 a18 a19 a20 : Nat) (sz : Nat) (n0 : Int32) (n1 : Int32) (n2 : Int32) (n3 : Int32) : Met l yX11_sighting (wsG yX11_sighting cX11_sighting 6 (some .int)) ({ frames := 3, cells := 0, slots := 0, locals := 68 }) (va_Pc [.ref a0, .int n0, .int n1, .int n2, .int n3] (g5_P G [(a0, .inr (11, [.ref a1, .ref a2, .ref a3, .ref a4, .ref a5, .ref a6, .ref a7, .ref a8, .ref a9, .ref a10, .int 0, .int 0, .int (-1), .ref a11, .int 0, .ref a12, .int 0])), (a12, .inl (G.2 0, 5, .inl (fun _ => 0))), (a1, .inr (1, [.long 0, .int 1000, .int (-1), .int (-1), .int 0, .ref a13, .ref a14, .ref a15, .ref a16, .ref a17, .ref a18, .long 0, .ref a19])), (a16, .inr (6, [.int 10, .int 4, .ref a20, .int 0])), (a20, .inl (G.2 0, 40, .inl (fun _ => 0)))] sz)) (va_Qi (fun (r : Int32) (u : va_W) => ((n0.toInt < 0) ∧ (r = (-1)) ∧ (u = [])) ∨ ((n0.toInt ≥ 0) ∧ (n0.toInt ≥ 64) ∧ (r = (-1)) ∧ (u = [])) ∨ ((n0.toInt ≥ 0) ∧ (n0.toInt < 64) ∧ (n1.toInt < 0) ∧ (r = (-1)) ∧ (u = [])) ∨ ((n0.toInt ≥ 0) ∧ (n0.toInt < 64) ∧ (n1.toInt ≥ 0) ∧ (n1.toInt ≥ 4) ∧ (r = (-1)) ∧ (u = [])) ∨ ((n0.toInt ≥ 0) ∧ (n0.toInt < 64) ∧ (n1.toInt ≥ 0) ∧ (n1.toInt < 4) ∧ (n2.toInt < 0) ∧ (r = (-1)) ∧ (u = [])) ∨ ((n0.toInt ≥ 0) ∧ (n0.toInt < 64) ∧ (n1.toInt ≥ 0) ∧ (n1.toInt < 4) ∧ (n2.toInt ≥ 0) ∧ (n2.toInt ≥ 24) ∧ (r = (-1)) ∧ (u = [])) ∨ ((n0.toInt ≥ 0) ∧ (n0.toInt < 64) ∧ (n1.toInt ≥ 0) ∧ (n1.toInt < 4) ∧ (n2.toInt ≥ 0) ∧ (n2.toInt < 24) ∧ (n3.toInt = 0) ∧ (n3.toInt ≠ 1) ∧ (r = 1) ∧ (u = [])) ∨ ((n0.toInt ≥ 0) ∧ (n0.toInt < 64) ∧ (n1.toInt ≥ 0) ∧ (n1.toInt < 4) ∧ (n2.toInt ≥ 0) ∧ (n2.toInt < 24) ∧ (n3.toInt ≠ 0) ∧ (n3.toInt ≠ 1) ∧ (r = (-1)) ∧ (u = [])) ∨ ((n0.toInt ≥ 0) ∧ (n0.toInt < 64) ∧ (n1.toInt ≥ 0) ∧ (n1.toInt < 4) ∧ (n2.toInt ≥ 0) ∧ (n2.toInt < 24) ∧ (n3.toInt ≠ 0) ∧ (n3.toInt = 1) ∧ (n3.toInt = 1) ∧ (r = 1) ∧ (u = []))) (g5_B G (va_A [(a0, .inr (11, [.ref a1, .ref a2, .ref a3, .ref a4, .ref a5, .ref a6, .ref a7, .ref a8, .ref a9, .ref a10, .int 0, .int 0, .int (-1), .ref a11, .int 0, .ref a12, .int 0])), (a12, .inl (G.2 0, 5, .inl (fun _ => 0))), (a1, .inr (1, [.long 0, .int 1000, .int (-1), .int (-1), .int 0, .ref a13, .ref a14, .ref a15, .ref a16, .ref a17, .ref a18, .long 0, .ref a19])), (a16, .inr (6, [.int 10, .int 4, .ref a20, .int 0])), (a20, .inl (G.2 0, 40, .inl (fun _ => 0)))] sz)) (va_A [(a0, .inr (11, [.ref a1, .ref a2, .ref a3, .ref a4, .ref a5, .ref a6, .ref a7, .ref a8, .ref a9, .ref a10, .int 0, .int 0, .int (-1), .ref a11, .int 0, .ref a12, .int 0])), (a12, .inl (G.2 0, 5, .inl (fun _ => 0))), (a1, .inr (1, [.long 0, .int 1000, .int (-1), .int (-1), .int 0, .ref a13, .ref a14, .ref a15, .ref a16, .ref a17, .ref a18, .long 0, .ref a19])), (a16, .inr (6, [.int 10, .int 4, .ref a20, .int 0])), (a20, .inl (G.2 0, 40, .inl (fun _ => 0)))] sz)) 0 0 (va_A [(a0, .inr (11, [.ref a1, .ref a2, .ref a3, .ref a4, .ref a5, .ref a6, .ref a7, .ref a8, .ref a9, .ref a10, .int 0, .int 0, .int (-1), .ref a11, .int 0, .ref a12, .int 0])), (a12, .inl (G.2 0, 5, .inl (fun _ => 0))), (a1, .inr (1, [.long 0, .int 1000, .int (-1), .int (-1), .int 0, .ref a13, .ref a14, .ref a15, .ref a16, .ref a17, .ref a18, .long 0, .ref a19])), (a16, .inr (6, [.int 10, .int 4, .ref a20, .int 0])), (a20, .inl (G.2 0, 40, .inl (fun _ => 0)))] sz) := by
  refine Met.ofW (cc := cX11_sighting) (maxL := 6) (ret := (some .int)) (by decide) rfl ?_
  intro p e s m args below meth c s₁ B hml hv
  obtain ⟨rfl, hsz, hP, hK, hD0, hN, hT⟩ := hv
  have hx := B.exec
  have hb := B.bytes
  have hr := B.returns
  have hts : ∀ w ∈ tblG, w.before _ s = true := fun w h => atoms_spec (ws := (wsG yX11_sighting cX11_sighting 6 (some .int))) B.pre w (List.mem_cons_of_mem _ h)
  have hown : s.vm.findClass RX11 = some m.cls := findClass_of_methodNamed B.named
  have hlocks := B.notSynchronized
  subst hsz
  have hD := hD0.self (sz := s.heap.size)
  generalize hAe : va_A [(a0, .inr (11, [.ref a1, .ref a2, .ref a3, .ref a4, .ref a5, .ref a6, .ref a7, .ref a8, .ref a9, .ref a10, .int 0, .int 0, .int (-1), .ref a11, .int 0, .ref a12, .int 0])), (a12, .inl (G.2 0, 5, .inl (fun _ => 0))), (a1, .inr (1, [.long 0, .int 1000, .int (-1), .int (-1), .int 0, .ref a13, .ref a14, .ref a15, .ref a16, .ref a17, .ref a18, .long 0, .ref a19])), (a16, .inr (6, [.int 10, .int 4, .ref a20, .int 0])), (a20, .inl (G.2 0, 40, .inl (fun _ => 0)))] s.heap.size = A at hD hT ⊢
  have hA : ∀ q : Nat, s.heap.size ≤ q → A q := fun q h => by rw [← hAe]; exact Or.inr h
  have hS : va_S A s.heap s.heap [] := va_S.rf
  have hP : va_P G.1 vwCl [(a0, .inr (11, [.ref a1, .ref a2, .ref a3, .ref a4, .ref a5, .ref a6, .ref a7, .ref a8, .ref a9, .ref a10, .int 0, .int 0, .int (-1), .ref a11, .int 0, .ref a12, .int 0])), (a12, .inl (G.2 0, 5, .inl (fun _ => 0))), (a1, .inr (1, [.long 0, .int 1000, .int (-1), .int (-1), .int 0, .ref a13, .ref a14, .ref a15, .ref a16, .ref a17, .ref a18, .long 0, .ref a19])), (a16, .inr (6, [.int 10, .int 4, .ref a20, .int 0])), (a20, .inl (G.2 0, 40, .inl (fun _ => 0)))] s.heap := hP
  have hl := lv_entry ([.ref a0, .int n0, .int n1, .int n2, .int n3]) (n := 6) (Nat.le_of_ble_eq_true rfl)
  rw [lg_entry_eq]
  generalize (lg_sl ([.ref a0, .int n0, .int n1, .int n2, .int n3]) ++ List.replicate (6 - (lg_sl ([.ref a0, .int n0, .int n1, .int n2, .int n3])).length) Slot.unset).toArray = ls at hl ⊢
  have hl : lv_has ls 6 [(0, .ref a0), (1, .int n0), (2, .int n1), (3, .int n2), (4, .int n3)] := hl
  refine lv_iload_n hx hb dX11_sighting_0 rfl (lv_at hl 1 rfl) ?_
  refine lv_iload_n hx hb dX11_sighting_1 rfl (lv_at hl 2 rfl) ?_
  refine lv_iload_n hx hb dX11_sighting_2 rfl (lv_at hl 3 rfl) ?_
  have hPc := hP.sub (ws' := []) [] rfl
  have hDc := hD.sub (ws' := []) [] (by decide) rfl
  have hFc := va_free (wc := []) hD hS hA [] rfl
  refine va_calli (va_runS (As := [.int n0, .int n1, .int n2]) (rest := []) ⟨hx, hb, hml, hown, hts⟩ (kX11_isLook_5 l G s.heap.size n0 n1 n2) (va_cwS 3 hts gS_X11_207 rfl rfl rfl hs_X11_isLook ⟨Nat.le_of_ble_eq_true rfl, Nat.le_of_ble_eq_true rfl⟩) (g5_preS hPc hK hDc hN hT hS hFc) rfl rfl hl.1 rfl (lv_room (Nat.le_of_ble_eq_true rfl)) dX11_sighting_3 ⟨Nat.le_of_ble_eq_true rfl, Nat.le_of_ble_eq_true rfl⟩) hS (fun q _ h => hFc q h) hFc (fun r u t H1 locs ht hvm hw hB hz1 hk1 hS => ?_)
  obtain ⟨hP1, hD1⟩ := hB
  rw [ht] at hP1
  rcases hw with ⟨i_1, rfl, rfl⟩ | ⟨i_2, i_3, rfl, rfl⟩ | ⟨i_4, i_5, i_6, rfl, rfl⟩ | ⟨i_7, i_8, i_9, i_10, rfl, rfl⟩ | ⟨i_11, i_12, i_13, i_14, i_15, rfl, rfl⟩ | ⟨i_16, i_17, i_18, i_19, i_20, i_21, rfl, rfl⟩ | ⟨i_22, i_23, i_24, i_25, i_26, i_27, rfl, rfl⟩
  ·
    have hP := g5_same hP hk1
    generalize H1 = H at hP hS ⊢
    refine lv_if_eq (tgt := 17) hx hb dX11_sighting_6 (by decide) (fun c_28 => ?_) (fun c_28 => ?_)
    ·
      refine lv_aload_n hx hb dX11_sighting_17 rfl (lv_at hl 0 rfl) ?_
      refine lv_iconst (v := (-1)) hx hb dX11_sighting_18 (by decide) ?_
      have hPc := hP.sub (ws' := [(a0, .inr (11, [.ref a1, .ref a2, .ref a3, .ref a4, .ref a5, .ref a6, .ref a7, .ref a8, .ref a9, .ref a10, .int 0, .int 0, .int (-1), .ref a11, .int 0, .ref a12, .int 0])), (a12, .inl (G.2 0, 5, .inl (fun _ => 0)))]) [0, 1] rfl
      have hDc := hD.sub (ws' := [(a0, .inr (11, [.ref a1, .ref a2, .ref a3, .ref a4, .ref a5, .ref a6, .ref a7, .ref a8, .ref a9, .ref a10, .int 0, .int 0, .int (-1), .ref a11, .int 0, .ref a12, .int 0])), (a12, .inl (G.2 0, 5, .inl (fun _ => 0)))]) [0, 1] (by decide) rfl
      have hFc := va_free (wc := [(a0, .inr (11, [.ref a1, .ref a2, .ref a3, .ref a4, .ref a5, .ref a6, .ref a7, .ref a8, .ref a9, .ref a10, .int 0, .int 0, .int (-1), .ref a11, .int 0, .ref a12, .int 0])), (a12, .inl (G.2 0, 5, .inl (fun _ => 0)))]) hD hS hA [0, 1] rfl
      refine va_calli (va_runV (As := [.int (-1)]) (rest := []) ⟨hx, hb, hml, hown, hts⟩ (kX11_refuse l G a0 a1 a2 a3 a4 a5 a6 a7 a8 a9 a10 a11 a12 H.size) (cwV 1 hts gV_X11_104 rfl rfl rfl hv_X11_refuse ⟨Nat.le_of_ble_eq_true rfl, Nat.le_of_ble_eq_true rfl⟩) (g5_preV hPc hK hDc hN hT hS hFc (ci := 11) (q0 := 0) rfl rfl) rfl rfl hl.1 rfl (lv_room (Nat.le_of_ble_eq_true rfl)) dX11_sighting_19 ⟨Nat.le_of_ble_eq_true rfl, Nat.le_of_ble_eq_true rfl⟩) hS (fun q _ h => hFc q h) hFc (fun r u t H1 locs ht hvm hw hB hz1 hk1 hS => ?_)
      obtain ⟨hP1, hD1⟩ := hB
      rw [ht] at hP1
      obtain ⟨rfl, rfl⟩ := hw
      obtain ⟨hP, hD⟩ := va_join (wr := [(a1, .inr (1, [.long 0, .int 1000, .int (-1), .int (-1), .int 0, .ref a13, .ref a14, .ref a15, .ref a16, .ref a17, .ref a18, .long 0, .ref a19])), (a16, .inr (6, [.int 10, .int 4, .ref a20, .int 0])), (a20, .inl (G.2 0, 40, .inl (fun _ => 0)))]) (w1 := [(a0, .inr (11, [.ref a1, .ref a2, .ref a3, .ref a4, .ref a5, .ref a6, .ref a7, .ref a8, .ref a9, .ref a10, .int 0, .int 0, .int (-1), .ref a11, .int 0, .ref a12, .int (-1)])), (a12, .inl (G.2 0, 5, .inl (upd (fun _ => 0) 0 1)))]) hP hD [0, 1] [2, 3, 4] rfl rfl (by decide) (by decide) hk1 hFc hP1 hD1
      generalize H1 = H at hP hS ⊢
      have hP : va_P G.1 vwCl [(a1, .inr (1, [.long 0, .int 1000, .int (-1), .int (-1), .int 0, .ref a13, .ref a14, .ref a15, .ref a16, .ref a17, .ref a18, .long 0, .ref a19])), (a16, .inr (6, [.int 10, .int 4, .ref a20, .int 0])), (a20, .inl (G.2 0, 40, .inl (fun _ => 0))), (a0, .inr (11, [.ref a1, .ref a2, .ref a3, .ref a4, .ref a5, .ref a6, .ref a7, .ref a8, .ref a9, .ref a10, .int 0, .int 0, .int (-1), .ref a11, .int 0, .ref a12, .int (-1)])), (a12, .inl (G.2 0, 5, .inl (upd (fun _ => 0) 0 1)))] H := hP
      have hD : va_D A [(a1, .inr (1, [.long 0, .int 1000, .int (-1), .int (-1), .int 0, .ref a13, .ref a14, .ref a15, .ref a16, .ref a17, .ref a18, .long 0, .ref a19])), (a16, .inr (6, [.int 10, .int 4, .ref a20, .int 0])), (a20, .inl (G.2 0, 40, .inl (fun _ => 0))), (a0, .inr (11, [.ref a1, .ref a2, .ref a3, .ref a4, .ref a5, .ref a6, .ref a7, .ref a8, .ref a9, .ref a10, .int 0, .int 0, .int (-1), .ref a11, .int 0, .ref a12, .int (-1)])), (a12, .inl (G.2 0, 5, .inl (upd (fun _ => 0) 0 1)))] := hD
      have hP := hP.sub (ws' := []) [] rfl
      have hD := hD.sub (ws' := []) [] (by decide) rfl
      exact W.iret (v := (-1)) hx hb hr (fun t ht hW => ⟨⟨(-1), [], rfl, Or.inl (⟨i_1, rfl, rfl⟩), by rw [ht]; exact hP, hD⟩, hS.F ht⟩) hS.2.2 dX11_sighting_22
    ·
      exact absurd c_28 (by decide)
  ·
    have hP := g5_same hP hk1
    generalize H1 = H at hP hS ⊢
    refine lv_if_eq (tgt := 17) hx hb dX11_sighting_6 (by decide) (fun c_29 => ?_) (fun c_29 => ?_)
    ·
      refine lv_aload_n hx hb dX11_sighting_17 rfl (lv_at hl 0 rfl) ?_
      refine lv_iconst (v := (-1)) hx hb dX11_sighting_18 (by decide) ?_
      have hPc := hP.sub (ws' := [(a0, .inr (11, [.ref a1, .ref a2, .ref a3, .ref a4, .ref a5, .ref a6, .ref a7, .ref a8, .ref a9, .ref a10, .int 0, .int 0, .int (-1), .ref a11, .int 0, .ref a12, .int 0])), (a12, .inl (G.2 0, 5, .inl (fun _ => 0)))]) [0, 1] rfl
      have hDc := hD.sub (ws' := [(a0, .inr (11, [.ref a1, .ref a2, .ref a3, .ref a4, .ref a5, .ref a6, .ref a7, .ref a8, .ref a9, .ref a10, .int 0, .int 0, .int (-1), .ref a11, .int 0, .ref a12, .int 0])), (a12, .inl (G.2 0, 5, .inl (fun _ => 0)))]) [0, 1] (by decide) rfl
      have hFc := va_free (wc := [(a0, .inr (11, [.ref a1, .ref a2, .ref a3, .ref a4, .ref a5, .ref a6, .ref a7, .ref a8, .ref a9, .ref a10, .int 0, .int 0, .int (-1), .ref a11, .int 0, .ref a12, .int 0])), (a12, .inl (G.2 0, 5, .inl (fun _ => 0)))]) hD hS hA [0, 1] rfl
      refine va_calli (va_runV (As := [.int (-1)]) (rest := []) ⟨hx, hb, hml, hown, hts⟩ (kX11_refuse l G a0 a1 a2 a3 a4 a5 a6 a7 a8 a9 a10 a11 a12 H.size) (cwV 1 hts gV_X11_104 rfl rfl rfl hv_X11_refuse ⟨Nat.le_of_ble_eq_true rfl, Nat.le_of_ble_eq_true rfl⟩) (g5_preV hPc hK hDc hN hT hS hFc (ci := 11) (q0 := 0) rfl rfl) rfl rfl hl.1 rfl (lv_room (Nat.le_of_ble_eq_true rfl)) dX11_sighting_19 ⟨Nat.le_of_ble_eq_true rfl, Nat.le_of_ble_eq_true rfl⟩) hS (fun q _ h => hFc q h) hFc (fun r u t H1 locs ht hvm hw hB hz1 hk1 hS => ?_)
      obtain ⟨hP1, hD1⟩ := hB
      rw [ht] at hP1
      obtain ⟨rfl, rfl⟩ := hw
      obtain ⟨hP, hD⟩ := va_join (wr := [(a1, .inr (1, [.long 0, .int 1000, .int (-1), .int (-1), .int 0, .ref a13, .ref a14, .ref a15, .ref a16, .ref a17, .ref a18, .long 0, .ref a19])), (a16, .inr (6, [.int 10, .int 4, .ref a20, .int 0])), (a20, .inl (G.2 0, 40, .inl (fun _ => 0)))]) (w1 := [(a0, .inr (11, [.ref a1, .ref a2, .ref a3, .ref a4, .ref a5, .ref a6, .ref a7, .ref a8, .ref a9, .ref a10, .int 0, .int 0, .int (-1), .ref a11, .int 0, .ref a12, .int (-1)])), (a12, .inl (G.2 0, 5, .inl (upd (fun _ => 0) 0 1)))]) hP hD [0, 1] [2, 3, 4] rfl rfl (by decide) (by decide) hk1 hFc hP1 hD1
      generalize H1 = H at hP hS ⊢
      have hP : va_P G.1 vwCl [(a1, .inr (1, [.long 0, .int 1000, .int (-1), .int (-1), .int 0, .ref a13, .ref a14, .ref a15, .ref a16, .ref a17, .ref a18, .long 0, .ref a19])), (a16, .inr (6, [.int 10, .int 4, .ref a20, .int 0])), (a20, .inl (G.2 0, 40, .inl (fun _ => 0))), (a0, .inr (11, [.ref a1, .ref a2, .ref a3, .ref a4, .ref a5, .ref a6, .ref a7, .ref a8, .ref a9, .ref a10, .int 0, .int 0, .int (-1), .ref a11, .int 0, .ref a12, .int (-1)])), (a12, .inl (G.2 0, 5, .inl (upd (fun _ => 0) 0 1)))] H := hP
      have hD : va_D A [(a1, .inr (1, [.long 0, .int 1000, .int (-1), .int (-1), .int 0, .ref a13, .ref a14, .ref a15, .ref a16, .ref a17, .ref a18, .long 0, .ref a19])), (a16, .inr (6, [.int 10, .int 4, .ref a20, .int 0])), (a20, .inl (G.2 0, 40, .inl (fun _ => 0))), (a0, .inr (11, [.ref a1, .ref a2, .ref a3, .ref a4, .ref a5, .ref a6, .ref a7, .ref a8, .ref a9, .ref a10, .int 0, .int 0, .int (-1), .ref a11, .int 0, .ref a12, .int (-1)])), (a12, .inl (G.2 0, 5, .inl (upd (fun _ => 0) 0 1)))] := hD
      have hP := hP.sub (ws' := []) [] rfl
      have hD := hD.sub (ws' := []) [] (by decide) rfl
      exact W.iret (v := (-1)) hx hb hr (fun t ht hW => ⟨⟨(-1), [], rfl, Or.inr (Or.inl (⟨i_2, i_3, rfl, rfl⟩)), by rw [ht]; exact hP, hD⟩, hS.F ht⟩) hS.2.2 dX11_sighting_22
    ·
      exact absurd c_29 (by decide)
  ·
    have hP := g5_same hP hk1
    generalize H1 = H at hP hS ⊢
    refine lv_if_eq (tgt := 17) hx hb dX11_sighting_6 (by decide) (fun c_30 => ?_) (fun c_30 => ?_)
    ·
      refine lv_aload_n hx hb dX11_sighting_17 rfl (lv_at hl 0 rfl) ?_
      refine lv_iconst (v := (-1)) hx hb dX11_sighting_18 (by decide) ?_
      have hPc := hP.sub (ws' := [(a0, .inr (11, [.ref a1, .ref a2, .ref a3, .ref a4, .ref a5, .ref a6, .ref a7, .ref a8, .ref a9, .ref a10, .int 0, .int 0, .int (-1), .ref a11, .int 0, .ref a12, .int 0])), (a12, .inl (G.2 0, 5, .inl (fun _ => 0)))]) [0, 1] rfl
      have hDc := hD.sub (ws' := [(a0, .inr (11, [.ref a1, .ref a2, .ref a3, .ref a4, .ref a5, .ref a6, .ref a7, .ref a8, .ref a9, .ref a10, .int 0, .int 0, .int (-1), .ref a11, .int 0, .ref a12, .int 0])), (a12, .inl (G.2 0, 5, .inl (fun _ => 0)))]) [0, 1] (by decide) rfl
      have hFc := va_free (wc := [(a0, .inr (11, [.ref a1, .ref a2, .ref a3, .ref a4, .ref a5, .ref a6, .ref a7, .ref a8, .ref a9, .ref a10, .int 0, .int 0, .int (-1), .ref a11, .int 0, .ref a12, .int 0])), (a12, .inl (G.2 0, 5, .inl (fun _ => 0)))]) hD hS hA [0, 1] rfl
      refine va_calli (va_runV (As := [.int (-1)]) (rest := []) ⟨hx, hb, hml, hown, hts⟩ (kX11_refuse l G a0 a1 a2 a3 a4 a5 a6 a7 a8 a9 a10 a11 a12 H.size) (cwV 1 hts gV_X11_104 rfl rfl rfl hv_X11_refuse ⟨Nat.le_of_ble_eq_true rfl, Nat.le_of_ble_eq_true rfl⟩) (g5_preV hPc hK hDc hN hT hS hFc (ci := 11) (q0 := 0) rfl rfl) rfl rfl hl.1 rfl (lv_room (Nat.le_of_ble_eq_true rfl)) dX11_sighting_19 ⟨Nat.le_of_ble_eq_true rfl, Nat.le_of_ble_eq_true rfl⟩) hS (fun q _ h => hFc q h) hFc (fun r u t H1 locs ht hvm hw hB hz1 hk1 hS => ?_)
      obtain ⟨hP1, hD1⟩ := hB
      rw [ht] at hP1
      obtain ⟨rfl, rfl⟩ := hw
      obtain ⟨hP, hD⟩ := va_join (wr := [(a1, .inr (1, [.long 0, .int 1000, .int (-1), .int (-1), .int 0, .ref a13, .ref a14, .ref a15, .ref a16, .ref a17, .ref a18, .long 0, .ref a19])), (a16, .inr (6, [.int 10, .int 4, .ref a20, .int 0])), (a20, .inl (G.2 0, 40, .inl (fun _ => 0)))]) (w1 := [(a0, .inr (11, [.ref a1, .ref a2, .ref a3, .ref a4, .ref a5, .ref a6, .ref a7, .ref a8, .ref a9, .ref a10, .int 0, .int 0, .int (-1), .ref a11, .int 0, .ref a12, .int (-1)])), (a12, .inl (G.2 0, 5, .inl (upd (fun _ => 0) 0 1)))]) hP hD [0, 1] [2, 3, 4] rfl rfl (by decide) (by decide) hk1 hFc hP1 hD1
      generalize H1 = H at hP hS ⊢
      have hP : va_P G.1 vwCl [(a1, .inr (1, [.long 0, .int 1000, .int (-1), .int (-1), .int 0, .ref a13, .ref a14, .ref a15, .ref a16, .ref a17, .ref a18, .long 0, .ref a19])), (a16, .inr (6, [.int 10, .int 4, .ref a20, .int 0])), (a20, .inl (G.2 0, 40, .inl (fun _ => 0))), (a0, .inr (11, [.ref a1, .ref a2, .ref a3, .ref a4, .ref a5, .ref a6, .ref a7, .ref a8, .ref a9, .ref a10, .int 0, .int 0, .int (-1), .ref a11, .int 0, .ref a12, .int (-1)])), (a12, .inl (G.2 0, 5, .inl (upd (fun _ => 0) 0 1)))] H := hP
      have hD : va_D A [(a1, .inr (1, [.long 0, .int 1000, .int (-1), .int (-1), .int 0, .ref a13, .ref a14, .ref a15, .ref a16, .ref a17, .ref a18, .long 0, .ref a19])), (a16, .inr (6, [.int 10, .int 4, .ref a20, .int 0])), (a20, .inl (G.2 0, 40, .inl (fun _ => 0))), (a0, .inr (11, [.ref a1, .ref a2, .ref a3, .ref a4, .ref a5, .ref a6, .ref a7, .ref a8, .ref a9, .ref a10, .int 0, .int 0, .int (-1), .ref a11, .int 0, .ref a12, .int (-1)])), (a12, .inl (G.2 0, 5, .inl (upd (fun _ => 0) 0 1)))] := hD
      have hP := hP.sub (ws' := []) [] rfl
      have hD := hD.sub (ws' := []) [] (by decide) rfl
      exact W.iret (v := (-1)) hx hb hr (fun t ht hW => ⟨⟨(-1), [], rfl, Or.inr (Or.inr (Or.inl (⟨i_4, i_5, i_6, rfl, rfl⟩))), by rw [ht]; exact hP, hD⟩, hS.F ht⟩) hS.2.2 dX11_sighting_22
    ·
      exact absurd c_30 (by decide)
  ·
    have hP := g5_same hP hk1
    generalize H1 = H at hP hS ⊢
    refine lv_if_eq (tgt := 17) hx hb dX11_sighting_6 (by decide) (fun c_31 => ?_) (fun c_31 => ?_)
    ·
      refine lv_aload_n hx hb dX11_sighting_17 rfl (lv_at hl 0 rfl) ?_
      refine lv_iconst (v := (-1)) hx hb dX11_sighting_18 (by decide) ?_
      have hPc := hP.sub (ws' := [(a0, .inr (11, [.ref a1, .ref a2, .ref a3, .ref a4, .ref a5, .ref a6, .ref a7, .ref a8, .ref a9, .ref a10, .int 0, .int 0, .int (-1), .ref a11, .int 0, .ref a12, .int 0])), (a12, .inl (G.2 0, 5, .inl (fun _ => 0)))]) [0, 1] rfl
      have hDc := hD.sub (ws' := [(a0, .inr (11, [.ref a1, .ref a2, .ref a3, .ref a4, .ref a5, .ref a6, .ref a7, .ref a8, .ref a9, .ref a10, .int 0, .int 0, .int (-1), .ref a11, .int 0, .ref a12, .int 0])), (a12, .inl (G.2 0, 5, .inl (fun _ => 0)))]) [0, 1] (by decide) rfl
      have hFc := va_free (wc := [(a0, .inr (11, [.ref a1, .ref a2, .ref a3, .ref a4, .ref a5, .ref a6, .ref a7, .ref a8, .ref a9, .ref a10, .int 0, .int 0, .int (-1), .ref a11, .int 0, .ref a12, .int 0])), (a12, .inl (G.2 0, 5, .inl (fun _ => 0)))]) hD hS hA [0, 1] rfl
      refine va_calli (va_runV (As := [.int (-1)]) (rest := []) ⟨hx, hb, hml, hown, hts⟩ (kX11_refuse l G a0 a1 a2 a3 a4 a5 a6 a7 a8 a9 a10 a11 a12 H.size) (cwV 1 hts gV_X11_104 rfl rfl rfl hv_X11_refuse ⟨Nat.le_of_ble_eq_true rfl, Nat.le_of_ble_eq_true rfl⟩) (g5_preV hPc hK hDc hN hT hS hFc (ci := 11) (q0 := 0) rfl rfl) rfl rfl hl.1 rfl (lv_room (Nat.le_of_ble_eq_true rfl)) dX11_sighting_19 ⟨Nat.le_of_ble_eq_true rfl, Nat.le_of_ble_eq_true rfl⟩) hS (fun q _ h => hFc q h) hFc (fun r u t H1 locs ht hvm hw hB hz1 hk1 hS => ?_)
      obtain ⟨hP1, hD1⟩ := hB
      rw [ht] at hP1
      obtain ⟨rfl, rfl⟩ := hw
      obtain ⟨hP, hD⟩ := va_join (wr := [(a1, .inr (1, [.long 0, .int 1000, .int (-1), .int (-1), .int 0, .ref a13, .ref a14, .ref a15, .ref a16, .ref a17, .ref a18, .long 0, .ref a19])), (a16, .inr (6, [.int 10, .int 4, .ref a20, .int 0])), (a20, .inl (G.2 0, 40, .inl (fun _ => 0)))]) (w1 := [(a0, .inr (11, [.ref a1, .ref a2, .ref a3, .ref a4, .ref a5, .ref a6, .ref a7, .ref a8, .ref a9, .ref a10, .int 0, .int 0, .int (-1), .ref a11, .int 0, .ref a12, .int (-1)])), (a12, .inl (G.2 0, 5, .inl (upd (fun _ => 0) 0 1)))]) hP hD [0, 1] [2, 3, 4] rfl rfl (by decide) (by decide) hk1 hFc hP1 hD1
      generalize H1 = H at hP hS ⊢
      have hP : va_P G.1 vwCl [(a1, .inr (1, [.long 0, .int 1000, .int (-1), .int (-1), .int 0, .ref a13, .ref a14, .ref a15, .ref a16, .ref a17, .ref a18, .long 0, .ref a19])), (a16, .inr (6, [.int 10, .int 4, .ref a20, .int 0])), (a20, .inl (G.2 0, 40, .inl (fun _ => 0))), (a0, .inr (11, [.ref a1, .ref a2, .ref a3, .ref a4, .ref a5, .ref a6, .ref a7, .ref a8, .ref a9, .ref a10, .int 0, .int 0, .int (-1), .ref a11, .int 0, .ref a12, .int (-1)])), (a12, .inl (G.2 0, 5, .inl (upd (fun _ => 0) 0 1)))] H := hP
      have hD : va_D A [(a1, .inr (1, [.long 0, .int 1000, .int (-1), .int (-1), .int 0, .ref a13, .ref a14, .ref a15, .ref a16, .ref a17, .ref a18, .long 0, .ref a19])), (a16, .inr (6, [.int 10, .int 4, .ref a20, .int 0])), (a20, .inl (G.2 0, 40, .inl (fun _ => 0))), (a0, .inr (11, [.ref a1, .ref a2, .ref a3, .ref a4, .ref a5, .ref a6, .ref a7, .ref a8, .ref a9, .ref a10, .int 0, .int 0, .int (-1), .ref a11, .int 0, .ref a12, .int (-1)])), (a12, .inl (G.2 0, 5, .inl (upd (fun _ => 0) 0 1)))] := hD
      have hP := hP.sub (ws' := []) [] rfl
      have hD := hD.sub (ws' := []) [] (by decide) rfl
      exact W.iret (v := (-1)) hx hb hr (fun t ht hW => ⟨⟨(-1), [], rfl, Or.inr (Or.inr (Or.inr (Or.inl (⟨i_7, i_8, i_9, i_10, rfl, rfl⟩)))), by rw [ht]; exact hP, hD⟩, hS.F ht⟩) hS.2.2 dX11_sighting_22
    ·
      exact absurd c_31 (by decide)
  ·
    have hP := g5_same hP hk1
    generalize H1 = H at hP hS ⊢
    refine lv_if_eq (tgt := 17) hx hb dX11_sighting_6 (by decide) (fun c_32 => ?_) (fun c_32 => ?_)
    ·
      refine lv_aload_n hx hb dX11_sighting_17 rfl (lv_at hl 0 rfl) ?_
      refine lv_iconst (v := (-1)) hx hb dX11_sighting_18 (by decide) ?_
      have hPc := hP.sub (ws' := [(a0, .inr (11, [.ref a1, .ref a2, .ref a3, .ref a4, .ref a5, .ref a6, .ref a7, .ref a8, .ref a9, .ref a10, .int 0, .int 0, .int (-1), .ref a11, .int 0, .ref a12, .int 0])), (a12, .inl (G.2 0, 5, .inl (fun _ => 0)))]) [0, 1] rfl
      have hDc := hD.sub (ws' := [(a0, .inr (11, [.ref a1, .ref a2, .ref a3, .ref a4, .ref a5, .ref a6, .ref a7, .ref a8, .ref a9, .ref a10, .int 0, .int 0, .int (-1), .ref a11, .int 0, .ref a12, .int 0])), (a12, .inl (G.2 0, 5, .inl (fun _ => 0)))]) [0, 1] (by decide) rfl
      have hFc := va_free (wc := [(a0, .inr (11, [.ref a1, .ref a2, .ref a3, .ref a4, .ref a5, .ref a6, .ref a7, .ref a8, .ref a9, .ref a10, .int 0, .int 0, .int (-1), .ref a11, .int 0, .ref a12, .int 0])), (a12, .inl (G.2 0, 5, .inl (fun _ => 0)))]) hD hS hA [0, 1] rfl
      refine va_calli (va_runV (As := [.int (-1)]) (rest := []) ⟨hx, hb, hml, hown, hts⟩ (kX11_refuse l G a0 a1 a2 a3 a4 a5 a6 a7 a8 a9 a10 a11 a12 H.size) (cwV 1 hts gV_X11_104 rfl rfl rfl hv_X11_refuse ⟨Nat.le_of_ble_eq_true rfl, Nat.le_of_ble_eq_true rfl⟩) (g5_preV hPc hK hDc hN hT hS hFc (ci := 11) (q0 := 0) rfl rfl) rfl rfl hl.1 rfl (lv_room (Nat.le_of_ble_eq_true rfl)) dX11_sighting_19 ⟨Nat.le_of_ble_eq_true rfl, Nat.le_of_ble_eq_true rfl⟩) hS (fun q _ h => hFc q h) hFc (fun r u t H1 locs ht hvm hw hB hz1 hk1 hS => ?_)
      obtain ⟨hP1, hD1⟩ := hB
      rw [ht] at hP1
      obtain ⟨rfl, rfl⟩ := hw
      obtain ⟨hP, hD⟩ := va_join (wr := [(a1, .inr (1, [.long 0, .int 1000, .int (-1), .int (-1), .int 0, .ref a13, .ref a14, .ref a15, .ref a16, .ref a17, .ref a18, .long 0, .ref a19])), (a16, .inr (6, [.int 10, .int 4, .ref a20, .int 0])), (a20, .inl (G.2 0, 40, .inl (fun _ => 0)))]) (w1 := [(a0, .inr (11, [.ref a1, .ref a2, .ref a3, .ref a4, .ref a5, .ref a6, .ref a7, .ref a8, .ref a9, .ref a10, .int 0, .int 0, .int (-1), .ref a11, .int 0, .ref a12, .int (-1)])), (a12, .inl (G.2 0, 5, .inl (upd (fun _ => 0) 0 1)))]) hP hD [0, 1] [2, 3, 4] rfl rfl (by decide) (by decide) hk1 hFc hP1 hD1
      generalize H1 = H at hP hS ⊢
      have hP : va_P G.1 vwCl [(a1, .inr (1, [.long 0, .int 1000, .int (-1), .int (-1), .int 0, .ref a13, .ref a14, .ref a15, .ref a16, .ref a17, .ref a18, .long 0, .ref a19])), (a16, .inr (6, [.int 10, .int 4, .ref a20, .int 0])), (a20, .inl (G.2 0, 40, .inl (fun _ => 0))), (a0, .inr (11, [.ref a1, .ref a2, .ref a3, .ref a4, .ref a5, .ref a6, .ref a7, .ref a8, .ref a9, .ref a10, .int 0, .int 0, .int (-1), .ref a11, .int 0, .ref a12, .int (-1)])), (a12, .inl (G.2 0, 5, .inl (upd (fun _ => 0) 0 1)))] H := hP
      have hD : va_D A [(a1, .inr (1, [.long 0, .int 1000, .int (-1), .int (-1), .int 0, .ref a13, .ref a14, .ref a15, .ref a16, .ref a17, .ref a18, .long 0, .ref a19])), (a16, .inr (6, [.int 10, .int 4, .ref a20, .int 0])), (a20, .inl (G.2 0, 40, .inl (fun _ => 0))), (a0, .inr (11, [.ref a1, .ref a2, .ref a3, .ref a4, .ref a5, .ref a6, .ref a7, .ref a8, .ref a9, .ref a10, .int 0, .int 0, .int (-1), .ref a11, .int 0, .ref a12, .int (-1)])), (a12, .inl (G.2 0, 5, .inl (upd (fun _ => 0) 0 1)))] := hD
      have hP := hP.sub (ws' := []) [] rfl
      have hD := hD.sub (ws' := []) [] (by decide) rfl
      exact W.iret (v := (-1)) hx hb hr (fun t ht hW => ⟨⟨(-1), [], rfl, Or.inr (Or.inr (Or.inr (Or.inr (Or.inl (⟨i_11, i_12, i_13, i_14, i_15, rfl, rfl⟩))))), by rw [ht]; exact hP, hD⟩, hS.F ht⟩) hS.2.2 dX11_sighting_22
    ·
      exact absurd c_32 (by decide)
  ·
    have hP := g5_same hP hk1
    generalize H1 = H at hP hS ⊢
    refine lv_if_eq (tgt := 17) hx hb dX11_sighting_6 (by decide) (fun c_33 => ?_) (fun c_33 => ?_)
    ·
      refine lv_aload_n hx hb dX11_sighting_17 rfl (lv_at hl 0 rfl) ?_
      refine lv_iconst (v := (-1)) hx hb dX11_sighting_18 (by decide) ?_
      have hPc := hP.sub (ws' := [(a0, .inr (11, [.ref a1, .ref a2, .ref a3, .ref a4, .ref a5, .ref a6, .ref a7, .ref a8, .ref a9, .ref a10, .int 0, .int 0, .int (-1), .ref a11, .int 0, .ref a12, .int 0])), (a12, .inl (G.2 0, 5, .inl (fun _ => 0)))]) [0, 1] rfl
      have hDc := hD.sub (ws' := [(a0, .inr (11, [.ref a1, .ref a2, .ref a3, .ref a4, .ref a5, .ref a6, .ref a7, .ref a8, .ref a9, .ref a10, .int 0, .int 0, .int (-1), .ref a11, .int 0, .ref a12, .int 0])), (a12, .inl (G.2 0, 5, .inl (fun _ => 0)))]) [0, 1] (by decide) rfl
      have hFc := va_free (wc := [(a0, .inr (11, [.ref a1, .ref a2, .ref a3, .ref a4, .ref a5, .ref a6, .ref a7, .ref a8, .ref a9, .ref a10, .int 0, .int 0, .int (-1), .ref a11, .int 0, .ref a12, .int 0])), (a12, .inl (G.2 0, 5, .inl (fun _ => 0)))]) hD hS hA [0, 1] rfl
      refine va_calli (va_runV (As := [.int (-1)]) (rest := []) ⟨hx, hb, hml, hown, hts⟩ (kX11_refuse l G a0 a1 a2 a3 a4 a5 a6 a7 a8 a9 a10 a11 a12 H.size) (cwV 1 hts gV_X11_104 rfl rfl rfl hv_X11_refuse ⟨Nat.le_of_ble_eq_true rfl, Nat.le_of_ble_eq_true rfl⟩) (g5_preV hPc hK hDc hN hT hS hFc (ci := 11) (q0 := 0) rfl rfl) rfl rfl hl.1 rfl (lv_room (Nat.le_of_ble_eq_true rfl)) dX11_sighting_19 ⟨Nat.le_of_ble_eq_true rfl, Nat.le_of_ble_eq_true rfl⟩) hS (fun q _ h => hFc q h) hFc (fun r u t H1 locs ht hvm hw hB hz1 hk1 hS => ?_)
      obtain ⟨hP1, hD1⟩ := hB
      rw [ht] at hP1
      obtain ⟨rfl, rfl⟩ := hw
      obtain ⟨hP, hD⟩ := va_join (wr := [(a1, .inr (1, [.long 0, .int 1000, .int (-1), .int (-1), .int 0, .ref a13, .ref a14, .ref a15, .ref a16, .ref a17, .ref a18, .long 0, .ref a19])), (a16, .inr (6, [.int 10, .int 4, .ref a20, .int 0])), (a20, .inl (G.2 0, 40, .inl (fun _ => 0)))]) (w1 := [(a0, .inr (11, [.ref a1, .ref a2, .ref a3, .ref a4, .ref a5, .ref a6, .ref a7, .ref a8, .ref a9, .ref a10, .int 0, .int 0, .int (-1), .ref a11, .int 0, .ref a12, .int (-1)])), (a12, .inl (G.2 0, 5, .inl (upd (fun _ => 0) 0 1)))]) hP hD [0, 1] [2, 3, 4] rfl rfl (by decide) (by decide) hk1 hFc hP1 hD1
      generalize H1 = H at hP hS ⊢
      have hP : va_P G.1 vwCl [(a1, .inr (1, [.long 0, .int 1000, .int (-1), .int (-1), .int 0, .ref a13, .ref a14, .ref a15, .ref a16, .ref a17, .ref a18, .long 0, .ref a19])), (a16, .inr (6, [.int 10, .int 4, .ref a20, .int 0])), (a20, .inl (G.2 0, 40, .inl (fun _ => 0))), (a0, .inr (11, [.ref a1, .ref a2, .ref a3, .ref a4, .ref a5, .ref a6, .ref a7, .ref a8, .ref a9, .ref a10, .int 0, .int 0, .int (-1), .ref a11, .int 0, .ref a12, .int (-1)])), (a12, .inl (G.2 0, 5, .inl (upd (fun _ => 0) 0 1)))] H := hP
      have hD : va_D A [(a1, .inr (1, [.long 0, .int 1000, .int (-1), .int (-1), .int 0, .ref a13, .ref a14, .ref a15, .ref a16, .ref a17, .ref a18, .long 0, .ref a19])), (a16, .inr (6, [.int 10, .int 4, .ref a20, .int 0])), (a20, .inl (G.2 0, 40, .inl (fun _ => 0))), (a0, .inr (11, [.ref a1, .ref a2, .ref a3, .ref a4, .ref a5, .ref a6, .ref a7, .ref a8, .ref a9, .ref a10, .int 0, .int 0, .int (-1), .ref a11, .int 0, .ref a12, .int (-1)])), (a12, .inl (G.2 0, 5, .inl (upd (fun _ => 0) 0 1)))] := hD
      have hP := hP.sub (ws' := []) [] rfl
      have hD := hD.sub (ws' := []) [] (by decide) rfl
      exact W.iret (v := (-1)) hx hb hr (fun t ht hW => ⟨⟨(-1), [], rfl, Or.inr (Or.inr (Or.inr (Or.inr (Or.inr (Or.inl (⟨i_16, i_17, i_18, i_19, i_20, i_21, rfl, rfl⟩)))))), by rw [ht]; exact hP, hD⟩, hS.F ht⟩) hS.2.2 dX11_sighting_22
    ·
      exact absurd c_33 (by decide)
  ·
    have hP := g5_same hP hk1
    generalize H1 = H at hP hS ⊢
    refine lv_if_eq (tgt := 17) hx hb dX11_sighting_6 (by decide) (fun c_34 => ?_) (fun c_34 => ?_)
    ·
      exact absurd c_34 (by decide)
    ·
      refine lv_iload hx hb dX11_sighting_9 (lv_at hl 4 rfl) ?_
      have hPc := hP.sub (ws' := []) [] rfl
      have hDc := hD.sub (ws' := []) [] (by decide) rfl
      have hFc := va_free (wc := []) hD hS hA [] rfl
      refine va_calli (va_runS (As := [.int n3]) (rest := []) ⟨hx, hb, hml, hown, hts⟩ (kX11_isFlag l G H.size n3) (va_cwS 1 hts gS_X11_101 rfl rfl rfl hs_X11_isFlag ⟨Nat.le_of_ble_eq_true rfl, Nat.le_of_ble_eq_true rfl⟩) (g5_preS hPc hK hDc hN hT hS hFc) rfl rfl hl.1 rfl (lv_room (Nat.le_of_ble_eq_true rfl)) dX11_sighting_11 ⟨Nat.le_of_ble_eq_true rfl, Nat.le_of_ble_eq_true rfl⟩) hS (fun q _ h => hFc q h) hFc (fun r u t H1 locs ht hvm hw hB hz1 hk1 hS => ?_)
      obtain ⟨hP1, hD1⟩ := hB
      rw [ht] at hP1
      rcases hw with ⟨i_35, rfl, rfl⟩ | ⟨i_36, i_37, rfl, rfl⟩ | ⟨i_38, i_39, rfl, rfl⟩
      ·
        have hP := g5_same hP hk1
        generalize H1 = H at hP hS ⊢
        refine lv_if_ne (tgt := 23) hx hb dX11_sighting_14 (by decide) (fun c_40 => ?_) (fun c_40 => ?_)
        ·
          refine lv_aload_n hx hb dX11_sighting_23 rfl (lv_at hl 0 rfl) ?_
          refine va_get (D := G.1) (ci := 11) (v := .ref a1) (C := RX11) (T := TX11) (N := 17) hx hb hts inG_X11 hown hK hP 0 rfl rfl 0 (by decide) (hts _ fl_X11_12) (fun _ h9 => h9) rfl dX11_sighting_24 ?_
          refine va_get (D := G.1) (ci := 1) (v := .ref a16) (C := RX1) (T := TX1) (N := 13) hx hb hts inG_X1 hown hK hP 2 rfl rfl 8 (by decide) (hts _ fl_X11_261) (fun _ h9 => h9) rfl dX11_sighting_27 ?_
          have hPc := hP.sub (ws' := [(a16, .inr (6, [.int 10, .int 4, .ref a20, .int 0]))]) [3] rfl
          have hDc := hD.sub (ws' := [(a16, .inr (6, [.int 10, .int 4, .ref a20, .int 0]))]) [3] (by decide) rfl
          have hFc := va_free (wc := [(a16, .inr (6, [.int 10, .int 4, .ref a20, .int 0]))]) hD hS hA [3] rfl
          refine va_calli (va_runV (As := []) (rest := []) ⟨hx, hb, hml, hown, hts⟩ (kX6_isFull_3 l G a16 a20 H.size) (cwV 0 hts gV_X11_140 rfl rfl rfl hv_X6_isFull ⟨Nat.le_of_ble_eq_true rfl, Nat.le_of_ble_eq_true rfl⟩) (g5_preV hPc hK hDc hN hT hS hFc (ci := 6) (q0 := 0) rfl rfl) rfl rfl hl.1 rfl (lv_room (Nat.le_of_ble_eq_true rfl)) dX11_sighting_30 ⟨Nat.le_of_ble_eq_true rfl, Nat.le_of_ble_eq_true rfl⟩) hS (fun q _ h => hFc q h) hFc (fun r u t H1 locs ht hvm hw hB hz1 hk1 hS => ?_)
          obtain ⟨hP1, hD1⟩ := hB
          rw [ht] at hP1
          obtain ⟨rfl, rfl⟩ := hw
          obtain ⟨hP, hD⟩ := va_join (wr := [(a0, .inr (11, [.ref a1, .ref a2, .ref a3, .ref a4, .ref a5, .ref a6, .ref a7, .ref a8, .ref a9, .ref a10, .int 0, .int 0, .int (-1), .ref a11, .int 0, .ref a12, .int 0])), (a12, .inl (G.2 0, 5, .inl (fun _ => 0))), (a1, .inr (1, [.long 0, .int 1000, .int (-1), .int (-1), .int 0, .ref a13, .ref a14, .ref a15, .ref a16, .ref a17, .ref a18, .long 0, .ref a19])), (a20, .inl (G.2 0, 40, .inl (fun _ => 0)))]) (w1 := [(a16, .inr (6, [.int 10, .int 4, .ref a20, .int 0]))]) hP hD [3] [0, 1, 2, 4] rfl rfl (by decide) (by decide) hk1 hFc hP1 hD1
          generalize H1 = H at hP hS ⊢
          have hP : va_P G.1 vwCl [(a0, .inr (11, [.ref a1, .ref a2, .ref a3, .ref a4, .ref a5, .ref a6, .ref a7, .ref a8, .ref a9, .ref a10, .int 0, .int 0, .int (-1), .ref a11, .int 0, .ref a12, .int 0])), (a12, .inl (G.2 0, 5, .inl (fun _ => 0))), (a1, .inr (1, [.long 0, .int 1000, .int (-1), .int (-1), .int 0, .ref a13, .ref a14, .ref a15, .ref a16, .ref a17, .ref a18, .long 0, .ref a19])), (a20, .inl (G.2 0, 40, .inl (fun _ => 0))), (a16, .inr (6, [.int 10, .int 4, .ref a20, .int 0]))] H := hP
          have hD : va_D A [(a0, .inr (11, [.ref a1, .ref a2, .ref a3, .ref a4, .ref a5, .ref a6, .ref a7, .ref a8, .ref a9, .ref a10, .int 0, .int 0, .int (-1), .ref a11, .int 0, .ref a12, .int 0])), (a12, .inl (G.2 0, 5, .inl (fun _ => 0))), (a1, .inr (1, [.long 0, .int 1000, .int (-1), .int (-1), .int 0, .ref a13, .ref a14, .ref a15, .ref a16, .ref a17, .ref a18, .long 0, .ref a19])), (a20, .inl (G.2 0, 40, .inl (fun _ => 0))), (a16, .inr (6, [.int 10, .int 4, .ref a20, .int 0]))] := hD
          refine lv_if_ne (tgt := 53) hx hb dX11_sighting_33 (by decide) (fun c_41 => ?_) (fun c_41 => ?_)
          ·
            exact absurd c_41 (by decide)
          ·
            refine lv_iload hx hb dX11_sighting_36 (lv_at hl 4 rfl) ?_
            refine lv_iconst (v := 1) hx hb dX11_sighting_38 (by decide) ?_
            refine lv_icmp_ne (tgt := 60) hx hb dX11_sighting_39 (by decide) (fun c_42 => ?_) (fun c_42 => ?_)
            ·
              have i_42 : n3.toInt ≠ 1 := by have z := g5_ne (a := n3.toInt) (b := 1) (by rfl) (by decide) c_42; omega
              refine lv_aload_n hx hb dX11_sighting_60 rfl (lv_at hl 0 rfl) ?_
              refine va_get (D := G.1) (ci := 11) (v := .ref a1) (C := RX11) (T := TX11) (N := 17) hx hb hts inG_X11 hown hK hP 0 rfl rfl 0 (by decide) (hts _ fl_X11_12) (fun _ h9 => h9) rfl dX11_sighting_61 ?_
              refine va_get (D := G.1) (ci := 1) (v := .ref a16) (C := RX1) (T := TX1) (N := 13) hx hb hts inG_X1 hown hK hP 2 rfl rfl 8 (by decide) (hts _ fl_X11_261) (fun _ h9 => h9) rfl dX11_sighting_64 ?_
              refine lv_iconst (v := 0) hx hb dX11_sighting_67 (by decide) ?_
              have hPc := hP.sub (ws' := [(a16, .inr (6, [.int 10, .int 4, .ref a20, .int 0])), (a20, .inl (G.2 0, 40, .inl (fun _ => 0)))]) [4, 3] rfl
              have hDc := hD.sub (ws' := [(a16, .inr (6, [.int 10, .int 4, .ref a20, .int 0])), (a20, .inl (G.2 0, 40, .inl (fun _ => 0)))]) [4, 3] (by decide) rfl
              have hFc := va_free (wc := [(a16, .inr (6, [.int 10, .int 4, .ref a20, .int 0])), (a20, .inl (G.2 0, 40, .inl (fun _ => 0)))]) hD hS hA [4, 3] rfl
              refine va_calli (va_runV (As := [.int 0]) (rest := []) ⟨hx, hb, hml, hown, hts⟩ (kX6_open_3 l G a16 a20 H.size) (cwV 1 hts gV_X11_146 rfl rfl rfl hv_X6_open ⟨Nat.le_of_ble_eq_true rfl, Nat.le_of_ble_eq_true rfl⟩) (g5_preV hPc hK hDc hN hT hS hFc (ci := 6) (q0 := 0) rfl rfl) rfl rfl hl.1 rfl (lv_room (Nat.le_of_ble_eq_true rfl)) dX11_sighting_68 ⟨Nat.le_of_ble_eq_true rfl, Nat.le_of_ble_eq_true rfl⟩) hS (fun q _ h => hFc q h) hFc (fun r u t H1 locs ht hvm hw hB hz1 hk1 hS => ?_)
              obtain ⟨hP1, hD1⟩ := hB
              rw [ht] at hP1
              obtain ⟨rfl, rfl⟩ := hw
              obtain ⟨hP, hD⟩ := va_join (wr := [(a0, .inr (11, [.ref a1, .ref a2, .ref a3, .ref a4, .ref a5, .ref a6, .ref a7, .ref a8, .ref a9, .ref a10, .int 0, .int 0, .int (-1), .ref a11, .int 0, .ref a12, .int 0])), (a12, .inl (G.2 0, 5, .inl (fun _ => 0))), (a1, .inr (1, [.long 0, .int 1000, .int (-1), .int (-1), .int 0, .ref a13, .ref a14, .ref a15, .ref a16, .ref a17, .ref a18, .long 0, .ref a19]))]) (w1 := [(a20, .inl (G.2 0, 40, .inl (upd (upd (upd (upd (fun _ => 0) 0 0) 1 0) 2 0) 3 0))), (a16, .inr (6, [.int 10, .int 4, .ref a20, .int 1]))]) hP hD [4, 3] [0, 1, 2] rfl rfl (by decide) (by decide) hk1 hFc hP1 hD1
              generalize H1 = H at hP hS ⊢
              have hP : va_P G.1 vwCl [(a0, .inr (11, [.ref a1, .ref a2, .ref a3, .ref a4, .ref a5, .ref a6, .ref a7, .ref a8, .ref a9, .ref a10, .int 0, .int 0, .int (-1), .ref a11, .int 0, .ref a12, .int 0])), (a12, .inl (G.2 0, 5, .inl (fun _ => 0))), (a1, .inr (1, [.long 0, .int 1000, .int (-1), .int (-1), .int 0, .ref a13, .ref a14, .ref a15, .ref a16, .ref a17, .ref a18, .long 0, .ref a19])), (a20, .inl (G.2 0, 40, .inl (upd (upd (upd (upd (fun _ => 0) 0 0) 1 0) 2 0) 3 0))), (a16, .inr (6, [.int 10, .int 4, .ref a20, .int 1]))] H := hP
              have hD : va_D A [(a0, .inr (11, [.ref a1, .ref a2, .ref a3, .ref a4, .ref a5, .ref a6, .ref a7, .ref a8, .ref a9, .ref a10, .int 0, .int 0, .int (-1), .ref a11, .int 0, .ref a12, .int 0])), (a12, .inl (G.2 0, 5, .inl (fun _ => 0))), (a1, .inr (1, [.long 0, .int 1000, .int (-1), .int (-1), .int 0, .ref a13, .ref a14, .ref a15, .ref a16, .ref a17, .ref a18, .long 0, .ref a19])), (a20, .inl (G.2 0, 40, .inl (upd (upd (upd (upd (fun _ => 0) 0 0) 1 0) 2 0) 3 0))), (a16, .inr (6, [.int 10, .int 4, .ref a20, .int 1]))] := hD
              refine lv_istore (lv' := [(5, .int 0), (0, .ref a0), (1, .int n0), (2, .int n1), (3, .int n2), (4, .int n3)]) hx hb dX11_sighting_71 hl (by decide) rfl (fun ls hl => ?_)
              refine lv_aload_n hx hb dX11_sighting_73 rfl (lv_at hl 1 rfl) ?_
              refine va_get (D := G.1) (ci := 11) (v := .ref a1) (C := RX11) (T := TX11) (N := 17) hx hb hts inG_X11 hown hK hP 0 rfl rfl 0 (by decide) (hts _ fl_X11_12) (fun _ h9 => h9) rfl dX11_sighting_74 ?_
              refine va_get (D := G.1) (ci := 1) (v := .ref a16) (C := RX1) (T := TX1) (N := 13) hx hb hts inG_X1 hown hK hP 2 rfl rfl 8 (by decide) (hts _ fl_X11_261) (fun _ h9 => h9) rfl dX11_sighting_77 ?_
              refine lv_iload hx hb dX11_sighting_80 (lv_at hl 0 rfl) ?_
              refine lv_iload_n hx hb dX11_sighting_82 rfl (lv_at hl 2 rfl) ?_
              refine lv_iload_n hx hb dX11_sighting_83 rfl (lv_at hl 3 rfl) ?_
              refine lv_iload_n hx hb dX11_sighting_84 rfl (lv_at hl 4 rfl) ?_
              have hPc := hP.sub (ws' := [(a16, .inr (6, [.int 10, .int 4, .ref a20, .int 1])), (a20, .inl (G.2 0, 40, .inl (upd (upd (upd (upd (fun _ => 0) 0 0) 1 0) 2 0) 3 0)))]) [4, 3] rfl
              have hDc := hD.sub (ws' := [(a16, .inr (6, [.int 10, .int 4, .ref a20, .int 1])), (a20, .inl (G.2 0, 40, .inl (upd (upd (upd (upd (fun _ => 0) 0 0) 1 0) 2 0) 3 0)))]) [4, 3] (by decide) rfl
              have hFc := va_free (wc := [(a16, .inr (6, [.int 10, .int 4, .ref a20, .int 1])), (a20, .inl (G.2 0, 40, .inl (upd (upd (upd (upd (fun _ => 0) 0 0) 1 0) 2 0) 3 0)))]) hD hS hA [4, 3] rfl
              refine va_callv (va_runV (As := [.int 0, .int n0, .int n1, .int n2]) (rest := []) ⟨hx, hb, hml, hown, hts⟩ (kX6_setLook l G a16 a20 H.size n0 n1 n2 (upd (upd (upd (upd (fun _ => 0) 0 0) 1 0) 2 0) 3 0) ⟨by omega, by omega⟩ ⟨by omega, by omega⟩ ⟨by omega, by omega⟩) (cwV 4 hts gV_X11_268 rfl rfl rfl hv_X6_setLook ⟨Nat.le_of_ble_eq_true rfl, Nat.le_of_ble_eq_true rfl⟩) (g5_preV hPc hK hDc hN hT hS hFc (ci := 6) (q0 := 0) rfl rfl) rfl rfl hl.1 rfl (lv_room (Nat.le_of_ble_eq_true rfl)) dX11_sighting_85 ⟨Nat.le_of_ble_eq_true rfl, Nat.le_of_ble_eq_true rfl⟩) hS (fun q _ h => hFc q h) hFc (fun u t H1 locs ht hvm hw hB hz1 hk1 hS => ?_)
              obtain ⟨hP1, hD1⟩ := hB
              rw [ht] at hP1
              obtain rfl := hw
              obtain ⟨hP, hD⟩ := va_join (wr := [(a0, .inr (11, [.ref a1, .ref a2, .ref a3, .ref a4, .ref a5, .ref a6, .ref a7, .ref a8, .ref a9, .ref a10, .int 0, .int 0, .int (-1), .ref a11, .int 0, .ref a12, .int 0])), (a12, .inl (G.2 0, 5, .inl (fun _ => 0))), (a1, .inr (1, [.long 0, .int 1000, .int (-1), .int (-1), .int 0, .ref a13, .ref a14, .ref a15, .ref a16, .ref a17, .ref a18, .long 0, .ref a19]))]) (w1 := [(a20, .inl (G.2 0, 40, .inl (upd (upd (upd (upd (upd (upd (upd (fun _ => 0) 0 0) 1 0) 2 0) 3 0) 0 n0) 1 n1) 2 n2))), (a16, .inr (6, [.int 10, .int 4, .ref a20, .int 1]))]) hP hD [4, 3] [0, 1, 2] rfl rfl (by decide) (by decide) hk1 hFc hP1 hD1
              generalize H1 = H at hP hS ⊢
              have hP : va_P G.1 vwCl [(a0, .inr (11, [.ref a1, .ref a2, .ref a3, .ref a4, .ref a5, .ref a6, .ref a7, .ref a8, .ref a9, .ref a10, .int 0, .int 0, .int (-1), .ref a11, .int 0, .ref a12, .int 0])), (a12, .inl (G.2 0, 5, .inl (fun _ => 0))), (a1, .inr (1, [.long 0, .int 1000, .int (-1), .int (-1), .int 0, .ref a13, .ref a14, .ref a15, .ref a16, .ref a17, .ref a18, .long 0, .ref a19])), (a20, .inl (G.2 0, 40, .inl (upd (upd (upd (upd (upd (upd (upd (fun _ => 0) 0 0) 1 0) 2 0) 3 0) 0 n0) 1 n1) 2 n2))), (a16, .inr (6, [.int 10, .int 4, .ref a20, .int 1]))] H := hP
              have hD : va_D A [(a0, .inr (11, [.ref a1, .ref a2, .ref a3, .ref a4, .ref a5, .ref a6, .ref a7, .ref a8, .ref a9, .ref a10, .int 0, .int 0, .int (-1), .ref a11, .int 0, .ref a12, .int 0])), (a12, .inl (G.2 0, 5, .inl (fun _ => 0))), (a1, .inr (1, [.long 0, .int 1000, .int (-1), .int (-1), .int 0, .ref a13, .ref a14, .ref a15, .ref a16, .ref a17, .ref a18, .long 0, .ref a19])), (a20, .inl (G.2 0, 40, .inl (upd (upd (upd (upd (upd (upd (upd (fun _ => 0) 0 0) 1 0) 2 0) 3 0) 0 n0) 1 n1) 2 n2))), (a16, .inr (6, [.int 10, .int 4, .ref a20, .int 1]))] := hD
              refine lv_aload_n hx hb dX11_sighting_88 rfl (lv_at hl 1 rfl) ?_
              refine va_get (D := G.1) (ci := 11) (v := .ref a1) (C := RX11) (T := TX11) (N := 17) hx hb hts inG_X11 hown hK hP 0 rfl rfl 0 (by decide) (hts _ fl_X11_12) (fun _ h9 => h9) rfl dX11_sighting_89 ?_
              refine va_get (D := G.1) (ci := 1) (v := .ref a16) (C := RX1) (T := TX1) (N := 13) hx hb hts inG_X1 hown hK hP 2 rfl rfl 8 (by decide) (hts _ fl_X11_261) (fun _ h9 => h9) rfl dX11_sighting_92 ?_
              refine lv_iload hx hb dX11_sighting_95 (lv_at hl 0 rfl) ?_
              refine lv_iconst (v := 3) hx hb dX11_sighting_97 (by decide) ?_
              refine lv_iload hx hb dX11_sighting_98 (lv_at hl 5 rfl) ?_
              have hPc := hP.sub (ws' := [(a16, .inr (6, [.int 10, .int 4, .ref a20, .int 1])), (a20, .inl (G.2 0, 40, .inl (upd (upd (upd (upd (upd (upd (upd (fun _ => 0) 0 0) 1 0) 2 0) 3 0) 0 n0) 1 n1) 2 n2)))]) [4, 3] rfl
              have hDc := hD.sub (ws' := [(a16, .inr (6, [.int 10, .int 4, .ref a20, .int 1])), (a20, .inl (G.2 0, 40, .inl (upd (upd (upd (upd (upd (upd (upd (fun _ => 0) 0 0) 1 0) 2 0) 3 0) 0 n0) 1 n1) 2 n2)))]) [4, 3] (by decide) rfl
              have hFc := va_free (wc := [(a16, .inr (6, [.int 10, .int 4, .ref a20, .int 1])), (a20, .inl (G.2 0, 40, .inl (upd (upd (upd (upd (upd (upd (upd (fun _ => 0) 0 0) 1 0) 2 0) 3 0) 0 n0) 1 n1) 2 n2)))]) hD hS hA [4, 3] rfl
              refine va_callv (va_runV (As := [.int 0, .int 3, .int n3]) (rest := []) ⟨hx, hb, hml, hown, hts⟩ (kX6_set_41 l G a16 a20 H.size n3 (upd (upd (upd (upd (upd (upd (upd (fun _ => 0) 0 0) 1 0) 2 0) 3 0) 0 n0) 1 n1) 2 n2) ⟨by omega, by omega⟩) (cwV 3 hts gV_X11_149 rfl rfl rfl hv_X6_set ⟨Nat.le_of_ble_eq_true rfl, Nat.le_of_ble_eq_true rfl⟩) (g5_preV hPc hK hDc hN hT hS hFc (ci := 6) (q0 := 0) rfl rfl) rfl rfl hl.1 rfl (lv_room (Nat.le_of_ble_eq_true rfl)) dX11_sighting_100 ⟨Nat.le_of_ble_eq_true rfl, Nat.le_of_ble_eq_true rfl⟩) hS (fun q _ h => hFc q h) hFc (fun u t H1 locs ht hvm hw hB hz1 hk1 hS => ?_)
              obtain ⟨hP1, hD1⟩ := hB
              rw [ht] at hP1
              obtain rfl := hw
              obtain ⟨hP, hD⟩ := va_join (wr := [(a0, .inr (11, [.ref a1, .ref a2, .ref a3, .ref a4, .ref a5, .ref a6, .ref a7, .ref a8, .ref a9, .ref a10, .int 0, .int 0, .int (-1), .ref a11, .int 0, .ref a12, .int 0])), (a12, .inl (G.2 0, 5, .inl (fun _ => 0))), (a1, .inr (1, [.long 0, .int 1000, .int (-1), .int (-1), .int 0, .ref a13, .ref a14, .ref a15, .ref a16, .ref a17, .ref a18, .long 0, .ref a19]))]) (w1 := [(a20, .inl (G.2 0, 40, .inl (upd (upd (upd (upd (upd (upd (upd (upd (fun _ => 0) 0 0) 1 0) 2 0) 3 0) 0 n0) 1 n1) 2 n2) 3 n3))), (a16, .inr (6, [.int 10, .int 4, .ref a20, .int 1]))]) hP hD [4, 3] [0, 1, 2] rfl rfl (by decide) (by decide) hk1 hFc hP1 hD1
              generalize H1 = H at hP hS ⊢
              have hP : va_P G.1 vwCl [(a0, .inr (11, [.ref a1, .ref a2, .ref a3, .ref a4, .ref a5, .ref a6, .ref a7, .ref a8, .ref a9, .ref a10, .int 0, .int 0, .int (-1), .ref a11, .int 0, .ref a12, .int 0])), (a12, .inl (G.2 0, 5, .inl (fun _ => 0))), (a1, .inr (1, [.long 0, .int 1000, .int (-1), .int (-1), .int 0, .ref a13, .ref a14, .ref a15, .ref a16, .ref a17, .ref a18, .long 0, .ref a19])), (a20, .inl (G.2 0, 40, .inl (upd (upd (upd (upd (upd (upd (upd (upd (fun _ => 0) 0 0) 1 0) 2 0) 3 0) 0 n0) 1 n1) 2 n2) 3 n3))), (a16, .inr (6, [.int 10, .int 4, .ref a20, .int 1]))] H := hP
              have hD : va_D A [(a0, .inr (11, [.ref a1, .ref a2, .ref a3, .ref a4, .ref a5, .ref a6, .ref a7, .ref a8, .ref a9, .ref a10, .int 0, .int 0, .int (-1), .ref a11, .int 0, .ref a12, .int 0])), (a12, .inl (G.2 0, 5, .inl (fun _ => 0))), (a1, .inr (1, [.long 0, .int 1000, .int (-1), .int (-1), .int 0, .ref a13, .ref a14, .ref a15, .ref a16, .ref a17, .ref a18, .long 0, .ref a19])), (a20, .inl (G.2 0, 40, .inl (upd (upd (upd (upd (upd (upd (upd (upd (fun _ => 0) 0 0) 1 0) 2 0) 3 0) 0 n0) 1 n1) 2 n2) 3 n3))), (a16, .inr (6, [.int 10, .int 4, .ref a20, .int 1]))] := hD
              refine lv_aload_n hx hb dX11_sighting_103 rfl (lv_at hl 1 rfl) ?_
              refine lv_aload_n hx hb dX11_sighting_104 rfl (lv_at hl 1 rfl) ?_
              refine va_get (D := G.1) (ci := 11) (v := .ref a1) (C := RX11) (T := TX11) (N := 17) hx hb hts inG_X11 hown hK hP 0 rfl rfl 0 (by decide) (hts _ fl_X11_12) (fun _ h9 => h9) rfl dX11_sighting_105 ?_
              refine va_get (D := G.1) (ci := 1) (v := .ref a16) (C := RX1) (T := TX1) (N := 13) hx hb hts inG_X1 hown hK hP 2 rfl rfl 8 (by decide) (hts _ fl_X11_261) (fun _ h9 => h9) rfl dX11_sighting_108 ?_
              refine va_get (D := G.1) (ci := 6) (v := .int 1) (C := RX6) (T := TX6) (N := 4) hx hb hts inG_X6 hown hK hP 4 rfl rfl 3 (by decide) (hts _ fl_X11_238) (fun _ h9 => h9) rfl dX11_sighting_111 ?_
              have hPc := hP.sub (ws' := [(a0, .inr (11, [.ref a1, .ref a2, .ref a3, .ref a4, .ref a5, .ref a6, .ref a7, .ref a8, .ref a9, .ref a10, .int 0, .int 0, .int (-1), .ref a11, .int 0, .ref a12, .int 0]))]) [0] rfl
              have hDc := hD.sub (ws' := [(a0, .inr (11, [.ref a1, .ref a2, .ref a3, .ref a4, .ref a5, .ref a6, .ref a7, .ref a8, .ref a9, .ref a10, .int 0, .int 0, .int (-1), .ref a11, .int 0, .ref a12, .int 0]))]) [0] (by decide) rfl
              have hFc := va_free (wc := [(a0, .inr (11, [.ref a1, .ref a2, .ref a3, .ref a4, .ref a5, .ref a6, .ref a7, .ref a8, .ref a9, .ref a10, .int 0, .int 0, .int (-1), .ref a11, .int 0, .ref a12, .int 0]))]) hD hS hA [0] rfl
              refine va_calli (va_runV (As := [.int 1]) (rest := []) ⟨hx, hb, hml, hown, hts⟩ (kX11_done_5 l G a0 a1 a2 a3 a4 a5 a6 a7 a8 a9 a10 a11 a12 H.size) (cwV 1 hts gV_X11_121 rfl rfl rfl hv_X11_done ⟨Nat.le_of_ble_eq_true rfl, Nat.le_of_ble_eq_true rfl⟩) (g5_preV hPc hK hDc hN hT hS hFc (ci := 11) (q0 := 0) rfl rfl) rfl rfl hl.1 rfl (lv_room (Nat.le_of_ble_eq_true rfl)) dX11_sighting_114 ⟨Nat.le_of_ble_eq_true rfl, Nat.le_of_ble_eq_true rfl⟩) hS (fun q _ h => hFc q h) hFc (fun r u t H1 locs ht hvm hw hB hz1 hk1 hS => ?_)
              obtain ⟨hP1, hD1⟩ := hB
              rw [ht] at hP1
              obtain ⟨rfl, rfl⟩ := hw
              obtain ⟨hP, hD⟩ := va_join (wr := [(a12, .inl (G.2 0, 5, .inl (fun _ => 0))), (a1, .inr (1, [.long 0, .int 1000, .int (-1), .int (-1), .int 0, .ref a13, .ref a14, .ref a15, .ref a16, .ref a17, .ref a18, .long 0, .ref a19])), (a20, .inl (G.2 0, 40, .inl (upd (upd (upd (upd (upd (upd (upd (upd (fun _ => 0) 0 0) 1 0) 2 0) 3 0) 0 n0) 1 n1) 2 n2) 3 n3))), (a16, .inr (6, [.int 10, .int 4, .ref a20, .int 1]))]) (w1 := [(a0, .inr (11, [.ref a1, .ref a2, .ref a3, .ref a4, .ref a5, .ref a6, .ref a7, .ref a8, .ref a9, .ref a10, .int 0, .int 0, .int (-1), .ref a11, .int 0, .ref a12, .int 0]))]) hP hD [0] [1, 2, 3, 4] rfl rfl (by decide) (by decide) hk1 hFc hP1 hD1
              generalize H1 = H at hP hS ⊢
              have hP : va_P G.1 vwCl [(a12, .inl (G.2 0, 5, .inl (fun _ => 0))), (a1, .inr (1, [.long 0, .int 1000, .int (-1), .int (-1), .int 0, .ref a13, .ref a14, .ref a15, .ref a16, .ref a17, .ref a18, .long 0, .ref a19])), (a20, .inl (G.2 0, 40, .inl (upd (upd (upd (upd (upd (upd (upd (upd (fun _ => 0) 0 0) 1 0) 2 0) 3 0) 0 n0) 1 n1) 2 n2) 3 n3))), (a16, .inr (6, [.int 10, .int 4, .ref a20, .int 1])), (a0, .inr (11, [.ref a1, .ref a2, .ref a3, .ref a4, .ref a5, .ref a6, .ref a7, .ref a8, .ref a9, .ref a10, .int 0, .int 0, .int (-1), .ref a11, .int 0, .ref a12, .int 0]))] H := hP
              have hD : va_D A [(a12, .inl (G.2 0, 5, .inl (fun _ => 0))), (a1, .inr (1, [.long 0, .int 1000, .int (-1), .int (-1), .int 0, .ref a13, .ref a14, .ref a15, .ref a16, .ref a17, .ref a18, .long 0, .ref a19])), (a20, .inl (G.2 0, 40, .inl (upd (upd (upd (upd (upd (upd (upd (upd (fun _ => 0) 0 0) 1 0) 2 0) 3 0) 0 n0) 1 n1) 2 n2) 3 n3))), (a16, .inr (6, [.int 10, .int 4, .ref a20, .int 1])), (a0, .inr (11, [.ref a1, .ref a2, .ref a3, .ref a4, .ref a5, .ref a6, .ref a7, .ref a8, .ref a9, .ref a10, .int 0, .int 0, .int (-1), .ref a11, .int 0, .ref a12, .int 0]))] := hD
              have hP := hP.sub (ws' := []) [] rfl
              have hD := hD.sub (ws' := []) [] (by decide) rfl
              exact W.iret (v := 1) hx hb hr (fun t ht hW => ⟨⟨1, [], rfl, Or.inr (Or.inr (Or.inr (Or.inr (Or.inr (Or.inr (Or.inl (⟨i_22, i_23, i_24, i_25, i_26, i_27, i_35, i_42, rfl, rfl⟩))))))), by rw [ht]; exact hP, hD⟩, hS.F ht⟩) hS.2.2 dX11_sighting_117
            ·
              have i_42 : n3.toInt = 1 := by have z := g5_neN (a := n3.toInt) (b := 1) (by rfl) (by decide) c_42; omega
              omega
        ·
          exact absurd c_40 (by decide)
      ·
        have hP := g5_same hP hk1
        generalize H1 = H at hP hS ⊢
        refine lv_if_ne (tgt := 23) hx hb dX11_sighting_14 (by decide) (fun c_43 => ?_) (fun c_43 => ?_)
        ·
          exact absurd c_43 (by decide)
        ·
          refine lv_aload_n hx hb dX11_sighting_17 rfl (lv_at hl 0 rfl) ?_
          refine lv_iconst (v := (-1)) hx hb dX11_sighting_18 (by decide) ?_
          have hPc := hP.sub (ws' := [(a0, .inr (11, [.ref a1, .ref a2, .ref a3, .ref a4, .ref a5, .ref a6, .ref a7, .ref a8, .ref a9, .ref a10, .int 0, .int 0, .int (-1), .ref a11, .int 0, .ref a12, .int 0])), (a12, .inl (G.2 0, 5, .inl (fun _ => 0)))]) [0, 1] rfl
          have hDc := hD.sub (ws' := [(a0, .inr (11, [.ref a1, .ref a2, .ref a3, .ref a4, .ref a5, .ref a6, .ref a7, .ref a8, .ref a9, .ref a10, .int 0, .int 0, .int (-1), .ref a11, .int 0, .ref a12, .int 0])), (a12, .inl (G.2 0, 5, .inl (fun _ => 0)))]) [0, 1] (by decide) rfl
          have hFc := va_free (wc := [(a0, .inr (11, [.ref a1, .ref a2, .ref a3, .ref a4, .ref a5, .ref a6, .ref a7, .ref a8, .ref a9, .ref a10, .int 0, .int 0, .int (-1), .ref a11, .int 0, .ref a12, .int 0])), (a12, .inl (G.2 0, 5, .inl (fun _ => 0)))]) hD hS hA [0, 1] rfl
          refine va_calli (va_runV (As := [.int (-1)]) (rest := []) ⟨hx, hb, hml, hown, hts⟩ (kX11_refuse l G a0 a1 a2 a3 a4 a5 a6 a7 a8 a9 a10 a11 a12 H.size) (cwV 1 hts gV_X11_104 rfl rfl rfl hv_X11_refuse ⟨Nat.le_of_ble_eq_true rfl, Nat.le_of_ble_eq_true rfl⟩) (g5_preV hPc hK hDc hN hT hS hFc (ci := 11) (q0 := 0) rfl rfl) rfl rfl hl.1 rfl (lv_room (Nat.le_of_ble_eq_true rfl)) dX11_sighting_19 ⟨Nat.le_of_ble_eq_true rfl, Nat.le_of_ble_eq_true rfl⟩) hS (fun q _ h => hFc q h) hFc (fun r u t H1 locs ht hvm hw hB hz1 hk1 hS => ?_)
          obtain ⟨hP1, hD1⟩ := hB
          rw [ht] at hP1
          obtain ⟨rfl, rfl⟩ := hw
          obtain ⟨hP, hD⟩ := va_join (wr := [(a1, .inr (1, [.long 0, .int 1000, .int (-1), .int (-1), .int 0, .ref a13, .ref a14, .ref a15, .ref a16, .ref a17, .ref a18, .long 0, .ref a19])), (a16, .inr (6, [.int 10, .int 4, .ref a20, .int 0])), (a20, .inl (G.2 0, 40, .inl (fun _ => 0)))]) (w1 := [(a0, .inr (11, [.ref a1, .ref a2, .ref a3, .ref a4, .ref a5, .ref a6, .ref a7, .ref a8, .ref a9, .ref a10, .int 0, .int 0, .int (-1), .ref a11, .int 0, .ref a12, .int (-1)])), (a12, .inl (G.2 0, 5, .inl (upd (fun _ => 0) 0 1)))]) hP hD [0, 1] [2, 3, 4] rfl rfl (by decide) (by decide) hk1 hFc hP1 hD1
          generalize H1 = H at hP hS ⊢
          have hP : va_P G.1 vwCl [(a1, .inr (1, [.long 0, .int 1000, .int (-1), .int (-1), .int 0, .ref a13, .ref a14, .ref a15, .ref a16, .ref a17, .ref a18, .long 0, .ref a19])), (a16, .inr (6, [.int 10, .int 4, .ref a20, .int 0])), (a20, .inl (G.2 0, 40, .inl (fun _ => 0))), (a0, .inr (11, [.ref a1, .ref a2, .ref a3, .ref a4, .ref a5, .ref a6, .ref a7, .ref a8, .ref a9, .ref a10, .int 0, .int 0, .int (-1), .ref a11, .int 0, .ref a12, .int (-1)])), (a12, .inl (G.2 0, 5, .inl (upd (fun _ => 0) 0 1)))] H := hP
          have hD : va_D A [(a1, .inr (1, [.long 0, .int 1000, .int (-1), .int (-1), .int 0, .ref a13, .ref a14, .ref a15, .ref a16, .ref a17, .ref a18, .long 0, .ref a19])), (a16, .inr (6, [.int 10, .int 4, .ref a20, .int 0])), (a20, .inl (G.2 0, 40, .inl (fun _ => 0))), (a0, .inr (11, [.ref a1, .ref a2, .ref a3, .ref a4, .ref a5, .ref a6, .ref a7, .ref a8, .ref a9, .ref a10, .int 0, .int 0, .int (-1), .ref a11, .int 0, .ref a12, .int (-1)])), (a12, .inl (G.2 0, 5, .inl (upd (fun _ => 0) 0 1)))] := hD
          have hP := hP.sub (ws' := []) [] rfl
          have hD := hD.sub (ws' := []) [] (by decide) rfl
          exact W.iret (v := (-1)) hx hb hr (fun t ht hW => ⟨⟨(-1), [], rfl, Or.inr (Or.inr (Or.inr (Or.inr (Or.inr (Or.inr (Or.inr (Or.inl (⟨i_22, i_23, i_24, i_25, i_26, i_27, i_36, i_37, rfl, rfl⟩)))))))), by rw [ht]; exact hP, hD⟩, hS.F ht⟩) hS.2.2 dX11_sighting_22
      ·
        have hP := g5_same hP hk1
        generalize H1 = H at hP hS ⊢
        refine lv_if_ne (tgt := 23) hx hb dX11_sighting_14 (by decide) (fun c_44 => ?_) (fun c_44 => ?_)
        ·
          refine lv_aload_n hx hb dX11_sighting_23 rfl (lv_at hl 0 rfl) ?_
          refine va_get (D := G.1) (ci := 11) (v := .ref a1) (C := RX11) (T := TX11) (N := 17) hx hb hts inG_X11 hown hK hP 0 rfl rfl 0 (by decide) (hts _ fl_X11_12) (fun _ h9 => h9) rfl dX11_sighting_24 ?_
          refine va_get (D := G.1) (ci := 1) (v := .ref a16) (C := RX1) (T := TX1) (N := 13) hx hb hts inG_X1 hown hK hP 2 rfl rfl 8 (by decide) (hts _ fl_X11_261) (fun _ h9 => h9) rfl dX11_sighting_27 ?_
          have hPc := hP.sub (ws' := [(a16, .inr (6, [.int 10, .int 4, .ref a20, .int 0]))]) [3] rfl
          have hDc := hD.sub (ws' := [(a16, .inr (6, [.int 10, .int 4, .ref a20, .int 0]))]) [3] (by decide) rfl
          have hFc := va_free (wc := [(a16, .inr (6, [.int 10, .int 4, .ref a20, .int 0]))]) hD hS hA [3] rfl
          refine va_calli (va_runV (As := []) (rest := []) ⟨hx, hb, hml, hown, hts⟩ (kX6_isFull_3 l G a16 a20 H.size) (cwV 0 hts gV_X11_140 rfl rfl rfl hv_X6_isFull ⟨Nat.le_of_ble_eq_true rfl, Nat.le_of_ble_eq_true rfl⟩) (g5_preV hPc hK hDc hN hT hS hFc (ci := 6) (q0 := 0) rfl rfl) rfl rfl hl.1 rfl (lv_room (Nat.le_of_ble_eq_true rfl)) dX11_sighting_30 ⟨Nat.le_of_ble_eq_true rfl, Nat.le_of_ble_eq_true rfl⟩) hS (fun q _ h => hFc q h) hFc (fun r u t H1 locs ht hvm hw hB hz1 hk1 hS => ?_)
          obtain ⟨hP1, hD1⟩ := hB
          rw [ht] at hP1
          obtain ⟨rfl, rfl⟩ := hw
          obtain ⟨hP, hD⟩ := va_join (wr := [(a0, .inr (11, [.ref a1, .ref a2, .ref a3, .ref a4, .ref a5, .ref a6, .ref a7, .ref a8, .ref a9, .ref a10, .int 0, .int 0, .int (-1), .ref a11, .int 0, .ref a12, .int 0])), (a12, .inl (G.2 0, 5, .inl (fun _ => 0))), (a1, .inr (1, [.long 0, .int 1000, .int (-1), .int (-1), .int 0, .ref a13, .ref a14, .ref a15, .ref a16, .ref a17, .ref a18, .long 0, .ref a19])), (a20, .inl (G.2 0, 40, .inl (fun _ => 0)))]) (w1 := [(a16, .inr (6, [.int 10, .int 4, .ref a20, .int 0]))]) hP hD [3] [0, 1, 2, 4] rfl rfl (by decide) (by decide) hk1 hFc hP1 hD1
          generalize H1 = H at hP hS ⊢
          have hP : va_P G.1 vwCl [(a0, .inr (11, [.ref a1, .ref a2, .ref a3, .ref a4, .ref a5, .ref a6, .ref a7, .ref a8, .ref a9, .ref a10, .int 0, .int 0, .int (-1), .ref a11, .int 0, .ref a12, .int 0])), (a12, .inl (G.2 0, 5, .inl (fun _ => 0))), (a1, .inr (1, [.long 0, .int 1000, .int (-1), .int (-1), .int 0, .ref a13, .ref a14, .ref a15, .ref a16, .ref a17, .ref a18, .long 0, .ref a19])), (a20, .inl (G.2 0, 40, .inl (fun _ => 0))), (a16, .inr (6, [.int 10, .int 4, .ref a20, .int 0]))] H := hP
          have hD : va_D A [(a0, .inr (11, [.ref a1, .ref a2, .ref a3, .ref a4, .ref a5, .ref a6, .ref a7, .ref a8, .ref a9, .ref a10, .int 0, .int 0, .int (-1), .ref a11, .int 0, .ref a12, .int 0])), (a12, .inl (G.2 0, 5, .inl (fun _ => 0))), (a1, .inr (1, [.long 0, .int 1000, .int (-1), .int (-1), .int 0, .ref a13, .ref a14, .ref a15, .ref a16, .ref a17, .ref a18, .long 0, .ref a19])), (a20, .inl (G.2 0, 40, .inl (fun _ => 0))), (a16, .inr (6, [.int 10, .int 4, .ref a20, .int 0]))] := hD
          refine lv_if_ne (tgt := 53) hx hb dX11_sighting_33 (by decide) (fun c_45 => ?_) (fun c_45 => ?_)
          ·
            exact absurd c_45 (by decide)
          ·
            refine lv_iload hx hb dX11_sighting_36 (lv_at hl 4 rfl) ?_
            refine lv_iconst (v := 1) hx hb dX11_sighting_38 (by decide) ?_
            refine lv_icmp_ne (tgt := 60) hx hb dX11_sighting_39 (by decide) (fun c_46 => ?_) (fun c_46 => ?_)
            ·
              have i_46 : n3.toInt ≠ 1 := by have z := g5_ne (a := n3.toInt) (b := 1) (by rfl) (by decide) c_46; omega
              omega
            ·
              have i_46 : n3.toInt = 1 := by have z := g5_neN (a := n3.toInt) (b := 1) (by rfl) (by decide) c_46; omega
              refine lv_aload_n hx hb dX11_sighting_42 rfl (lv_at hl 0 rfl) ?_
              refine va_get (D := G.1) (ci := 11) (v := .ref a1) (C := RX11) (T := TX11) (N := 17) hx hb hts inG_X11 hown hK hP 0 rfl rfl 0 (by decide) (hts _ fl_X11_12) (fun _ h9 => h9) rfl dX11_sighting_43 ?_
              have hPc := hP.sub (ws' := [(a1, .inr (1, [.long 0, .int 1000, .int (-1), .int (-1), .int 0, .ref a13, .ref a14, .ref a15, .ref a16, .ref a17, .ref a18, .long 0, .ref a19])), (a16, .inr (6, [.int 10, .int 4, .ref a20, .int 0]))]) [2, 4] rfl
              have hDc := hD.sub (ws' := [(a1, .inr (1, [.long 0, .int 1000, .int (-1), .int (-1), .int 0, .ref a13, .ref a14, .ref a15, .ref a16, .ref a17, .ref a18, .long 0, .ref a19])), (a16, .inr (6, [.int 10, .int 4, .ref a20, .int 0]))]) [2, 4] (by decide) rfl
              have hFc := va_free (wc := [(a1, .inr (1, [.long 0, .int 1000, .int (-1), .int (-1), .int 0, .ref a13, .ref a14, .ref a15, .ref a16, .ref a17, .ref a18, .long 0, .ref a19])), (a16, .inr (6, [.int 10, .int 4, .ref a20, .int 0]))]) hD hS hA [2, 4] rfl
              refine va_calli (va_runV (As := []) (rest := []) ⟨hx, hb, hml, hown, hts⟩ (kX1_countSeen l G a1 a13 a14 a15 a16 a17 a18 a19 a20 H.size) (cwV 0 hts gV_X11_264 rfl rfl rfl hv_X1_countSeen ⟨Nat.le_of_ble_eq_true rfl, Nat.le_of_ble_eq_true rfl⟩) (g5_preV hPc hK hDc hN hT hS hFc (ci := 1) (q0 := 0) rfl rfl) rfl rfl hl.1 rfl (lv_room (Nat.le_of_ble_eq_true rfl)) dX11_sighting_46 ⟨Nat.le_of_ble_eq_true rfl, Nat.le_of_ble_eq_true rfl⟩) hS (fun q _ h => hFc q h) hFc (fun r u t H1 locs ht hvm hw hB hz1 hk1 hS => ?_)
              obtain ⟨hP1, hD1⟩ := hB
              rw [ht] at hP1
              obtain ⟨rfl, rfl⟩ := hw
              obtain ⟨hP, hD⟩ := va_join (wr := [(a0, .inr (11, [.ref a1, .ref a2, .ref a3, .ref a4, .ref a5, .ref a6, .ref a7, .ref a8, .ref a9, .ref a10, .int 0, .int 0, .int (-1), .ref a11, .int 0, .ref a12, .int 0])), (a12, .inl (G.2 0, 5, .inl (fun _ => 0))), (a20, .inl (G.2 0, 40, .inl (fun _ => 0)))]) (w1 := [(a1, .inr (1, [.long 0, .int 1000, .int (-1), .int (-1), .int 0, .ref a13, .ref a14, .ref a15, .ref a16, .ref a17, .ref a18, .long 0, .ref a19])), (a16, .inr (6, [.int 10, .int 4, .ref a20, .int 0]))]) hP hD [2, 4] [0, 1, 3] rfl rfl (by decide) (by decide) hk1 hFc hP1 hD1
              generalize H1 = H at hP hS ⊢
              have hP : va_P G.1 vwCl [(a0, .inr (11, [.ref a1, .ref a2, .ref a3, .ref a4, .ref a5, .ref a6, .ref a7, .ref a8, .ref a9, .ref a10, .int 0, .int 0, .int (-1), .ref a11, .int 0, .ref a12, .int 0])), (a12, .inl (G.2 0, 5, .inl (fun _ => 0))), (a20, .inl (G.2 0, 40, .inl (fun _ => 0))), (a1, .inr (1, [.long 0, .int 1000, .int (-1), .int (-1), .int 0, .ref a13, .ref a14, .ref a15, .ref a16, .ref a17, .ref a18, .long 0, .ref a19])), (a16, .inr (6, [.int 10, .int 4, .ref a20, .int 0]))] H := hP
              have hD : va_D A [(a0, .inr (11, [.ref a1, .ref a2, .ref a3, .ref a4, .ref a5, .ref a6, .ref a7, .ref a8, .ref a9, .ref a10, .int 0, .int 0, .int (-1), .ref a11, .int 0, .ref a12, .int 0])), (a12, .inl (G.2 0, 5, .inl (fun _ => 0))), (a20, .inl (G.2 0, 40, .inl (fun _ => 0))), (a1, .inr (1, [.long 0, .int 1000, .int (-1), .int (-1), .int 0, .ref a13, .ref a14, .ref a15, .ref a16, .ref a17, .ref a18, .long 0, .ref a19])), (a16, .inr (6, [.int 10, .int 4, .ref a20, .int 0]))] := hD
              refine lv_iconst (v := 5) hx hb dX11_sighting_49 (by decide) ?_
              refine lv_icmp_lt (tgt := 60) hx hb dX11_sighting_50 (by decide) (fun c_47 => ?_) (fun c_47 => ?_)
              ·
                refine lv_aload_n hx hb dX11_sighting_60 rfl (lv_at hl 0 rfl) ?_
                refine va_get (D := G.1) (ci := 11) (v := .ref a1) (C := RX11) (T := TX11) (N := 17) hx hb hts inG_X11 hown hK hP 0 rfl rfl 0 (by decide) (hts _ fl_X11_12) (fun _ h9 => h9) rfl dX11_sighting_61 ?_
                refine va_get (D := G.1) (ci := 1) (v := .ref a16) (C := RX1) (T := TX1) (N := 13) hx hb hts inG_X1 hown hK hP 3 rfl rfl 8 (by decide) (hts _ fl_X11_261) (fun _ h9 => h9) rfl dX11_sighting_64 ?_
                refine lv_iconst (v := 0) hx hb dX11_sighting_67 (by decide) ?_
                have hPc := hP.sub (ws' := [(a16, .inr (6, [.int 10, .int 4, .ref a20, .int 0])), (a20, .inl (G.2 0, 40, .inl (fun _ => 0)))]) [4, 2] rfl
                have hDc := hD.sub (ws' := [(a16, .inr (6, [.int 10, .int 4, .ref a20, .int 0])), (a20, .inl (G.2 0, 40, .inl (fun _ => 0)))]) [4, 2] (by decide) rfl
                have hFc := va_free (wc := [(a16, .inr (6, [.int 10, .int 4, .ref a20, .int 0])), (a20, .inl (G.2 0, 40, .inl (fun _ => 0)))]) hD hS hA [4, 2] rfl
                refine va_calli (va_runV (As := [.int 0]) (rest := []) ⟨hx, hb, hml, hown, hts⟩ (kX6_open_3 l G a16 a20 H.size) (cwV 1 hts gV_X11_146 rfl rfl rfl hv_X6_open ⟨Nat.le_of_ble_eq_true rfl, Nat.le_of_ble_eq_true rfl⟩) (g5_preV hPc hK hDc hN hT hS hFc (ci := 6) (q0 := 0) rfl rfl) rfl rfl hl.1 rfl (lv_room (Nat.le_of_ble_eq_true rfl)) dX11_sighting_68 ⟨Nat.le_of_ble_eq_true rfl, Nat.le_of_ble_eq_true rfl⟩) hS (fun q _ h => hFc q h) hFc (fun r u t H1 locs ht hvm hw hB hz1 hk1 hS => ?_)
                obtain ⟨hP1, hD1⟩ := hB
                rw [ht] at hP1
                obtain ⟨rfl, rfl⟩ := hw
                obtain ⟨hP, hD⟩ := va_join (wr := [(a0, .inr (11, [.ref a1, .ref a2, .ref a3, .ref a4, .ref a5, .ref a6, .ref a7, .ref a8, .ref a9, .ref a10, .int 0, .int 0, .int (-1), .ref a11, .int 0, .ref a12, .int 0])), (a12, .inl (G.2 0, 5, .inl (fun _ => 0))), (a1, .inr (1, [.long 0, .int 1000, .int (-1), .int (-1), .int 0, .ref a13, .ref a14, .ref a15, .ref a16, .ref a17, .ref a18, .long 0, .ref a19]))]) (w1 := [(a20, .inl (G.2 0, 40, .inl (upd (upd (upd (upd (fun _ => 0) 0 0) 1 0) 2 0) 3 0))), (a16, .inr (6, [.int 10, .int 4, .ref a20, .int 1]))]) hP hD [4, 2] [0, 1, 3] rfl rfl (by decide) (by decide) hk1 hFc hP1 hD1
                generalize H1 = H at hP hS ⊢
                have hP : va_P G.1 vwCl [(a0, .inr (11, [.ref a1, .ref a2, .ref a3, .ref a4, .ref a5, .ref a6, .ref a7, .ref a8, .ref a9, .ref a10, .int 0, .int 0, .int (-1), .ref a11, .int 0, .ref a12, .int 0])), (a12, .inl (G.2 0, 5, .inl (fun _ => 0))), (a1, .inr (1, [.long 0, .int 1000, .int (-1), .int (-1), .int 0, .ref a13, .ref a14, .ref a15, .ref a16, .ref a17, .ref a18, .long 0, .ref a19])), (a20, .inl (G.2 0, 40, .inl (upd (upd (upd (upd (fun _ => 0) 0 0) 1 0) 2 0) 3 0))), (a16, .inr (6, [.int 10, .int 4, .ref a20, .int 1]))] H := hP
                have hD : va_D A [(a0, .inr (11, [.ref a1, .ref a2, .ref a3, .ref a4, .ref a5, .ref a6, .ref a7, .ref a8, .ref a9, .ref a10, .int 0, .int 0, .int (-1), .ref a11, .int 0, .ref a12, .int 0])), (a12, .inl (G.2 0, 5, .inl (fun _ => 0))), (a1, .inr (1, [.long 0, .int 1000, .int (-1), .int (-1), .int 0, .ref a13, .ref a14, .ref a15, .ref a16, .ref a17, .ref a18, .long 0, .ref a19])), (a20, .inl (G.2 0, 40, .inl (upd (upd (upd (upd (fun _ => 0) 0 0) 1 0) 2 0) 3 0))), (a16, .inr (6, [.int 10, .int 4, .ref a20, .int 1]))] := hD
                refine lv_istore (lv' := [(5, .int 0), (0, .ref a0), (1, .int n0), (2, .int n1), (3, .int n2), (4, .int n3)]) hx hb dX11_sighting_71 hl (by decide) rfl (fun ls hl => ?_)
                refine lv_aload_n hx hb dX11_sighting_73 rfl (lv_at hl 1 rfl) ?_
                refine va_get (D := G.1) (ci := 11) (v := .ref a1) (C := RX11) (T := TX11) (N := 17) hx hb hts inG_X11 hown hK hP 0 rfl rfl 0 (by decide) (hts _ fl_X11_12) (fun _ h9 => h9) rfl dX11_sighting_74 ?_
                refine va_get (D := G.1) (ci := 1) (v := .ref a16) (C := RX1) (T := TX1) (N := 13) hx hb hts inG_X1 hown hK hP 2 rfl rfl 8 (by decide) (hts _ fl_X11_261) (fun _ h9 => h9) rfl dX11_sighting_77 ?_
                refine lv_iload hx hb dX11_sighting_80 (lv_at hl 0 rfl) ?_
                refine lv_iload_n hx hb dX11_sighting_82 rfl (lv_at hl 2 rfl) ?_
                refine lv_iload_n hx hb dX11_sighting_83 rfl (lv_at hl 3 rfl) ?_
                refine lv_iload_n hx hb dX11_sighting_84 rfl (lv_at hl 4 rfl) ?_
                have hPc := hP.sub (ws' := [(a16, .inr (6, [.int 10, .int 4, .ref a20, .int 1])), (a20, .inl (G.2 0, 40, .inl (upd (upd (upd (upd (fun _ => 0) 0 0) 1 0) 2 0) 3 0)))]) [4, 3] rfl
                have hDc := hD.sub (ws' := [(a16, .inr (6, [.int 10, .int 4, .ref a20, .int 1])), (a20, .inl (G.2 0, 40, .inl (upd (upd (upd (upd (fun _ => 0) 0 0) 1 0) 2 0) 3 0)))]) [4, 3] (by decide) rfl
                have hFc := va_free (wc := [(a16, .inr (6, [.int 10, .int 4, .ref a20, .int 1])), (a20, .inl (G.2 0, 40, .inl (upd (upd (upd (upd (fun _ => 0) 0 0) 1 0) 2 0) 3 0)))]) hD hS hA [4, 3] rfl
                refine va_callv (va_runV (As := [.int 0, .int n0, .int n1, .int n2]) (rest := []) ⟨hx, hb, hml, hown, hts⟩ (kX6_setLook l G a16 a20 H.size n0 n1 n2 (upd (upd (upd (upd (fun _ => 0) 0 0) 1 0) 2 0) 3 0) ⟨by omega, by omega⟩ ⟨by omega, by omega⟩ ⟨by omega, by omega⟩) (cwV 4 hts gV_X11_268 rfl rfl rfl hv_X6_setLook ⟨Nat.le_of_ble_eq_true rfl, Nat.le_of_ble_eq_true rfl⟩) (g5_preV hPc hK hDc hN hT hS hFc (ci := 6) (q0 := 0) rfl rfl) rfl rfl hl.1 rfl (lv_room (Nat.le_of_ble_eq_true rfl)) dX11_sighting_85 ⟨Nat.le_of_ble_eq_true rfl, Nat.le_of_ble_eq_true rfl⟩) hS (fun q _ h => hFc q h) hFc (fun u t H1 locs ht hvm hw hB hz1 hk1 hS => ?_)
                obtain ⟨hP1, hD1⟩ := hB
                rw [ht] at hP1
                obtain rfl := hw
                obtain ⟨hP, hD⟩ := va_join (wr := [(a0, .inr (11, [.ref a1, .ref a2, .ref a3, .ref a4, .ref a5, .ref a6, .ref a7, .ref a8, .ref a9, .ref a10, .int 0, .int 0, .int (-1), .ref a11, .int 0, .ref a12, .int 0])), (a12, .inl (G.2 0, 5, .inl (fun _ => 0))), (a1, .inr (1, [.long 0, .int 1000, .int (-1), .int (-1), .int 0, .ref a13, .ref a14, .ref a15, .ref a16, .ref a17, .ref a18, .long 0, .ref a19]))]) (w1 := [(a20, .inl (G.2 0, 40, .inl (upd (upd (upd (upd (upd (upd (upd (fun _ => 0) 0 0) 1 0) 2 0) 3 0) 0 n0) 1 n1) 2 n2))), (a16, .inr (6, [.int 10, .int 4, .ref a20, .int 1]))]) hP hD [4, 3] [0, 1, 2] rfl rfl (by decide) (by decide) hk1 hFc hP1 hD1
                generalize H1 = H at hP hS ⊢
                have hP : va_P G.1 vwCl [(a0, .inr (11, [.ref a1, .ref a2, .ref a3, .ref a4, .ref a5, .ref a6, .ref a7, .ref a8, .ref a9, .ref a10, .int 0, .int 0, .int (-1), .ref a11, .int 0, .ref a12, .int 0])), (a12, .inl (G.2 0, 5, .inl (fun _ => 0))), (a1, .inr (1, [.long 0, .int 1000, .int (-1), .int (-1), .int 0, .ref a13, .ref a14, .ref a15, .ref a16, .ref a17, .ref a18, .long 0, .ref a19])), (a20, .inl (G.2 0, 40, .inl (upd (upd (upd (upd (upd (upd (upd (fun _ => 0) 0 0) 1 0) 2 0) 3 0) 0 n0) 1 n1) 2 n2))), (a16, .inr (6, [.int 10, .int 4, .ref a20, .int 1]))] H := hP
                have hD : va_D A [(a0, .inr (11, [.ref a1, .ref a2, .ref a3, .ref a4, .ref a5, .ref a6, .ref a7, .ref a8, .ref a9, .ref a10, .int 0, .int 0, .int (-1), .ref a11, .int 0, .ref a12, .int 0])), (a12, .inl (G.2 0, 5, .inl (fun _ => 0))), (a1, .inr (1, [.long 0, .int 1000, .int (-1), .int (-1), .int 0, .ref a13, .ref a14, .ref a15, .ref a16, .ref a17, .ref a18, .long 0, .ref a19])), (a20, .inl (G.2 0, 40, .inl (upd (upd (upd (upd (upd (upd (upd (fun _ => 0) 0 0) 1 0) 2 0) 3 0) 0 n0) 1 n1) 2 n2))), (a16, .inr (6, [.int 10, .int 4, .ref a20, .int 1]))] := hD
                refine lv_aload_n hx hb dX11_sighting_88 rfl (lv_at hl 1 rfl) ?_
                refine va_get (D := G.1) (ci := 11) (v := .ref a1) (C := RX11) (T := TX11) (N := 17) hx hb hts inG_X11 hown hK hP 0 rfl rfl 0 (by decide) (hts _ fl_X11_12) (fun _ h9 => h9) rfl dX11_sighting_89 ?_
                refine va_get (D := G.1) (ci := 1) (v := .ref a16) (C := RX1) (T := TX1) (N := 13) hx hb hts inG_X1 hown hK hP 2 rfl rfl 8 (by decide) (hts _ fl_X11_261) (fun _ h9 => h9) rfl dX11_sighting_92 ?_
                refine lv_iload hx hb dX11_sighting_95 (lv_at hl 0 rfl) ?_
                refine lv_iconst (v := 3) hx hb dX11_sighting_97 (by decide) ?_
                refine lv_iload hx hb dX11_sighting_98 (lv_at hl 5 rfl) ?_
                have hPc := hP.sub (ws' := [(a16, .inr (6, [.int 10, .int 4, .ref a20, .int 1])), (a20, .inl (G.2 0, 40, .inl (upd (upd (upd (upd (upd (upd (upd (fun _ => 0) 0 0) 1 0) 2 0) 3 0) 0 n0) 1 n1) 2 n2)))]) [4, 3] rfl
                have hDc := hD.sub (ws' := [(a16, .inr (6, [.int 10, .int 4, .ref a20, .int 1])), (a20, .inl (G.2 0, 40, .inl (upd (upd (upd (upd (upd (upd (upd (fun _ => 0) 0 0) 1 0) 2 0) 3 0) 0 n0) 1 n1) 2 n2)))]) [4, 3] (by decide) rfl
                have hFc := va_free (wc := [(a16, .inr (6, [.int 10, .int 4, .ref a20, .int 1])), (a20, .inl (G.2 0, 40, .inl (upd (upd (upd (upd (upd (upd (upd (fun _ => 0) 0 0) 1 0) 2 0) 3 0) 0 n0) 1 n1) 2 n2)))]) hD hS hA [4, 3] rfl
                refine va_callv (va_runV (As := [.int 0, .int 3, .int n3]) (rest := []) ⟨hx, hb, hml, hown, hts⟩ (kX6_set_42 l G a16 a20 H.size n3 (upd (upd (upd (upd (upd (upd (upd (fun _ => 0) 0 0) 1 0) 2 0) 3 0) 0 n0) 1 n1) 2 n2) ⟨by omega, by omega⟩) (cwV 3 hts gV_X11_149 rfl rfl rfl hv_X6_set ⟨Nat.le_of_ble_eq_true rfl, Nat.le_of_ble_eq_true rfl⟩) (g5_preV hPc hK hDc hN hT hS hFc (ci := 6) (q0 := 0) rfl rfl) rfl rfl hl.1 rfl (lv_room (Nat.le_of_ble_eq_true rfl)) dX11_sighting_100 ⟨Nat.le_of_ble_eq_true rfl, Nat.le_of_ble_eq_true rfl⟩) hS (fun q _ h => hFc q h) hFc (fun u t H1 locs ht hvm hw hB hz1 hk1 hS => ?_)
                obtain ⟨hP1, hD1⟩ := hB
                rw [ht] at hP1
                obtain rfl := hw
                obtain ⟨hP, hD⟩ := va_join (wr := [(a0, .inr (11, [.ref a1, .ref a2, .ref a3, .ref a4, .ref a5, .ref a6, .ref a7, .ref a8, .ref a9, .ref a10, .int 0, .int 0, .int (-1), .ref a11, .int 0, .ref a12, .int 0])), (a12, .inl (G.2 0, 5, .inl (fun _ => 0))), (a1, .inr (1, [.long 0, .int 1000, .int (-1), .int (-1), .int 0, .ref a13, .ref a14, .ref a15, .ref a16, .ref a17, .ref a18, .long 0, .ref a19]))]) (w1 := [(a20, .inl (G.2 0, 40, .inl (upd (upd (upd (upd (upd (upd (upd (upd (fun _ => 0) 0 0) 1 0) 2 0) 3 0) 0 n0) 1 n1) 2 n2) 3 n3))), (a16, .inr (6, [.int 10, .int 4, .ref a20, .int 1]))]) hP hD [4, 3] [0, 1, 2] rfl rfl (by decide) (by decide) hk1 hFc hP1 hD1
                generalize H1 = H at hP hS ⊢
                have hP : va_P G.1 vwCl [(a0, .inr (11, [.ref a1, .ref a2, .ref a3, .ref a4, .ref a5, .ref a6, .ref a7, .ref a8, .ref a9, .ref a10, .int 0, .int 0, .int (-1), .ref a11, .int 0, .ref a12, .int 0])), (a12, .inl (G.2 0, 5, .inl (fun _ => 0))), (a1, .inr (1, [.long 0, .int 1000, .int (-1), .int (-1), .int 0, .ref a13, .ref a14, .ref a15, .ref a16, .ref a17, .ref a18, .long 0, .ref a19])), (a20, .inl (G.2 0, 40, .inl (upd (upd (upd (upd (upd (upd (upd (upd (fun _ => 0) 0 0) 1 0) 2 0) 3 0) 0 n0) 1 n1) 2 n2) 3 n3))), (a16, .inr (6, [.int 10, .int 4, .ref a20, .int 1]))] H := hP
                have hD : va_D A [(a0, .inr (11, [.ref a1, .ref a2, .ref a3, .ref a4, .ref a5, .ref a6, .ref a7, .ref a8, .ref a9, .ref a10, .int 0, .int 0, .int (-1), .ref a11, .int 0, .ref a12, .int 0])), (a12, .inl (G.2 0, 5, .inl (fun _ => 0))), (a1, .inr (1, [.long 0, .int 1000, .int (-1), .int (-1), .int 0, .ref a13, .ref a14, .ref a15, .ref a16, .ref a17, .ref a18, .long 0, .ref a19])), (a20, .inl (G.2 0, 40, .inl (upd (upd (upd (upd (upd (upd (upd (upd (fun _ => 0) 0 0) 1 0) 2 0) 3 0) 0 n0) 1 n1) 2 n2) 3 n3))), (a16, .inr (6, [.int 10, .int 4, .ref a20, .int 1]))] := hD
                refine lv_aload_n hx hb dX11_sighting_103 rfl (lv_at hl 1 rfl) ?_
                refine lv_aload_n hx hb dX11_sighting_104 rfl (lv_at hl 1 rfl) ?_
                refine va_get (D := G.1) (ci := 11) (v := .ref a1) (C := RX11) (T := TX11) (N := 17) hx hb hts inG_X11 hown hK hP 0 rfl rfl 0 (by decide) (hts _ fl_X11_12) (fun _ h9 => h9) rfl dX11_sighting_105 ?_
                refine va_get (D := G.1) (ci := 1) (v := .ref a16) (C := RX1) (T := TX1) (N := 13) hx hb hts inG_X1 hown hK hP 2 rfl rfl 8 (by decide) (hts _ fl_X11_261) (fun _ h9 => h9) rfl dX11_sighting_108 ?_
                refine va_get (D := G.1) (ci := 6) (v := .int 1) (C := RX6) (T := TX6) (N := 4) hx hb hts inG_X6 hown hK hP 4 rfl rfl 3 (by decide) (hts _ fl_X11_238) (fun _ h9 => h9) rfl dX11_sighting_111 ?_
                have hPc := hP.sub (ws' := [(a0, .inr (11, [.ref a1, .ref a2, .ref a3, .ref a4, .ref a5, .ref a6, .ref a7, .ref a8, .ref a9, .ref a10, .int 0, .int 0, .int (-1), .ref a11, .int 0, .ref a12, .int 0]))]) [0] rfl
                have hDc := hD.sub (ws' := [(a0, .inr (11, [.ref a1, .ref a2, .ref a3, .ref a4, .ref a5, .ref a6, .ref a7, .ref a8, .ref a9, .ref a10, .int 0, .int 0, .int (-1), .ref a11, .int 0, .ref a12, .int 0]))]) [0] (by decide) rfl
                have hFc := va_free (wc := [(a0, .inr (11, [.ref a1, .ref a2, .ref a3, .ref a4, .ref a5, .ref a6, .ref a7, .ref a8, .ref a9, .ref a10, .int 0, .int 0, .int (-1), .ref a11, .int 0, .ref a12, .int 0]))]) hD hS hA [0] rfl
                refine va_calli (va_runV (As := [.int 1]) (rest := []) ⟨hx, hb, hml, hown, hts⟩ (kX11_done_5 l G a0 a1 a2 a3 a4 a5 a6 a7 a8 a9 a10 a11 a12 H.size) (cwV 1 hts gV_X11_121 rfl rfl rfl hv_X11_done ⟨Nat.le_of_ble_eq_true rfl, Nat.le_of_ble_eq_true rfl⟩) (g5_preV hPc hK hDc hN hT hS hFc (ci := 11) (q0 := 0) rfl rfl) rfl rfl hl.1 rfl (lv_room (Nat.le_of_ble_eq_true rfl)) dX11_sighting_114 ⟨Nat.le_of_ble_eq_true rfl, Nat.le_of_ble_eq_true rfl⟩) hS (fun q _ h => hFc q h) hFc (fun r u t H1 locs ht hvm hw hB hz1 hk1 hS => ?_)
                obtain ⟨hP1, hD1⟩ := hB
                rw [ht] at hP1
                obtain ⟨rfl, rfl⟩ := hw
                obtain ⟨hP, hD⟩ := va_join (wr := [(a12, .inl (G.2 0, 5, .inl (fun _ => 0))), (a1, .inr (1, [.long 0, .int 1000, .int (-1), .int (-1), .int 0, .ref a13, .ref a14, .ref a15, .ref a16, .ref a17, .ref a18, .long 0, .ref a19])), (a20, .inl (G.2 0, 40, .inl (upd (upd (upd (upd (upd (upd (upd (upd (fun _ => 0) 0 0) 1 0) 2 0) 3 0) 0 n0) 1 n1) 2 n2) 3 n3))), (a16, .inr (6, [.int 10, .int 4, .ref a20, .int 1]))]) (w1 := [(a0, .inr (11, [.ref a1, .ref a2, .ref a3, .ref a4, .ref a5, .ref a6, .ref a7, .ref a8, .ref a9, .ref a10, .int 0, .int 0, .int (-1), .ref a11, .int 0, .ref a12, .int 0]))]) hP hD [0] [1, 2, 3, 4] rfl rfl (by decide) (by decide) hk1 hFc hP1 hD1
                generalize H1 = H at hP hS ⊢
                have hP : va_P G.1 vwCl [(a12, .inl (G.2 0, 5, .inl (fun _ => 0))), (a1, .inr (1, [.long 0, .int 1000, .int (-1), .int (-1), .int 0, .ref a13, .ref a14, .ref a15, .ref a16, .ref a17, .ref a18, .long 0, .ref a19])), (a20, .inl (G.2 0, 40, .inl (upd (upd (upd (upd (upd (upd (upd (upd (fun _ => 0) 0 0) 1 0) 2 0) 3 0) 0 n0) 1 n1) 2 n2) 3 n3))), (a16, .inr (6, [.int 10, .int 4, .ref a20, .int 1])), (a0, .inr (11, [.ref a1, .ref a2, .ref a3, .ref a4, .ref a5, .ref a6, .ref a7, .ref a8, .ref a9, .ref a10, .int 0, .int 0, .int (-1), .ref a11, .int 0, .ref a12, .int 0]))] H := hP
                have hD : va_D A [(a12, .inl (G.2 0, 5, .inl (fun _ => 0))), (a1, .inr (1, [.long 0, .int 1000, .int (-1), .int (-1), .int 0, .ref a13, .ref a14, .ref a15, .ref a16, .ref a17, .ref a18, .long 0, .ref a19])), (a20, .inl (G.2 0, 40, .inl (upd (upd (upd (upd (upd (upd (upd (upd (fun _ => 0) 0 0) 1 0) 2 0) 3 0) 0 n0) 1 n1) 2 n2) 3 n3))), (a16, .inr (6, [.int 10, .int 4, .ref a20, .int 1])), (a0, .inr (11, [.ref a1, .ref a2, .ref a3, .ref a4, .ref a5, .ref a6, .ref a7, .ref a8, .ref a9, .ref a10, .int 0, .int 0, .int (-1), .ref a11, .int 0, .ref a12, .int 0]))] := hD
                have hP := hP.sub (ws' := []) [] rfl
                have hD := hD.sub (ws' := []) [] (by decide) rfl
                exact W.iret (v := 1) hx hb hr (fun t ht hW => ⟨⟨1, [], rfl, Or.inr (Or.inr (Or.inr (Or.inr (Or.inr (Or.inr (Or.inr (Or.inr (⟨i_22, i_23, i_24, i_25, i_26, i_27, i_38, i_39, i_46, rfl, rfl⟩)))))))), by rw [ht]; exact hP, hD⟩, hS.F ht⟩) hS.2.2 dX11_sighting_117
              ·
                exact absurd c_47 (by decide)
        ·
          exact absurd c_44 (by decide)
set_option maxHeartbeats 4000000 in
set_option maxRecDepth 100000 in
theorem kX6_has_6 (l : Launch) (G : g5_G) (a0 a1 : Nat) (sz : Nat) (n0 : Int32) : Met l yX6_has (wsG yX6_has cX6_has 2 (some .boolean)) ({ frames := 0, cells := 0, slots := 0, locals := 0 }) (va_Pc [.ref a0, .int n0] (g5_P G [(a0, .inr (6, [.int 10, .int 4, .ref a1, .int 0]))] sz)) (va_Qi (fun (r : Int32) (u : va_W) => ((n0.toInt < 0) ∧ (r = 0) ∧ (u = [(a0, .inr (6, [.int 10, .int 4, .ref a1, .int 0]))])) ∨ ((n0.toInt ≥ 0) ∧ (n0.toInt ≥ 0) ∧ (r = 0) ∧ (u = [(a0, .inr (6, [.int 10, .int 4, .ref a1, .int 0]))]))) (g5_B G (va_A [(a0, .inr (6, [.int 10, .int 4, .ref a1, .int 0]))] sz)) (va_A [(a0, .inr (6, [.int 10, .int 4, .ref a1, .int 0]))] sz)) 0 0 (va_A [(a0, .inr (6, [.int 10, .int 4, .ref a1, .int 0]))] sz) := by
  refine Met.ofW (cc := cX6_has) (maxL := 2) (ret := (some .boolean)) (by decide) rfl ?_
  intro p e s m args below meth c s₁ B hml hv
  obtain ⟨rfl, hsz, hP, hK, hD0, hN, hT⟩ := hv
  have hx := B.exec
  have hb := B.bytes
  have hr := B.returns
  have hts : ∀ w ∈ tblG, w.before _ s = true := fun w h => atoms_spec (ws := (wsG yX6_has cX6_has 2 (some .boolean))) B.pre w (List.mem_cons_of_mem _ h)
  have hown : s.vm.findClass RX6 = some m.cls := findClass_of_methodNamed B.named
  have hlocks := B.notSynchronized
  subst hsz
  have hD := hD0.self (sz := s.heap.size)
  generalize hAe : va_A [(a0, .inr (6, [.int 10, .int 4, .ref a1, .int 0]))] s.heap.size = A at hD hT ⊢
  have hA : ∀ q : Nat, s.heap.size ≤ q → A q := fun q h => by rw [← hAe]; exact Or.inr h
  have hS : va_S A s.heap s.heap [] := va_S.rf
  have hP : va_P G.1 vwCl [(a0, .inr (6, [.int 10, .int 4, .ref a1, .int 0]))] s.heap := hP
  have hl := lv_entry ([.ref a0, .int n0]) (n := 2) (Nat.le_of_ble_eq_true rfl)
  rw [lg_entry_eq]
  generalize (lg_sl ([.ref a0, .int n0]) ++ List.replicate (2 - (lg_sl ([.ref a0, .int n0])).length) Slot.unset).toArray = ls at hl ⊢
  have hl : lv_has ls 2 [(0, .ref a0), (1, .int n0)] := hl
  refine lv_iload_n hx hb dX6_has_0 rfl (lv_at hl 1 rfl) ?_
  refine lv_if_lt (tgt := 16) hx hb dX6_has_1 (by decide) (fun c_1 => ?_) (fun c_1 => ?_)
  ·
    have i_1 : n0.toInt < 0 := by have z := g5_lt (a := n0.toInt) (b := 0) (by rfl) (by decide) c_1; omega
    refine lv_iconst (v := 0) hx hb dX6_has_16 (by decide) ?_
    exact W.zret (v := 0) hx hb hr rfl (fun t ht hW => ⟨⟨0, [(a0, .inr (6, [.int 10, .int 4, .ref a1, .int 0]))], rfl, Or.inl (⟨i_1, rfl, rfl⟩), by rw [ht]; exact hP, hD⟩, hS.F ht⟩) hS.2.2 dX6_has_17
  ·
    have i_1 : n0.toInt ≥ 0 := by have z := g5_ltN (a := n0.toInt) (b := 0) (by rfl) (by decide) c_1; omega
    refine lv_iload_n hx hb dX6_has_4 rfl (lv_at hl 1 rfl) ?_
    refine lv_aload_n hx hb dX6_has_5 rfl (lv_at hl 0 rfl) ?_
    refine va_get (D := G.1) (ci := 6) (v := .int 0) (C := RX6) (T := TX6) (N := 4) hx hb hts inG_X6 hown hK hP 0 rfl rfl 3 (by decide) (hts _ fl_X6_9) (fun _ h9 => h9) rfl dX6_has_6 ?_
    refine lv_icmp_ge (tgt := 16) hx hb dX6_has_9 (by decide) (fun c_2 => ?_) (fun c_2 => ?_)
    ·
      have i_2 : n0.toInt ≥ 0 := by have z := g5_ge (a := n0.toInt) (b := 0) (by rfl) (by decide) c_2; omega
      refine lv_iconst (v := 0) hx hb dX6_has_16 (by decide) ?_
      exact W.zret (v := 0) hx hb hr rfl (fun t ht hW => ⟨⟨0, [(a0, .inr (6, [.int 10, .int 4, .ref a1, .int 0]))], rfl, Or.inr (⟨i_1, i_2, rfl, rfl⟩), by rw [ht]; exact hP, hD⟩, hS.F ht⟩) hS.2.2 dX6_has_17
    ·
      have i_2 : n0.toInt < 0 := by have z := g5_geN (a := n0.toInt) (b := 0) (by rfl) (by decide) c_2; omega
      omega
theorem dX11_drop_0 : decode cX11_drop 0 = .ok (.aload_n 0, 1) := by decide +kernel
theorem dX11_drop_1 : decode cX11_drop 1 = .ok (.getfield 12, 3) := by decide +kernel
theorem dX11_drop_4 : decode cX11_drop 4 = .ok (.getfield 261, 3) := by decide +kernel
theorem dX11_drop_7 : decode cX11_drop 7 = .ok (.iload_n 1, 1) := by decide +kernel
theorem dX11_drop_8 : decode cX11_drop 8 = .ok (.invokevirtual 160, 3) := by decide +kernel
theorem dX11_drop_11 : decode cX11_drop 11 = .ok (.ifCond .ne 10, 3) := by decide +kernel
theorem dX11_drop_14 : decode cX11_drop 14 = .ok (.aload_n 0, 1) := by decide +kernel
theorem dX11_drop_15 : decode cX11_drop 15 = .ok (.bipush (-2), 2) := by decide +kernel
theorem dX11_drop_17 : decode cX11_drop 17 = .ok (.invokevirtual 104, 3) := by decide +kernel
theorem dX11_drop_20 : decode cX11_drop 20 = .ok (.ireturn, 1) := by decide +kernel
theorem dX11_drop_21 : decode cX11_drop 21 = .ok (.aload_n 0, 1) := by decide +kernel
theorem dX11_drop_22 : decode cX11_drop 22 = .ok (.getfield 12, 3) := by decide +kernel
theorem dX11_drop_25 : decode cX11_drop 25 = .ok (.getfield 261, 3) := by decide +kernel
theorem dX11_drop_28 : decode cX11_drop 28 = .ok (.iload_n 1, 1) := by decide +kernel
theorem dX11_drop_29 : decode cX11_drop 29 = .ok (.invokevirtual 271, 3) := by decide +kernel
theorem dX11_drop_32 : decode cX11_drop 32 = .ok (.aload_n 0, 1) := by decide +kernel
theorem dX11_drop_33 : decode cX11_drop 33 = .ok (.aload_n 0, 1) := by decide +kernel
theorem dX11_drop_34 : decode cX11_drop 34 = .ok (.getfield 12, 3) := by decide +kernel
theorem dX11_drop_37 : decode cX11_drop 37 = .ok (.getfield 261, 3) := by decide +kernel
theorem dX11_drop_40 : decode cX11_drop 40 = .ok (.getfield 238, 3) := by decide +kernel
theorem dX11_drop_43 : decode cX11_drop 43 = .ok (.invokevirtual 121, 3) := by decide +kernel
theorem dX11_drop_46 : decode cX11_drop 46 = .ok (.ireturn, 1) := by decide +kernel
set_option maxHeartbeats 4000000 in
set_option maxRecDepth 100000 in
theorem kX11_drop (l : Launch) (G : g5_G) (a0 a1 a2 a3 a4 a5 a6 a7 a8 a9 a10 a11 a12 a13 a14 a15 a16 a17 a18 a19 a20 : Nat) (sz : Nat) (n0 : Int32) : Met l yX11_drop (wsG yX11_drop cX11_drop 2 (some .int)) ({ frames := 1, cells := 0, slots := 0, locals := 22 }) (va_Pc [.ref a0, .int n0] (g5_P G [(a0, .inr (11, [.ref a1, .ref a2, .ref a3, .ref a4, .ref a5, .ref a6, .ref a7, .ref a8, .ref a9, .ref a10, .int 0, .int 0, .int (-1), .ref a11, .int 0, .ref a12, .int 0])), (a1, .inr (1, [.long 0, .int 1000, .int (-1), .int (-1), .int 0, .ref a13, .ref a14, .ref a15, .ref a16, .ref a17, .ref a18, .long 0, .ref a19])), (a16, .inr (6, [.int 10, .int 4, .ref a20, .int 0])), (a12, .inl (G.2 0, 5, .inl (fun _ => 0)))] sz)) (va_Qi (fun (r : Int32) (u : va_W) => ((n0.toInt < 0) ∧ (r = (-2)) ∧ (u = [])) ∨ ((n0.toInt ≥ 0) ∧ (n0.toInt ≥ 0) ∧ (r = (-2)) ∧ (u = []))) (g5_B G (va_A [(a0, .inr (11, [.ref a1, .ref a2, .ref a3, .ref a4, .ref a5, .ref a6, .ref a7, .ref a8, .ref a9, .ref a10, .int 0, .int 0, .int (-1), .ref a11, .int 0, .ref a12, .int 0])), (a1, .inr (1, [.long 0, .int 1000, .int (-1), .int (-1), .int 0, .ref a13, .ref a14, .ref a15, .ref a16, .ref a17, .ref a18, .long 0, .ref a19])), (a16, .inr (6, [.int 10, .int 4, .ref a20, .int 0])), (a12, .inl (G.2 0, 5, .inl (fun _ => 0)))] sz)) (va_A [(a0, .inr (11, [.ref a1, .ref a2, .ref a3, .ref a4, .ref a5, .ref a6, .ref a7, .ref a8, .ref a9, .ref a10, .int 0, .int 0, .int (-1), .ref a11, .int 0, .ref a12, .int 0])), (a1, .inr (1, [.long 0, .int 1000, .int (-1), .int (-1), .int 0, .ref a13, .ref a14, .ref a15, .ref a16, .ref a17, .ref a18, .long 0, .ref a19])), (a16, .inr (6, [.int 10, .int 4, .ref a20, .int 0])), (a12, .inl (G.2 0, 5, .inl (fun _ => 0)))] sz)) 0 0 (va_A [(a0, .inr (11, [.ref a1, .ref a2, .ref a3, .ref a4, .ref a5, .ref a6, .ref a7, .ref a8, .ref a9, .ref a10, .int 0, .int 0, .int (-1), .ref a11, .int 0, .ref a12, .int 0])), (a1, .inr (1, [.long 0, .int 1000, .int (-1), .int (-1), .int 0, .ref a13, .ref a14, .ref a15, .ref a16, .ref a17, .ref a18, .long 0, .ref a19])), (a16, .inr (6, [.int 10, .int 4, .ref a20, .int 0])), (a12, .inl (G.2 0, 5, .inl (fun _ => 0)))] sz) := by
  refine Met.ofW (cc := cX11_drop) (maxL := 2) (ret := (some .int)) (by decide) rfl ?_
  intro p e s m args below meth c s₁ B hml hv
  obtain ⟨rfl, hsz, hP, hK, hD0, hN, hT⟩ := hv
  have hx := B.exec
  have hb := B.bytes
  have hr := B.returns
  have hts : ∀ w ∈ tblG, w.before _ s = true := fun w h => atoms_spec (ws := (wsG yX11_drop cX11_drop 2 (some .int))) B.pre w (List.mem_cons_of_mem _ h)
  have hown : s.vm.findClass RX11 = some m.cls := findClass_of_methodNamed B.named
  have hlocks := B.notSynchronized
  subst hsz
  have hD := hD0.self (sz := s.heap.size)
  generalize hAe : va_A [(a0, .inr (11, [.ref a1, .ref a2, .ref a3, .ref a4, .ref a5, .ref a6, .ref a7, .ref a8, .ref a9, .ref a10, .int 0, .int 0, .int (-1), .ref a11, .int 0, .ref a12, .int 0])), (a1, .inr (1, [.long 0, .int 1000, .int (-1), .int (-1), .int 0, .ref a13, .ref a14, .ref a15, .ref a16, .ref a17, .ref a18, .long 0, .ref a19])), (a16, .inr (6, [.int 10, .int 4, .ref a20, .int 0])), (a12, .inl (G.2 0, 5, .inl (fun _ => 0)))] s.heap.size = A at hD hT ⊢
  have hA : ∀ q : Nat, s.heap.size ≤ q → A q := fun q h => by rw [← hAe]; exact Or.inr h
  have hS : va_S A s.heap s.heap [] := va_S.rf
  have hP : va_P G.1 vwCl [(a0, .inr (11, [.ref a1, .ref a2, .ref a3, .ref a4, .ref a5, .ref a6, .ref a7, .ref a8, .ref a9, .ref a10, .int 0, .int 0, .int (-1), .ref a11, .int 0, .ref a12, .int 0])), (a1, .inr (1, [.long 0, .int 1000, .int (-1), .int (-1), .int 0, .ref a13, .ref a14, .ref a15, .ref a16, .ref a17, .ref a18, .long 0, .ref a19])), (a16, .inr (6, [.int 10, .int 4, .ref a20, .int 0])), (a12, .inl (G.2 0, 5, .inl (fun _ => 0)))] s.heap := hP
  have hl := lv_entry ([.ref a0, .int n0]) (n := 2) (Nat.le_of_ble_eq_true rfl)
  rw [lg_entry_eq]
  generalize (lg_sl ([.ref a0, .int n0]) ++ List.replicate (2 - (lg_sl ([.ref a0, .int n0])).length) Slot.unset).toArray = ls at hl ⊢
  have hl : lv_has ls 2 [(0, .ref a0), (1, .int n0)] := hl
  refine lv_aload_n hx hb dX11_drop_0 rfl (lv_at hl 0 rfl) ?_
  refine va_get (D := G.1) (ci := 11) (v := .ref a1) (C := RX11) (T := TX11) (N := 17) hx hb hts inG_X11 hown hK hP 0 rfl rfl 0 (by decide) (hts _ fl_X11_12) (fun _ h9 => h9) rfl dX11_drop_1 ?_
  refine va_get (D := G.1) (ci := 1) (v := .ref a16) (C := RX1) (T := TX1) (N := 13) hx hb hts inG_X1 hown hK hP 1 rfl rfl 8 (by decide) (hts _ fl_X11_261) (fun _ h9 => h9) rfl dX11_drop_4 ?_
  refine lv_iload_n hx hb dX11_drop_7 rfl (lv_at hl 1 rfl) ?_
  have hPc := hP.sub (ws' := [(a16, .inr (6, [.int 10, .int 4, .ref a20, .int 0]))]) [2] rfl
  have hDc := hD.sub (ws' := [(a16, .inr (6, [.int 10, .int 4, .ref a20, .int 0]))]) [2] (by decide) rfl
  have hFc := va_free (wc := [(a16, .inr (6, [.int 10, .int 4, .ref a20, .int 0]))]) hD hS hA [2] rfl
  refine va_calli (va_runV (As := [.int n0]) (rest := []) ⟨hx, hb, hml, hown, hts⟩ (kX6_has_6 l G a16 a20 s.heap.size n0) (cwV 1 hts gV_X11_160 rfl rfl rfl hv_X6_has ⟨Nat.le_of_ble_eq_true rfl, Nat.le_of_ble_eq_true rfl⟩) (g5_preV hPc hK hDc hN hT hS hFc (ci := 6) (q0 := 0) rfl rfl) rfl rfl hl.1 rfl (lv_room (Nat.le_of_ble_eq_true rfl)) dX11_drop_8 ⟨Nat.le_of_ble_eq_true rfl, Nat.le_of_ble_eq_true rfl⟩) hS (fun q _ h => hFc q h) hFc (fun r u t H1 locs ht hvm hw hB hz1 hk1 hS => ?_)
  obtain ⟨hP1, hD1⟩ := hB
  rw [ht] at hP1
  rcases hw with ⟨i_1, rfl, rfl⟩ | ⟨i_2, i_3, rfl, rfl⟩
  ·
    obtain ⟨hP, hD⟩ := va_join (wr := [(a0, .inr (11, [.ref a1, .ref a2, .ref a3, .ref a4, .ref a5, .ref a6, .ref a7, .ref a8, .ref a9, .ref a10, .int 0, .int 0, .int (-1), .ref a11, .int 0, .ref a12, .int 0])), (a1, .inr (1, [.long 0, .int 1000, .int (-1), .int (-1), .int 0, .ref a13, .ref a14, .ref a15, .ref a16, .ref a17, .ref a18, .long 0, .ref a19])), (a12, .inl (G.2 0, 5, .inl (fun _ => 0)))]) (w1 := [(a16, .inr (6, [.int 10, .int 4, .ref a20, .int 0]))]) hP hD [2] [0, 1, 3] rfl rfl (by decide) (by decide) hk1 hFc hP1 hD1
    generalize H1 = H at hP hS ⊢
    have hP : va_P G.1 vwCl [(a0, .inr (11, [.ref a1, .ref a2, .ref a3, .ref a4, .ref a5, .ref a6, .ref a7, .ref a8, .ref a9, .ref a10, .int 0, .int 0, .int (-1), .ref a11, .int 0, .ref a12, .int 0])), (a1, .inr (1, [.long 0, .int 1000, .int (-1), .int (-1), .int 0, .ref a13, .ref a14, .ref a15, .ref a16, .ref a17, .ref a18, .long 0, .ref a19])), (a12, .inl (G.2 0, 5, .inl (fun _ => 0))), (a16, .inr (6, [.int 10, .int 4, .ref a20, .int 0]))] H := hP
    have hD : va_D A [(a0, .inr (11, [.ref a1, .ref a2, .ref a3, .ref a4, .ref a5, .ref a6, .ref a7, .ref a8, .ref a9, .ref a10, .int 0, .int 0, .int (-1), .ref a11, .int 0, .ref a12, .int 0])), (a1, .inr (1, [.long 0, .int 1000, .int (-1), .int (-1), .int 0, .ref a13, .ref a14, .ref a15, .ref a16, .ref a17, .ref a18, .long 0, .ref a19])), (a12, .inl (G.2 0, 5, .inl (fun _ => 0))), (a16, .inr (6, [.int 10, .int 4, .ref a20, .int 0]))] := hD
    refine lv_if_ne (tgt := 21) hx hb dX11_drop_11 (by decide) (fun c_4 => ?_) (fun c_4 => ?_)
    ·
      exact absurd c_4 (by decide)
    ·
      refine lv_aload_n hx hb dX11_drop_14 rfl (lv_at hl 0 rfl) ?_
      refine lv_bipush (v := (-2)) hx hb dX11_drop_15 (by decide) ?_
      have hPc := hP.sub (ws' := [(a0, .inr (11, [.ref a1, .ref a2, .ref a3, .ref a4, .ref a5, .ref a6, .ref a7, .ref a8, .ref a9, .ref a10, .int 0, .int 0, .int (-1), .ref a11, .int 0, .ref a12, .int 0])), (a12, .inl (G.2 0, 5, .inl (fun _ => 0)))]) [0, 2] rfl
      have hDc := hD.sub (ws' := [(a0, .inr (11, [.ref a1, .ref a2, .ref a3, .ref a4, .ref a5, .ref a6, .ref a7, .ref a8, .ref a9, .ref a10, .int 0, .int 0, .int (-1), .ref a11, .int 0, .ref a12, .int 0])), (a12, .inl (G.2 0, 5, .inl (fun _ => 0)))]) [0, 2] (by decide) rfl
      have hFc := va_free (wc := [(a0, .inr (11, [.ref a1, .ref a2, .ref a3, .ref a4, .ref a5, .ref a6, .ref a7, .ref a8, .ref a9, .ref a10, .int 0, .int 0, .int (-1), .ref a11, .int 0, .ref a12, .int 0])), (a12, .inl (G.2 0, 5, .inl (fun _ => 0)))]) hD hS hA [0, 2] rfl
      refine va_calli (va_runV (As := [.int (-2)]) (rest := []) ⟨hx, hb, hml, hown, hts⟩ (kX11_refuse_2 l G a0 a1 a2 a3 a4 a5 a6 a7 a8 a9 a10 a11 a12 H.size) (cwV 1 hts gV_X11_104 rfl rfl rfl hv_X11_refuse ⟨Nat.le_of_ble_eq_true rfl, Nat.le_of_ble_eq_true rfl⟩) (g5_preV hPc hK hDc hN hT hS hFc (ci := 11) (q0 := 0) rfl rfl) rfl rfl hl.1 rfl (lv_room (Nat.le_of_ble_eq_true rfl)) dX11_drop_17 ⟨Nat.le_of_ble_eq_true rfl, Nat.le_of_ble_eq_true rfl⟩) hS (fun q _ h => hFc q h) hFc (fun r u t H1 locs ht hvm hw hB hz1 hk1 hS => ?_)
      obtain ⟨hP1, hD1⟩ := hB
      rw [ht] at hP1
      obtain ⟨rfl, rfl⟩ := hw
      obtain ⟨hP, hD⟩ := va_join (wr := [(a1, .inr (1, [.long 0, .int 1000, .int (-1), .int (-1), .int 0, .ref a13, .ref a14, .ref a15, .ref a16, .ref a17, .ref a18, .long 0, .ref a19])), (a16, .inr (6, [.int 10, .int 4, .ref a20, .int 0]))]) (w1 := [(a0, .inr (11, [.ref a1, .ref a2, .ref a3, .ref a4, .ref a5, .ref a6, .ref a7, .ref a8, .ref a9, .ref a10, .int 0, .int 0, .int (-1), .ref a11, .int 0, .ref a12, .int (-2)])), (a12, .inl (G.2 0, 5, .inl (upd (fun _ => 0) 1 1)))]) hP hD [0, 2] [1, 3] rfl rfl (by decide) (by decide) hk1 hFc hP1 hD1
      generalize H1 = H at hP hS ⊢
      have hP : va_P G.1 vwCl [(a1, .inr (1, [.long 0, .int 1000, .int (-1), .int (-1), .int 0, .ref a13, .ref a14, .ref a15, .ref a16, .ref a17, .ref a18, .long 0, .ref a19])), (a16, .inr (6, [.int 10, .int 4, .ref a20, .int 0])), (a0, .inr (11, [.ref a1, .ref a2, .ref a3, .ref a4, .ref a5, .ref a6, .ref a7, .ref a8, .ref a9, .ref a10, .int 0, .int 0, .int (-1), .ref a11, .int 0, .ref a12, .int (-2)])), (a12, .inl (G.2 0, 5, .inl (upd (fun _ => 0) 1 1)))] H := hP
      have hD : va_D A [(a1, .inr (1, [.long 0, .int 1000, .int (-1), .int (-1), .int 0, .ref a13, .ref a14, .ref a15, .ref a16, .ref a17, .ref a18, .long 0, .ref a19])), (a16, .inr (6, [.int 10, .int 4, .ref a20, .int 0])), (a0, .inr (11, [.ref a1, .ref a2, .ref a3, .ref a4, .ref a5, .ref a6, .ref a7, .ref a8, .ref a9, .ref a10, .int 0, .int 0, .int (-1), .ref a11, .int 0, .ref a12, .int (-2)])), (a12, .inl (G.2 0, 5, .inl (upd (fun _ => 0) 1 1)))] := hD
      have hP := hP.sub (ws' := []) [] rfl
      have hD := hD.sub (ws' := []) [] (by decide) rfl
      exact W.iret (v := (-2)) hx hb hr (fun t ht hW => ⟨⟨(-2), [], rfl, Or.inl (⟨i_1, rfl, rfl⟩), by rw [ht]; exact hP, hD⟩, hS.F ht⟩) hS.2.2 dX11_drop_20
  ·
    obtain ⟨hP, hD⟩ := va_join (wr := [(a0, .inr (11, [.ref a1, .ref a2, .ref a3, .ref a4, .ref a5, .ref a6, .ref a7, .ref a8, .ref a9, .ref a10, .int 0, .int 0, .int (-1), .ref a11, .int 0, .ref a12, .int 0])), (a1, .inr (1, [.long 0, .int 1000, .int (-1), .int (-1), .int 0, .ref a13, .ref a14, .ref a15, .ref a16, .ref a17, .ref a18, .long 0, .ref a19])), (a12, .inl (G.2 0, 5, .inl (fun _ => 0)))]) (w1 := [(a16, .inr (6, [.int 10, .int 4, .ref a20, .int 0]))]) hP hD [2] [0, 1, 3] rfl rfl (by decide) (by decide) hk1 hFc hP1 hD1
    generalize H1 = H at hP hS ⊢
    have hP : va_P G.1 vwCl [(a0, .inr (11, [.ref a1, .ref a2, .ref a3, .ref a4, .ref a5, .ref a6, .ref a7, .ref a8, .ref a9, .ref a10, .int 0, .int 0, .int (-1), .ref a11, .int 0, .ref a12, .int 0])), (a1, .inr (1, [.long 0, .int 1000, .int (-1), .int (-1), .int 0, .ref a13, .ref a14, .ref a15, .ref a16, .ref a17, .ref a18, .long 0, .ref a19])), (a12, .inl (G.2 0, 5, .inl (fun _ => 0))), (a16, .inr (6, [.int 10, .int 4, .ref a20, .int 0]))] H := hP
    have hD : va_D A [(a0, .inr (11, [.ref a1, .ref a2, .ref a3, .ref a4, .ref a5, .ref a6, .ref a7, .ref a8, .ref a9, .ref a10, .int 0, .int 0, .int (-1), .ref a11, .int 0, .ref a12, .int 0])), (a1, .inr (1, [.long 0, .int 1000, .int (-1), .int (-1), .int 0, .ref a13, .ref a14, .ref a15, .ref a16, .ref a17, .ref a18, .long 0, .ref a19])), (a12, .inl (G.2 0, 5, .inl (fun _ => 0))), (a16, .inr (6, [.int 10, .int 4, .ref a20, .int 0]))] := hD
    refine lv_if_ne (tgt := 21) hx hb dX11_drop_11 (by decide) (fun c_5 => ?_) (fun c_5 => ?_)
    ·
      exact absurd c_5 (by decide)
    ·
      refine lv_aload_n hx hb dX11_drop_14 rfl (lv_at hl 0 rfl) ?_
      refine lv_bipush (v := (-2)) hx hb dX11_drop_15 (by decide) ?_
      have hPc := hP.sub (ws' := [(a0, .inr (11, [.ref a1, .ref a2, .ref a3, .ref a4, .ref a5, .ref a6, .ref a7, .ref a8, .ref a9, .ref a10, .int 0, .int 0, .int (-1), .ref a11, .int 0, .ref a12, .int 0])), (a12, .inl (G.2 0, 5, .inl (fun _ => 0)))]) [0, 2] rfl
      have hDc := hD.sub (ws' := [(a0, .inr (11, [.ref a1, .ref a2, .ref a3, .ref a4, .ref a5, .ref a6, .ref a7, .ref a8, .ref a9, .ref a10, .int 0, .int 0, .int (-1), .ref a11, .int 0, .ref a12, .int 0])), (a12, .inl (G.2 0, 5, .inl (fun _ => 0)))]) [0, 2] (by decide) rfl
      have hFc := va_free (wc := [(a0, .inr (11, [.ref a1, .ref a2, .ref a3, .ref a4, .ref a5, .ref a6, .ref a7, .ref a8, .ref a9, .ref a10, .int 0, .int 0, .int (-1), .ref a11, .int 0, .ref a12, .int 0])), (a12, .inl (G.2 0, 5, .inl (fun _ => 0)))]) hD hS hA [0, 2] rfl
      refine va_calli (va_runV (As := [.int (-2)]) (rest := []) ⟨hx, hb, hml, hown, hts⟩ (kX11_refuse_2 l G a0 a1 a2 a3 a4 a5 a6 a7 a8 a9 a10 a11 a12 H.size) (cwV 1 hts gV_X11_104 rfl rfl rfl hv_X11_refuse ⟨Nat.le_of_ble_eq_true rfl, Nat.le_of_ble_eq_true rfl⟩) (g5_preV hPc hK hDc hN hT hS hFc (ci := 11) (q0 := 0) rfl rfl) rfl rfl hl.1 rfl (lv_room (Nat.le_of_ble_eq_true rfl)) dX11_drop_17 ⟨Nat.le_of_ble_eq_true rfl, Nat.le_of_ble_eq_true rfl⟩) hS (fun q _ h => hFc q h) hFc (fun r u t H1 locs ht hvm hw hB hz1 hk1 hS => ?_)
      obtain ⟨hP1, hD1⟩ := hB
      rw [ht] at hP1
      obtain ⟨rfl, rfl⟩ := hw
      obtain ⟨hP, hD⟩ := va_join (wr := [(a1, .inr (1, [.long 0, .int 1000, .int (-1), .int (-1), .int 0, .ref a13, .ref a14, .ref a15, .ref a16, .ref a17, .ref a18, .long 0, .ref a19])), (a16, .inr (6, [.int 10, .int 4, .ref a20, .int 0]))]) (w1 := [(a0, .inr (11, [.ref a1, .ref a2, .ref a3, .ref a4, .ref a5, .ref a6, .ref a7, .ref a8, .ref a9, .ref a10, .int 0, .int 0, .int (-1), .ref a11, .int 0, .ref a12, .int (-2)])), (a12, .inl (G.2 0, 5, .inl (upd (fun _ => 0) 1 1)))]) hP hD [0, 2] [1, 3] rfl rfl (by decide) (by decide) hk1 hFc hP1 hD1
      generalize H1 = H at hP hS ⊢
      have hP : va_P G.1 vwCl [(a1, .inr (1, [.long 0, .int 1000, .int (-1), .int (-1), .int 0, .ref a13, .ref a14, .ref a15, .ref a16, .ref a17, .ref a18, .long 0, .ref a19])), (a16, .inr (6, [.int 10, .int 4, .ref a20, .int 0])), (a0, .inr (11, [.ref a1, .ref a2, .ref a3, .ref a4, .ref a5, .ref a6, .ref a7, .ref a8, .ref a9, .ref a10, .int 0, .int 0, .int (-1), .ref a11, .int 0, .ref a12, .int (-2)])), (a12, .inl (G.2 0, 5, .inl (upd (fun _ => 0) 1 1)))] H := hP
      have hD : va_D A [(a1, .inr (1, [.long 0, .int 1000, .int (-1), .int (-1), .int 0, .ref a13, .ref a14, .ref a15, .ref a16, .ref a17, .ref a18, .long 0, .ref a19])), (a16, .inr (6, [.int 10, .int 4, .ref a20, .int 0])), (a0, .inr (11, [.ref a1, .ref a2, .ref a3, .ref a4, .ref a5, .ref a6, .ref a7, .ref a8, .ref a9, .ref a10, .int 0, .int 0, .int (-1), .ref a11, .int 0, .ref a12, .int (-2)])), (a12, .inl (G.2 0, 5, .inl (upd (fun _ => 0) 1 1)))] := hD
      have hP := hP.sub (ws' := []) [] rfl
      have hD := hD.sub (ws' := []) [] (by decide) rfl
      exact W.iret (v := (-2)) hx hb hr (fun t ht hW => ⟨⟨(-2), [], rfl, Or.inr (⟨i_2, i_3, rfl, rfl⟩), by rw [ht]; exact hP, hD⟩, hS.F ht⟩) hS.2.2 dX11_drop_20
theorem dX1_isWalled_0 : decode cX1_isWalled 0 = .ok (.iload_n 1, 1) := by decide +kernel
theorem dX1_isWalled_1 : decode cX1_isWalled 1 = .ok (.iconst (-1), 1) := by decide +kernel
theorem dX1_isWalled_2 : decode cX1_isWalled 2 = .ok (.if_icmp .eq 18, 3) := by decide +kernel
theorem dX1_isWalled_5 : decode cX1_isWalled 5 = .ok (.aload_n 0, 1) := by decide +kernel
theorem dX1_isWalled_6 : decode cX1_isWalled 6 = .ok (.getfield 9, 3) := by decide +kernel
theorem dX1_isWalled_9 : decode cX1_isWalled 9 = .ok (.iload_n 1, 1) := by decide +kernel
theorem dX1_isWalled_10 : decode cX1_isWalled 10 = .ok (.invokestatic 62, 3) := by decide +kernel
theorem dX1_isWalled_13 : decode cX1_isWalled 13 = .ok (.ifCond .eq 7, 3) := by decide +kernel
theorem dX1_isWalled_16 : decode cX1_isWalled 16 = .ok (.iconst 1, 1) := by decide +kernel
theorem dX1_isWalled_17 : decode cX1_isWalled 17 = .ok (.goto 4, 3) := by decide +kernel
theorem dX1_isWalled_20 : decode cX1_isWalled 20 = .ok (.iconst 0, 1) := by decide +kernel
theorem dX1_isWalled_21 : decode cX1_isWalled 21 = .ok (.ireturn, 1) := by decide +kernel
set_option maxHeartbeats 4000000 in
set_option maxRecDepth 100000 in
theorem kX1_isWalled (l : Launch) (G : g5_G) (a0 a1 a2 a3 a4 a5 a6 a7 : Nat) (sz : Nat) (n0 : Int32) (h_n0 : (-1) ≤ n0.toInt ∧ n0.toInt ≤ 63) : Met l yX1_isWalled (wsG yX1_isWalled cX1_isWalled 2 (some .boolean)) ({ frames := 1, cells := 0, slots := 0, locals := 22 }) (va_Pc [.ref a0, .int n0] (g5_P G [(a0, .inr (1, [.long 0, .int 1000, .int (-1), .int (-1), .int 0, .ref a1, .ref a2, .ref a3, .ref a4, .ref a5, .ref a6, .long 0, .ref a7]))] sz)) (va_Qi (fun (r : Int32) (u : va_W) => ((n0.toInt = (-1)) ∧ (r = 0) ∧ (u = [(a0, .inr (1, [.long 0, .int 1000, .int (-1), .int (-1), .int 0, .ref a1, .ref a2, .ref a3, .ref a4, .ref a5, .ref a6, .long 0, .ref a7]))])) ∨ ((n0.toInt ≠ (-1)) ∧ (r = 0) ∧ (u = [(a0, .inr (1, [.long 0, .int 1000, .int (-1), .int (-1), .int 0, .ref a1, .ref a2, .ref a3, .ref a4, .ref a5, .ref a6, .long 0, .ref a7]))]))) (g5_B G (va_A [(a0, .inr (1, [.long 0, .int 1000, .int (-1), .int (-1), .int 0, .ref a1, .ref a2, .ref a3, .ref a4, .ref a5, .ref a6, .long 0, .ref a7]))] sz)) (va_A [(a0, .inr (1, [.long 0, .int 1000, .int (-1), .int (-1), .int 0, .ref a1, .ref a2, .ref a3, .ref a4, .ref a5, .ref a6, .long 0, .ref a7]))] sz)) 0 0 (va_A [(a0, .inr (1, [.long 0, .int 1000, .int (-1), .int (-1), .int 0, .ref a1, .ref a2, .ref a3, .ref a4, .ref a5, .ref a6, .long 0, .ref a7]))] sz) := by
  refine Met.ofW (cc := cX1_isWalled) (maxL := 2) (ret := (some .boolean)) (by decide) rfl ?_
  intro p e s m args below meth c s₁ B hml hv
  obtain ⟨rfl, hsz, hP, hK, hD0, hN, hT⟩ := hv
  have hx := B.exec
  have hb := B.bytes
  have hr := B.returns
  have hts : ∀ w ∈ tblG, w.before _ s = true := fun w h => atoms_spec (ws := (wsG yX1_isWalled cX1_isWalled 2 (some .boolean))) B.pre w (List.mem_cons_of_mem _ h)
  have hown : s.vm.findClass RX1 = some m.cls := findClass_of_methodNamed B.named
  have hlocks := B.notSynchronized
  subst hsz
  have hD := hD0.self (sz := s.heap.size)
  generalize hAe : va_A [(a0, .inr (1, [.long 0, .int 1000, .int (-1), .int (-1), .int 0, .ref a1, .ref a2, .ref a3, .ref a4, .ref a5, .ref a6, .long 0, .ref a7]))] s.heap.size = A at hD hT ⊢
  have hA : ∀ q : Nat, s.heap.size ≤ q → A q := fun q h => by rw [← hAe]; exact Or.inr h
  have hS : va_S A s.heap s.heap [] := va_S.rf
  have hP : va_P G.1 vwCl [(a0, .inr (1, [.long 0, .int 1000, .int (-1), .int (-1), .int 0, .ref a1, .ref a2, .ref a3, .ref a4, .ref a5, .ref a6, .long 0, .ref a7]))] s.heap := hP
  have hl := lv_entry ([.ref a0, .int n0]) (n := 2) (Nat.le_of_ble_eq_true rfl)
  rw [lg_entry_eq]
  generalize (lg_sl ([.ref a0, .int n0]) ++ List.replicate (2 - (lg_sl ([.ref a0, .int n0])).length) Slot.unset).toArray = ls at hl ⊢
  have hl : lv_has ls 2 [(0, .ref a0), (1, .int n0)] := hl
  refine lv_iload_n hx hb dX1_isWalled_0 rfl (lv_at hl 1 rfl) ?_
  refine lv_iconst (v := (-1)) hx hb dX1_isWalled_1 (by decide) ?_
  refine lv_icmp_eq (tgt := 20) hx hb dX1_isWalled_2 (by decide) (fun c_1 => ?_) (fun c_1 => ?_)
  ·
    have i_1 : n0.toInt = (-1) := by have z := g5_eq (a := n0.toInt) (b := (-1)) (by rfl) (by decide) c_1; omega
    refine lv_iconst (v := 0) hx hb dX1_isWalled_20 (by decide) ?_
    exact W.zret (v := 0) hx hb hr rfl (fun t ht hW => ⟨⟨0, [(a0, .inr (1, [.long 0, .int 1000, .int (-1), .int (-1), .int 0, .ref a1, .ref a2, .ref a3, .ref a4, .ref a5, .ref a6, .long 0, .ref a7]))], rfl, Or.inl (⟨i_1, rfl, rfl⟩), by rw [ht]; exact hP, hD⟩, hS.F ht⟩) hS.2.2 dX1_isWalled_21
  ·
    have i_1 : n0.toInt ≠ (-1) := by have z := g5_eqN (a := n0.toInt) (b := (-1)) (by rfl) (by decide) c_1; omega
    refine lv_aload_n hx hb dX1_isWalled_5 rfl (lv_at hl 0 rfl) ?_
    refine va_get (D := G.1) (ci := 1) (v := .long 0) (C := RX1) (T := TX1) (N := 13) hx hb hts inG_X1 hown hK hP 0 rfl rfl 0 (by decide) (hts _ fl_X1_9) (fun _ h9 => h9) rfl dX1_isWalled_6 ?_
    refine lv_iload_n hx hb dX1_isWalled_9 rfl (lv_at hl 1 rfl) ?_
    have hPc := hP.sub (ws' := []) [] rfl
    have hDc := hD.sub (ws' := []) [] (by decide) rfl
    have hFc := va_free (wc := []) hD hS hA [] rfl
    refine va_calli (va_runSN (As := [.long 0, .int n0]) (rest := []) ⟨hx, hb, hml, hown, hts⟩ (kX11_isOn_5 l G s.heap.size n0 ⟨by omega, by omega⟩) ⟨va_cnB 2 hts gW_X11_isOn rfl rfl rfl (hN.1 _ g5_nw_X1_62) (hts _ ini_X11) hs_X11_isOn ⟨Nat.le_of_ble_eq_true rfl, Nat.le_of_ble_eq_true rfl⟩, hts _ st_X11_isOn, trivial⟩ (g5_preS hPc hK hDc hN hT hS hFc) rfl rfl hl.1 rfl (lv_room (Nat.le_of_ble_eq_true rfl)) dX1_isWalled_10 ⟨Nat.le_of_ble_eq_true rfl, Nat.le_of_ble_eq_true rfl⟩) hS (fun q _ h => hFc q h) hFc (fun r u t H1 locs ht hvm hw hB hz1 hk1 hS => ?_)
    obtain ⟨hP1, hD1⟩ := hB
    rw [ht] at hP1
    obtain ⟨rfl, rfl⟩ := hw
    have hP := g5_same hP hk1
    generalize H1 = H at hP hS ⊢
    refine lv_if_eq (tgt := 20) hx hb dX1_isWalled_13 (by decide) (fun c_2 => ?_) (fun c_2 => ?_)
    ·
      refine lv_iconst (v := 0) hx hb dX1_isWalled_20 (by decide) ?_
      exact W.zret (v := 0) hx hb hr rfl (fun t ht hW => ⟨⟨0, [(a0, .inr (1, [.long 0, .int 1000, .int (-1), .int (-1), .int 0, .ref a1, .ref a2, .ref a3, .ref a4, .ref a5, .ref a6, .long 0, .ref a7]))], rfl, Or.inr (⟨i_1, rfl, rfl⟩), by rw [ht]; exact hP, hD⟩, hS.F ht⟩) hS.2.2 dX1_isWalled_21
    ·
      exact absurd c_2 (by decide)
theorem ml_X11_174 : Cond.methodLink RX11 174 yX1_isWalled ∈ tblG := tg 594 (by decide +kernel) (by decide +kernel)
theorem im_X1_isWalled : Cond.instanceMethod yX1_isWalled ∈ tblG := tg 595 (by decide +kernel) (by decide +kernel)
theorem se_X1_isWalled : Cond.selects RX1 yX1_isWalled yX1_isWalled ∈ tblG := tg 596 (by decide +kernel) (by decide +kernel)
theorem cd_X1_isWalled : Cond.code yX1_isWalled cX1_isWalled 2 (some .boolean) ∈ tblG := tg 597 (by decide +kernel) (by decide +kernel)
theorem gW_X1_isWalled : GoodIn tblG (wsG yX1_isWalled cX1_isWalled 2 (some .boolean)) := tgi cd_X1_isWalled
theorem gV_X11_174 : GoodIn tblG (wsV RX11 174 RX1 yX1_isWalled (wsG yX1_isWalled cX1_isWalled 2 (some .boolean))) := tgV ml_X11_174 im_X1_isWalled se_X1_isWalled ini_X1 gW_X1_isWalled
theorem hv_X1_isWalled : yX1_isWalled.cls = RX1 ∧ yX1_isWalled.cls ≠ "java/lang/invoke/MethodHandle" ∧ yX1_isWalled.cls ≠ "java/lang/invoke/VarHandle" ∧ (parseMethodDescriptor yX1_isWalled.desc).map (fun d => d.parameters.length) = some 1 := by decide +kernel
theorem fl_X11_274 : Cond.fieldLink RX11 274 "LateGlass$House" "start" "I" ∈ tblG := tg 163 (by decide +kernel) (by decide +kernel)
theorem dX11_start_0 : decode cX11_start 0 = .ok (.iload_n 1, 1) := by decide +kernel
theorem dX11_start_1 : decode cX11_start 1 = .ok (.invokestatic 241, 3) := by decide +kernel
theorem dX11_start_4 : decode cX11_start 4 = .ok (.ifCond .ne 9, 3) := by decide +kernel
theorem dX11_start_7 : decode cX11_start 7 = .ok (.aload_n 0, 1) := by decide +kernel
theorem dX11_start_8 : decode cX11_start 8 = .ok (.iconst (-1), 1) := by decide +kernel
theorem dX11_start_9 : decode cX11_start 9 = .ok (.invokevirtual 104, 3) := by decide +kernel
theorem dX11_start_12 : decode cX11_start 12 = .ok (.ireturn, 1) := by decide +kernel
theorem dX11_start_13 : decode cX11_start 13 = .ok (.aload_n 0, 1) := by decide +kernel
theorem dX11_start_14 : decode cX11_start 14 = .ok (.getfield 12, 3) := by decide +kernel
theorem dX11_start_17 : decode cX11_start 17 = .ok (.iload_n 1, 1) := by decide +kernel
theorem dX11_start_18 : decode cX11_start 18 = .ok (.invokevirtual 174, 3) := by decide +kernel
theorem dX11_start_21 : decode cX11_start 21 = .ok (.ifCond .eq 10, 3) := by decide +kernel
theorem dX11_start_24 : decode cX11_start 24 = .ok (.aload_n 0, 1) := by decide +kernel
theorem dX11_start_25 : decode cX11_start 25 = .ok (.bipush (-3), 2) := by decide +kernel
theorem dX11_start_27 : decode cX11_start 27 = .ok (.invokevirtual 104, 3) := by decide +kernel
theorem dX11_start_30 : decode cX11_start 30 = .ok (.ireturn, 1) := by decide +kernel
theorem dX11_start_31 : decode cX11_start 31 = .ok (.aload_n 0, 1) := by decide +kernel
theorem dX11_start_32 : decode cX11_start 32 = .ok (.getfield 12, 3) := by decide +kernel
theorem dX11_start_35 : decode cX11_start 35 = .ok (.getfield 274, 3) := by decide +kernel
theorem dX11_start_38 : decode cX11_start 38 = .ok (.istore_n 2, 1) := by decide +kernel
theorem dX11_start_39 : decode cX11_start 39 = .ok (.aload_n 0, 1) := by decide +kernel
theorem dX11_start_40 : decode cX11_start 40 = .ok (.getfield 12, 3) := by decide +kernel
theorem dX11_start_43 : decode cX11_start 43 = .ok (.iload_n 1, 1) := by decide +kernel
theorem dX11_start_44 : decode cX11_start 44 = .ok (.putfield 274, 3) := by decide +kernel
theorem dX11_start_47 : decode cX11_start 47 = .ok (.aload_n 0, 1) := by decide +kernel
theorem dX11_start_48 : decode cX11_start 48 = .ok (.iload_n 2, 1) := by decide +kernel
theorem dX11_start_49 : decode cX11_start 49 = .ok (.invokevirtual 121, 3) := by decide +kernel
theorem dX11_start_52 : decode cX11_start 52 = .ok (.ireturn, 1) := by decide +kernel
set_option maxHeartbeats 4000000 in
set_option maxRecDepth 100000 in
theorem kX11_start (l : Launch) (G : g5_G) (a0 a1 a2 a3 a4 a5 a6 a7 a8 a9 a10 a11 a12 a13 a14 a15 a16 a17 a18 a19 : Nat) (sz : Nat) (n0 : Int32) : Met l yX11_start (wsG yX11_start cX11_start 3 (some .int)) ({ frames := 2, cells := 0, slots := 0, locals := 43 }) (va_Pc [.ref a0, .int n0] (g5_P G [(a0, .inr (11, [.ref a1, .ref a2, .ref a3, .ref a4, .ref a5, .ref a6, .ref a7, .ref a8, .ref a9, .ref a10, .int 0, .int 0, .int (-1), .ref a11, .int 0, .ref a12, .int 0])), (a12, .inl (G.2 0, 5, .inl (fun _ => 0))), (a1, .inr (1, [.long 0, .int 1000, .int (-1), .int (-1), .int 0, .ref a13, .ref a14, .ref a15, .ref a16, .ref a17, .ref a18, .long 0, .ref a19]))] sz)) (va_Qi (fun (r : Int32) (u : va_W) => ((n0.toInt < (-1)) ∧ (r = (-1)) ∧ (u = [])) ∨ ((n0.toInt ≥ (-1)) ∧ (n0.toInt ≥ 64) ∧ (r = (-1)) ∧ (u = [])) ∨ ((n0.toInt ≥ (-1)) ∧ (n0.toInt < 64) ∧ (n0.toInt = (-1)) ∧ (r = (-1)) ∧ (u = [])) ∨ ((n0.toInt ≥ (-1)) ∧ (n0.toInt < 64) ∧ (n0.toInt ≠ (-1)) ∧ (r = (-1)) ∧ (u = []))) (g5_B G (va_A [(a0, .inr (11, [.ref a1, .ref a2, .ref a3, .ref a4, .ref a5, .ref a6, .ref a7, .ref a8, .ref a9, .ref a10, .int 0, .int 0, .int (-1), .ref a11, .int 0, .ref a12, .int 0])), (a12, .inl (G.2 0, 5, .inl (fun _ => 0))), (a1, .inr (1, [.long 0, .int 1000, .int (-1), .int (-1), .int 0, .ref a13, .ref a14, .ref a15, .ref a16, .ref a17, .ref a18, .long 0, .ref a19]))] sz)) (va_A [(a0, .inr (11, [.ref a1, .ref a2, .ref a3, .ref a4, .ref a5, .ref a6, .ref a7, .ref a8, .ref a9, .ref a10, .int 0, .int 0, .int (-1), .ref a11, .int 0, .ref a12, .int 0])), (a12, .inl (G.2 0, 5, .inl (fun _ => 0))), (a1, .inr (1, [.long 0, .int 1000, .int (-1), .int (-1), .int 0, .ref a13, .ref a14, .ref a15, .ref a16, .ref a17, .ref a18, .long 0, .ref a19]))] sz)) 0 0 (va_A [(a0, .inr (11, [.ref a1, .ref a2, .ref a3, .ref a4, .ref a5, .ref a6, .ref a7, .ref a8, .ref a9, .ref a10, .int 0, .int 0, .int (-1), .ref a11, .int 0, .ref a12, .int 0])), (a12, .inl (G.2 0, 5, .inl (fun _ => 0))), (a1, .inr (1, [.long 0, .int 1000, .int (-1), .int (-1), .int 0, .ref a13, .ref a14, .ref a15, .ref a16, .ref a17, .ref a18, .long 0, .ref a19]))] sz) := by
  refine Met.ofW (cc := cX11_start) (maxL := 3) (ret := (some .int)) (by decide) rfl ?_
  intro p e s m args below meth c s₁ B hml hv
  obtain ⟨rfl, hsz, hP, hK, hD0, hN, hT⟩ := hv
  have hx := B.exec
  have hb := B.bytes
  have hr := B.returns
  have hts : ∀ w ∈ tblG, w.before _ s = true := fun w h => atoms_spec (ws := (wsG yX11_start cX11_start 3 (some .int))) B.pre w (List.mem_cons_of_mem _ h)
  have hown : s.vm.findClass RX11 = some m.cls := findClass_of_methodNamed B.named
  have hlocks := B.notSynchronized
  subst hsz
  have hD := hD0.self (sz := s.heap.size)
  generalize hAe : va_A [(a0, .inr (11, [.ref a1, .ref a2, .ref a3, .ref a4, .ref a5, .ref a6, .ref a7, .ref a8, .ref a9, .ref a10, .int 0, .int 0, .int (-1), .ref a11, .int 0, .ref a12, .int 0])), (a12, .inl (G.2 0, 5, .inl (fun _ => 0))), (a1, .inr (1, [.long 0, .int 1000, .int (-1), .int (-1), .int 0, .ref a13, .ref a14, .ref a15, .ref a16, .ref a17, .ref a18, .long 0, .ref a19]))] s.heap.size = A at hD hT ⊢
  have hA : ∀ q : Nat, s.heap.size ≤ q → A q := fun q h => by rw [← hAe]; exact Or.inr h
  have hS : va_S A s.heap s.heap [] := va_S.rf
  have hP : va_P G.1 vwCl [(a0, .inr (11, [.ref a1, .ref a2, .ref a3, .ref a4, .ref a5, .ref a6, .ref a7, .ref a8, .ref a9, .ref a10, .int 0, .int 0, .int (-1), .ref a11, .int 0, .ref a12, .int 0])), (a12, .inl (G.2 0, 5, .inl (fun _ => 0))), (a1, .inr (1, [.long 0, .int 1000, .int (-1), .int (-1), .int 0, .ref a13, .ref a14, .ref a15, .ref a16, .ref a17, .ref a18, .long 0, .ref a19]))] s.heap := hP
  have hl := lv_entry ([.ref a0, .int n0]) (n := 3) (Nat.le_of_ble_eq_true rfl)
  rw [lg_entry_eq]
  generalize (lg_sl ([.ref a0, .int n0]) ++ List.replicate (3 - (lg_sl ([.ref a0, .int n0])).length) Slot.unset).toArray = ls at hl ⊢
  have hl : lv_has ls 3 [(0, .ref a0), (1, .int n0)] := hl
  refine lv_iload_n hx hb dX11_start_0 rfl (lv_at hl 1 rfl) ?_
  have hPc := hP.sub (ws' := []) [] rfl
  have hDc := hD.sub (ws' := []) [] (by decide) rfl
  have hFc := va_free (wc := []) hD hS hA [] rfl
  refine va_calli (va_runS (As := [.int n0]) (rest := []) ⟨hx, hb, hml, hown, hts⟩ (kX11_isCellOrNone l G s.heap.size n0) (va_cwS 1 hts gS_X11_241 rfl rfl rfl hs_X11_isCellOrNone ⟨Nat.le_of_ble_eq_true rfl, Nat.le_of_ble_eq_true rfl⟩) (g5_preS hPc hK hDc hN hT hS hFc) rfl rfl hl.1 rfl (lv_room (Nat.le_of_ble_eq_true rfl)) dX11_start_1 ⟨Nat.le_of_ble_eq_true rfl, Nat.le_of_ble_eq_true rfl⟩) hS (fun q _ h => hFc q h) hFc (fun r u t H1 locs ht hvm hw hB hz1 hk1 hS => ?_)
  obtain ⟨hP1, hD1⟩ := hB
  rw [ht] at hP1
  rcases hw with ⟨i_1, rfl, rfl⟩ | ⟨i_2, i_3, rfl, rfl⟩ | ⟨i_4, i_5, rfl, rfl⟩
  ·
    have hP := g5_same hP hk1
    generalize H1 = H at hP hS ⊢
    refine lv_if_ne (tgt := 13) hx hb dX11_start_4 (by decide) (fun c_6 => ?_) (fun c_6 => ?_)
    ·
      exact absurd c_6 (by decide)
    ·
      refine lv_aload_n hx hb dX11_start_7 rfl (lv_at hl 0 rfl) ?_
      refine lv_iconst (v := (-1)) hx hb dX11_start_8 (by decide) ?_
      have hPc := hP.sub (ws' := [(a0, .inr (11, [.ref a1, .ref a2, .ref a3, .ref a4, .ref a5, .ref a6, .ref a7, .ref a8, .ref a9, .ref a10, .int 0, .int 0, .int (-1), .ref a11, .int 0, .ref a12, .int 0])), (a12, .inl (G.2 0, 5, .inl (fun _ => 0)))]) [0, 1] rfl
      have hDc := hD.sub (ws' := [(a0, .inr (11, [.ref a1, .ref a2, .ref a3, .ref a4, .ref a5, .ref a6, .ref a7, .ref a8, .ref a9, .ref a10, .int 0, .int 0, .int (-1), .ref a11, .int 0, .ref a12, .int 0])), (a12, .inl (G.2 0, 5, .inl (fun _ => 0)))]) [0, 1] (by decide) rfl
      have hFc := va_free (wc := [(a0, .inr (11, [.ref a1, .ref a2, .ref a3, .ref a4, .ref a5, .ref a6, .ref a7, .ref a8, .ref a9, .ref a10, .int 0, .int 0, .int (-1), .ref a11, .int 0, .ref a12, .int 0])), (a12, .inl (G.2 0, 5, .inl (fun _ => 0)))]) hD hS hA [0, 1] rfl
      refine va_calli (va_runV (As := [.int (-1)]) (rest := []) ⟨hx, hb, hml, hown, hts⟩ (kX11_refuse l G a0 a1 a2 a3 a4 a5 a6 a7 a8 a9 a10 a11 a12 H.size) (cwV 1 hts gV_X11_104 rfl rfl rfl hv_X11_refuse ⟨Nat.le_of_ble_eq_true rfl, Nat.le_of_ble_eq_true rfl⟩) (g5_preV hPc hK hDc hN hT hS hFc (ci := 11) (q0 := 0) rfl rfl) rfl rfl hl.1 rfl (lv_room (Nat.le_of_ble_eq_true rfl)) dX11_start_9 ⟨Nat.le_of_ble_eq_true rfl, Nat.le_of_ble_eq_true rfl⟩) hS (fun q _ h => hFc q h) hFc (fun r u t H1 locs ht hvm hw hB hz1 hk1 hS => ?_)
      obtain ⟨hP1, hD1⟩ := hB
      rw [ht] at hP1
      obtain ⟨rfl, rfl⟩ := hw
      obtain ⟨hP, hD⟩ := va_join (wr := [(a1, .inr (1, [.long 0, .int 1000, .int (-1), .int (-1), .int 0, .ref a13, .ref a14, .ref a15, .ref a16, .ref a17, .ref a18, .long 0, .ref a19]))]) (w1 := [(a0, .inr (11, [.ref a1, .ref a2, .ref a3, .ref a4, .ref a5, .ref a6, .ref a7, .ref a8, .ref a9, .ref a10, .int 0, .int 0, .int (-1), .ref a11, .int 0, .ref a12, .int (-1)])), (a12, .inl (G.2 0, 5, .inl (upd (fun _ => 0) 0 1)))]) hP hD [0, 1] [2] rfl rfl (by decide) (by decide) hk1 hFc hP1 hD1
      generalize H1 = H at hP hS ⊢
      have hP : va_P G.1 vwCl [(a1, .inr (1, [.long 0, .int 1000, .int (-1), .int (-1), .int 0, .ref a13, .ref a14, .ref a15, .ref a16, .ref a17, .ref a18, .long 0, .ref a19])), (a0, .inr (11, [.ref a1, .ref a2, .ref a3, .ref a4, .ref a5, .ref a6, .ref a7, .ref a8, .ref a9, .ref a10, .int 0, .int 0, .int (-1), .ref a11, .int 0, .ref a12, .int (-1)])), (a12, .inl (G.2 0, 5, .inl (upd (fun _ => 0) 0 1)))] H := hP
      have hD : va_D A [(a1, .inr (1, [.long 0, .int 1000, .int (-1), .int (-1), .int 0, .ref a13, .ref a14, .ref a15, .ref a16, .ref a17, .ref a18, .long 0, .ref a19])), (a0, .inr (11, [.ref a1, .ref a2, .ref a3, .ref a4, .ref a5, .ref a6, .ref a7, .ref a8, .ref a9, .ref a10, .int 0, .int 0, .int (-1), .ref a11, .int 0, .ref a12, .int (-1)])), (a12, .inl (G.2 0, 5, .inl (upd (fun _ => 0) 0 1)))] := hD
      have hP := hP.sub (ws' := []) [] rfl
      have hD := hD.sub (ws' := []) [] (by decide) rfl
      exact W.iret (v := (-1)) hx hb hr (fun t ht hW => ⟨⟨(-1), [], rfl, Or.inl (⟨i_1, rfl, rfl⟩), by rw [ht]; exact hP, hD⟩, hS.F ht⟩) hS.2.2 dX11_start_12
  ·
    have hP := g5_same hP hk1
    generalize H1 = H at hP hS ⊢
    refine lv_if_ne (tgt := 13) hx hb dX11_start_4 (by decide) (fun c_7 => ?_) (fun c_7 => ?_)
    ·
      exact absurd c_7 (by decide)
    ·
      refine lv_aload_n hx hb dX11_start_7 rfl (lv_at hl 0 rfl) ?_
      refine lv_iconst (v := (-1)) hx hb dX11_start_8 (by decide) ?_
      have hPc := hP.sub (ws' := [(a0, .inr (11, [.ref a1, .ref a2, .ref a3, .ref a4, .ref a5, .ref a6, .ref a7, .ref a8, .ref a9, .ref a10, .int 0, .int 0, .int (-1), .ref a11, .int 0, .ref a12, .int 0])), (a12, .inl (G.2 0, 5, .inl (fun _ => 0)))]) [0, 1] rfl
      have hDc := hD.sub (ws' := [(a0, .inr (11, [.ref a1, .ref a2, .ref a3, .ref a4, .ref a5, .ref a6, .ref a7, .ref a8, .ref a9, .ref a10, .int 0, .int 0, .int (-1), .ref a11, .int 0, .ref a12, .int 0])), (a12, .inl (G.2 0, 5, .inl (fun _ => 0)))]) [0, 1] (by decide) rfl
      have hFc := va_free (wc := [(a0, .inr (11, [.ref a1, .ref a2, .ref a3, .ref a4, .ref a5, .ref a6, .ref a7, .ref a8, .ref a9, .ref a10, .int 0, .int 0, .int (-1), .ref a11, .int 0, .ref a12, .int 0])), (a12, .inl (G.2 0, 5, .inl (fun _ => 0)))]) hD hS hA [0, 1] rfl
      refine va_calli (va_runV (As := [.int (-1)]) (rest := []) ⟨hx, hb, hml, hown, hts⟩ (kX11_refuse l G a0 a1 a2 a3 a4 a5 a6 a7 a8 a9 a10 a11 a12 H.size) (cwV 1 hts gV_X11_104 rfl rfl rfl hv_X11_refuse ⟨Nat.le_of_ble_eq_true rfl, Nat.le_of_ble_eq_true rfl⟩) (g5_preV hPc hK hDc hN hT hS hFc (ci := 11) (q0 := 0) rfl rfl) rfl rfl hl.1 rfl (lv_room (Nat.le_of_ble_eq_true rfl)) dX11_start_9 ⟨Nat.le_of_ble_eq_true rfl, Nat.le_of_ble_eq_true rfl⟩) hS (fun q _ h => hFc q h) hFc (fun r u t H1 locs ht hvm hw hB hz1 hk1 hS => ?_)
      obtain ⟨hP1, hD1⟩ := hB
      rw [ht] at hP1
      obtain ⟨rfl, rfl⟩ := hw
      obtain ⟨hP, hD⟩ := va_join (wr := [(a1, .inr (1, [.long 0, .int 1000, .int (-1), .int (-1), .int 0, .ref a13, .ref a14, .ref a15, .ref a16, .ref a17, .ref a18, .long 0, .ref a19]))]) (w1 := [(a0, .inr (11, [.ref a1, .ref a2, .ref a3, .ref a4, .ref a5, .ref a6, .ref a7, .ref a8, .ref a9, .ref a10, .int 0, .int 0, .int (-1), .ref a11, .int 0, .ref a12, .int (-1)])), (a12, .inl (G.2 0, 5, .inl (upd (fun _ => 0) 0 1)))]) hP hD [0, 1] [2] rfl rfl (by decide) (by decide) hk1 hFc hP1 hD1
      generalize H1 = H at hP hS ⊢
      have hP : va_P G.1 vwCl [(a1, .inr (1, [.long 0, .int 1000, .int (-1), .int (-1), .int 0, .ref a13, .ref a14, .ref a15, .ref a16, .ref a17, .ref a18, .long 0, .ref a19])), (a0, .inr (11, [.ref a1, .ref a2, .ref a3, .ref a4, .ref a5, .ref a6, .ref a7, .ref a8, .ref a9, .ref a10, .int 0, .int 0, .int (-1), .ref a11, .int 0, .ref a12, .int (-1)])), (a12, .inl (G.2 0, 5, .inl (upd (fun _ => 0) 0 1)))] H := hP
      have hD : va_D A [(a1, .inr (1, [.long 0, .int 1000, .int (-1), .int (-1), .int 0, .ref a13, .ref a14, .ref a15, .ref a16, .ref a17, .ref a18, .long 0, .ref a19])), (a0, .inr (11, [.ref a1, .ref a2, .ref a3, .ref a4, .ref a5, .ref a6, .ref a7, .ref a8, .ref a9, .ref a10, .int 0, .int 0, .int (-1), .ref a11, .int 0, .ref a12, .int (-1)])), (a12, .inl (G.2 0, 5, .inl (upd (fun _ => 0) 0 1)))] := hD
      have hP := hP.sub (ws' := []) [] rfl
      have hD := hD.sub (ws' := []) [] (by decide) rfl
      exact W.iret (v := (-1)) hx hb hr (fun t ht hW => ⟨⟨(-1), [], rfl, Or.inr (Or.inl (⟨i_2, i_3, rfl, rfl⟩)), by rw [ht]; exact hP, hD⟩, hS.F ht⟩) hS.2.2 dX11_start_12
  ·
    have hP := g5_same hP hk1
    generalize H1 = H at hP hS ⊢
    refine lv_if_ne (tgt := 13) hx hb dX11_start_4 (by decide) (fun c_8 => ?_) (fun c_8 => ?_)
    ·
      refine lv_aload_n hx hb dX11_start_13 rfl (lv_at hl 0 rfl) ?_
      refine va_get (D := G.1) (ci := 11) (v := .ref a1) (C := RX11) (T := TX11) (N := 17) hx hb hts inG_X11 hown hK hP 0 rfl rfl 0 (by decide) (hts _ fl_X11_12) (fun _ h9 => h9) rfl dX11_start_14 ?_
      refine lv_iload_n hx hb dX11_start_17 rfl (lv_at hl 1 rfl) ?_
      have hPc := hP.sub (ws' := [(a1, .inr (1, [.long 0, .int 1000, .int (-1), .int (-1), .int 0, .ref a13, .ref a14, .ref a15, .ref a16, .ref a17, .ref a18, .long 0, .ref a19]))]) [2] rfl
      have hDc := hD.sub (ws' := [(a1, .inr (1, [.long 0, .int 1000, .int (-1), .int (-1), .int 0, .ref a13, .ref a14, .ref a15, .ref a16, .ref a17, .ref a18, .long 0, .ref a19]))]) [2] (by decide) rfl
      have hFc := va_free (wc := [(a1, .inr (1, [.long 0, .int 1000, .int (-1), .int (-1), .int 0, .ref a13, .ref a14, .ref a15, .ref a16, .ref a17, .ref a18, .long 0, .ref a19]))]) hD hS hA [2] rfl
      refine va_calli (va_runV (As := [.int n0]) (rest := []) ⟨hx, hb, hml, hown, hts⟩ (kX1_isWalled l G a1 a13 a14 a15 a16 a17 a18 a19 H.size n0 ⟨by omega, by omega⟩) (cwV 1 hts gV_X11_174 rfl rfl rfl hv_X1_isWalled ⟨Nat.le_of_ble_eq_true rfl, Nat.le_of_ble_eq_true rfl⟩) (g5_preV hPc hK hDc hN hT hS hFc (ci := 1) (q0 := 0) rfl rfl) rfl rfl hl.1 rfl (lv_room (Nat.le_of_ble_eq_true rfl)) dX11_start_18 ⟨Nat.le_of_ble_eq_true rfl, Nat.le_of_ble_eq_true rfl⟩) hS (fun q _ h => hFc q h) hFc (fun r u t H1 locs ht hvm hw hB hz1 hk1 hS => ?_)
      obtain ⟨hP1, hD1⟩ := hB
      rw [ht] at hP1
      rcases hw with ⟨i_9, rfl, rfl⟩ | ⟨i_10, rfl, rfl⟩
      ·
        obtain ⟨hP, hD⟩ := va_join (wr := [(a0, .inr (11, [.ref a1, .ref a2, .ref a3, .ref a4, .ref a5, .ref a6, .ref a7, .ref a8, .ref a9, .ref a10, .int 0, .int 0, .int (-1), .ref a11, .int 0, .ref a12, .int 0])), (a12, .inl (G.2 0, 5, .inl (fun _ => 0)))]) (w1 := [(a1, .inr (1, [.long 0, .int 1000, .int (-1), .int (-1), .int 0, .ref a13, .ref a14, .ref a15, .ref a16, .ref a17, .ref a18, .long 0, .ref a19]))]) hP hD [2] [0, 1] rfl rfl (by decide) (by decide) hk1 hFc hP1 hD1
        generalize H1 = H at hP hS ⊢
        have hP : va_P G.1 vwCl [(a0, .inr (11, [.ref a1, .ref a2, .ref a3, .ref a4, .ref a5, .ref a6, .ref a7, .ref a8, .ref a9, .ref a10, .int 0, .int 0, .int (-1), .ref a11, .int 0, .ref a12, .int 0])), (a12, .inl (G.2 0, 5, .inl (fun _ => 0))), (a1, .inr (1, [.long 0, .int 1000, .int (-1), .int (-1), .int 0, .ref a13, .ref a14, .ref a15, .ref a16, .ref a17, .ref a18, .long 0, .ref a19]))] H := hP
        have hD : va_D A [(a0, .inr (11, [.ref a1, .ref a2, .ref a3, .ref a4, .ref a5, .ref a6, .ref a7, .ref a8, .ref a9, .ref a10, .int 0, .int 0, .int (-1), .ref a11, .int 0, .ref a12, .int 0])), (a12, .inl (G.2 0, 5, .inl (fun _ => 0))), (a1, .inr (1, [.long 0, .int 1000, .int (-1), .int (-1), .int 0, .ref a13, .ref a14, .ref a15, .ref a16, .ref a17, .ref a18, .long 0, .ref a19]))] := hD
        refine lv_if_eq (tgt := 31) hx hb dX11_start_21 (by decide) (fun c_11 => ?_) (fun c_11 => ?_)
        ·
          refine lv_aload_n hx hb dX11_start_31 rfl (lv_at hl 0 rfl) ?_
          refine va_get (D := G.1) (ci := 11) (v := .ref a1) (C := RX11) (T := TX11) (N := 17) hx hb hts inG_X11 hown hK hP 0 rfl rfl 0 (by decide) (hts _ fl_X11_12) (fun _ h9 => h9) rfl dX11_start_32 ?_
          refine va_get (D := G.1) (ci := 1) (v := .int (-1)) (C := RX1) (T := TX1) (N := 13) hx hb hts inG_X1 hown hK hP 2 rfl rfl 2 (by decide) (hts _ fl_X11_274) (fun _ h9 => h9) rfl dX11_start_35 ?_
          refine lv_istore_n (lv' := [(2, .int (-1)), (0, .ref a0), (1, .int n0)]) hx hb dX11_start_38 rfl hl (by decide) rfl (fun ls hl => ?_)
          refine lv_aload_n hx hb dX11_start_39 rfl (lv_at hl 1 rfl) ?_
          refine va_get (D := G.1) (ci := 11) (v := .ref a1) (C := RX11) (T := TX11) (N := 17) hx hb hts inG_X11 hown hK hP 0 rfl rfl 0 (by decide) (hts _ fl_X11_12) (fun _ h9 => h9) rfl dX11_start_40 ?_
          refine lv_iload_n hx hb dX11_start_43 rfl (lv_at hl 2 rfl) ?_
          refine va_put (D := G.1) (ci := 1) (v := .int n0) (ty := .int) (C := RX1) (T := TX1) (N := 13) hx hb hts inG_X1 tyX1 tyX1_ok nmX1 hown hK hP hD hS 2 rfl rfl 2 (by decide) (hts _ fl_X11_274) (fun _ h9 => h9) rfl (by decide +kernel) rfl rfl (Nat.le_of_ble_eq_true rfl) dX11_start_44 (fun H locs hP hD hS => ?_)
          have hP : va_P G.1 vwCl [(a0, .inr (11, [.ref a1, .ref a2, .ref a3, .ref a4, .ref a5, .ref a6, .ref a7, .ref a8, .ref a9, .ref a10, .int 0, .int 0, .int (-1), .ref a11, .int 0, .ref a12, .int 0])), (a12, .inl (G.2 0, 5, .inl (fun _ => 0))), (a1, .inr (1, [.long 0, .int 1000, .int n0, .int (-1), .int 0, .ref a13, .ref a14, .ref a15, .ref a16, .ref a17, .ref a18, .long 0, .ref a19]))] H := hP
          have hD : va_D A [(a0, .inr (11, [.ref a1, .ref a2, .ref a3, .ref a4, .ref a5, .ref a6, .ref a7, .ref a8, .ref a9, .ref a10, .int 0, .int 0, .int (-1), .ref a11, .int 0, .ref a12, .int 0])), (a12, .inl (G.2 0, 5, .inl (fun _ => 0))), (a1, .inr (1, [.long 0, .int 1000, .int n0, .int (-1), .int 0, .ref a13, .ref a14, .ref a15, .ref a16, .ref a17, .ref a18, .long 0, .ref a19]))] := hD
          refine lv_aload_n hx hb dX11_start_47 rfl (lv_at hl 1 rfl) ?_
          refine lv_iload_n hx hb dX11_start_48 rfl (lv_at hl 0 rfl) ?_
          have hPc := hP.sub (ws' := [(a0, .inr (11, [.ref a1, .ref a2, .ref a3, .ref a4, .ref a5, .ref a6, .ref a7, .ref a8, .ref a9, .ref a10, .int 0, .int 0, .int (-1), .ref a11, .int 0, .ref a12, .int 0]))]) [0] rfl
          have hDc := hD.sub (ws' := [(a0, .inr (11, [.ref a1, .ref a2, .ref a3, .ref a4, .ref a5, .ref a6, .ref a7, .ref a8, .ref a9, .ref a10, .int 0, .int 0, .int (-1), .ref a11, .int 0, .ref a12, .int 0]))]) [0] (by decide) rfl
          have hFc := va_free (wc := [(a0, .inr (11, [.ref a1, .ref a2, .ref a3, .ref a4, .ref a5, .ref a6, .ref a7, .ref a8, .ref a9, .ref a10, .int 0, .int 0, .int (-1), .ref a11, .int 0, .ref a12, .int 0]))]) hD hS hA [0] rfl
          refine va_calli (va_runV (As := [.int (-1)]) (rest := []) ⟨hx, hb, hml, hown, hts⟩ (kX11_done_4 l G a0 a1 a2 a3 a4 a5 a6 a7 a8 a9 a10 a11 a12 H.size) (cwV 1 hts gV_X11_121 rfl rfl rfl hv_X11_done ⟨Nat.le_of_ble_eq_true rfl, Nat.le_of_ble_eq_true rfl⟩) (g5_preV hPc hK hDc hN hT hS hFc (ci := 11) (q0 := 0) rfl rfl) rfl rfl hl.1 rfl (lv_room (Nat.le_of_ble_eq_true rfl)) dX11_start_49 ⟨Nat.le_of_ble_eq_true rfl, Nat.le_of_ble_eq_true rfl⟩) hS (fun q _ h => hFc q h) hFc (fun r u t H1 locs ht hvm hw hB hz1 hk1 hS => ?_)
          obtain ⟨hP1, hD1⟩ := hB
          rw [ht] at hP1
          obtain ⟨rfl, rfl⟩ := hw
          obtain ⟨hP, hD⟩ := va_join (wr := [(a12, .inl (G.2 0, 5, .inl (fun _ => 0))), (a1, .inr (1, [.long 0, .int 1000, .int n0, .int (-1), .int 0, .ref a13, .ref a14, .ref a15, .ref a16, .ref a17, .ref a18, .long 0, .ref a19]))]) (w1 := [(a0, .inr (11, [.ref a1, .ref a2, .ref a3, .ref a4, .ref a5, .ref a6, .ref a7, .ref a8, .ref a9, .ref a10, .int 0, .int 0, .int (-1), .ref a11, .int 0, .ref a12, .int 0]))]) hP hD [0] [1, 2] rfl rfl (by decide) (by decide) hk1 hFc hP1 hD1
          generalize H1 = H at hP hS ⊢
          have hP : va_P G.1 vwCl [(a12, .inl (G.2 0, 5, .inl (fun _ => 0))), (a1, .inr (1, [.long 0, .int 1000, .int n0, .int (-1), .int 0, .ref a13, .ref a14, .ref a15, .ref a16, .ref a17, .ref a18, .long 0, .ref a19])), (a0, .inr (11, [.ref a1, .ref a2, .ref a3, .ref a4, .ref a5, .ref a6, .ref a7, .ref a8, .ref a9, .ref a10, .int 0, .int 0, .int (-1), .ref a11, .int 0, .ref a12, .int 0]))] H := hP
          have hD : va_D A [(a12, .inl (G.2 0, 5, .inl (fun _ => 0))), (a1, .inr (1, [.long 0, .int 1000, .int n0, .int (-1), .int 0, .ref a13, .ref a14, .ref a15, .ref a16, .ref a17, .ref a18, .long 0, .ref a19])), (a0, .inr (11, [.ref a1, .ref a2, .ref a3, .ref a4, .ref a5, .ref a6, .ref a7, .ref a8, .ref a9, .ref a10, .int 0, .int 0, .int (-1), .ref a11, .int 0, .ref a12, .int 0]))] := hD
          have hP := hP.sub (ws' := []) [] rfl
          have hD := hD.sub (ws' := []) [] (by decide) rfl
          exact W.iret (v := (-1)) hx hb hr (fun t ht hW => ⟨⟨(-1), [], rfl, Or.inr (Or.inr (Or.inl (⟨i_4, i_5, i_9, rfl, rfl⟩))), by rw [ht]; exact hP, hD⟩, hS.F ht⟩) hS.2.2 dX11_start_52
        ·
          exact absurd c_11 (by decide)
      ·
        obtain ⟨hP, hD⟩ := va_join (wr := [(a0, .inr (11, [.ref a1, .ref a2, .ref a3, .ref a4, .ref a5, .ref a6, .ref a7, .ref a8, .ref a9, .ref a10, .int 0, .int 0, .int (-1), .ref a11, .int 0, .ref a12, .int 0])), (a12, .inl (G.2 0, 5, .inl (fun _ => 0)))]) (w1 := [(a1, .inr (1, [.long 0, .int 1000, .int (-1), .int (-1), .int 0, .ref a13, .ref a14, .ref a15, .ref a16, .ref a17, .ref a18, .long 0, .ref a19]))]) hP hD [2] [0, 1] rfl rfl (by decide) (by decide) hk1 hFc hP1 hD1
        generalize H1 = H at hP hS ⊢
        have hP : va_P G.1 vwCl [(a0, .inr (11, [.ref a1, .ref a2, .ref a3, .ref a4, .ref a5, .ref a6, .ref a7, .ref a8, .ref a9, .ref a10, .int 0, .int 0, .int (-1), .ref a11, .int 0, .ref a12, .int 0])), (a12, .inl (G.2 0, 5, .inl (fun _ => 0))), (a1, .inr (1, [.long 0, .int 1000, .int (-1), .int (-1), .int 0, .ref a13, .ref a14, .ref a15, .ref a16, .ref a17, .ref a18, .long 0, .ref a19]))] H := hP
        have hD : va_D A [(a0, .inr (11, [.ref a1, .ref a2, .ref a3, .ref a4, .ref a5, .ref a6, .ref a7, .ref a8, .ref a9, .ref a10, .int 0, .int 0, .int (-1), .ref a11, .int 0, .ref a12, .int 0])), (a12, .inl (G.2 0, 5, .inl (fun _ => 0))), (a1, .inr (1, [.long 0, .int 1000, .int (-1), .int (-1), .int 0, .ref a13, .ref a14, .ref a15, .ref a16, .ref a17, .ref a18, .long 0, .ref a19]))] := hD
        refine lv_if_eq (tgt := 31) hx hb dX11_start_21 (by decide) (fun c_12 => ?_) (fun c_12 => ?_)
        ·
          refine lv_aload_n hx hb dX11_start_31 rfl (lv_at hl 0 rfl) ?_
          refine va_get (D := G.1) (ci := 11) (v := .ref a1) (C := RX11) (T := TX11) (N := 17) hx hb hts inG_X11 hown hK hP 0 rfl rfl 0 (by decide) (hts _ fl_X11_12) (fun _ h9 => h9) rfl dX11_start_32 ?_
          refine va_get (D := G.1) (ci := 1) (v := .int (-1)) (C := RX1) (T := TX1) (N := 13) hx hb hts inG_X1 hown hK hP 2 rfl rfl 2 (by decide) (hts _ fl_X11_274) (fun _ h9 => h9) rfl dX11_start_35 ?_
          refine lv_istore_n (lv' := [(2, .int (-1)), (0, .ref a0), (1, .int n0)]) hx hb dX11_start_38 rfl hl (by decide) rfl (fun ls hl => ?_)
          refine lv_aload_n hx hb dX11_start_39 rfl (lv_at hl 1 rfl) ?_
          refine va_get (D := G.1) (ci := 11) (v := .ref a1) (C := RX11) (T := TX11) (N := 17) hx hb hts inG_X11 hown hK hP 0 rfl rfl 0 (by decide) (hts _ fl_X11_12) (fun _ h9 => h9) rfl dX11_start_40 ?_
          refine lv_iload_n hx hb dX11_start_43 rfl (lv_at hl 2 rfl) ?_
          refine va_put (D := G.1) (ci := 1) (v := .int n0) (ty := .int) (C := RX1) (T := TX1) (N := 13) hx hb hts inG_X1 tyX1 tyX1_ok nmX1 hown hK hP hD hS 2 rfl rfl 2 (by decide) (hts _ fl_X11_274) (fun _ h9 => h9) rfl (by decide +kernel) rfl rfl (Nat.le_of_ble_eq_true rfl) dX11_start_44 (fun H locs hP hD hS => ?_)
          have hP : va_P G.1 vwCl [(a0, .inr (11, [.ref a1, .ref a2, .ref a3, .ref a4, .ref a5, .ref a6, .ref a7, .ref a8, .ref a9, .ref a10, .int 0, .int 0, .int (-1), .ref a11, .int 0, .ref a12, .int 0])), (a12, .inl (G.2 0, 5, .inl (fun _ => 0))), (a1, .inr (1, [.long 0, .int 1000, .int n0, .int (-1), .int 0, .ref a13, .ref a14, .ref a15, .ref a16, .ref a17, .ref a18, .long 0, .ref a19]))] H := hP
          have hD : va_D A [(a0, .inr (11, [.ref a1, .ref a2, .ref a3, .ref a4, .ref a5, .ref a6, .ref a7, .ref a8, .ref a9, .ref a10, .int 0, .int 0, .int (-1), .ref a11, .int 0, .ref a12, .int 0])), (a12, .inl (G.2 0, 5, .inl (fun _ => 0))), (a1, .inr (1, [.long 0, .int 1000, .int n0, .int (-1), .int 0, .ref a13, .ref a14, .ref a15, .ref a16, .ref a17, .ref a18, .long 0, .ref a19]))] := hD
          refine lv_aload_n hx hb dX11_start_47 rfl (lv_at hl 1 rfl) ?_
          refine lv_iload_n hx hb dX11_start_48 rfl (lv_at hl 0 rfl) ?_
          have hPc := hP.sub (ws' := [(a0, .inr (11, [.ref a1, .ref a2, .ref a3, .ref a4, .ref a5, .ref a6, .ref a7, .ref a8, .ref a9, .ref a10, .int 0, .int 0, .int (-1), .ref a11, .int 0, .ref a12, .int 0]))]) [0] rfl
          have hDc := hD.sub (ws' := [(a0, .inr (11, [.ref a1, .ref a2, .ref a3, .ref a4, .ref a5, .ref a6, .ref a7, .ref a8, .ref a9, .ref a10, .int 0, .int 0, .int (-1), .ref a11, .int 0, .ref a12, .int 0]))]) [0] (by decide) rfl
          have hFc := va_free (wc := [(a0, .inr (11, [.ref a1, .ref a2, .ref a3, .ref a4, .ref a5, .ref a6, .ref a7, .ref a8, .ref a9, .ref a10, .int 0, .int 0, .int (-1), .ref a11, .int 0, .ref a12, .int 0]))]) hD hS hA [0] rfl
          refine va_calli (va_runV (As := [.int (-1)]) (rest := []) ⟨hx, hb, hml, hown, hts⟩ (kX11_done_4 l G a0 a1 a2 a3 a4 a5 a6 a7 a8 a9 a10 a11 a12 H.size) (cwV 1 hts gV_X11_121 rfl rfl rfl hv_X11_done ⟨Nat.le_of_ble_eq_true rfl, Nat.le_of_ble_eq_true rfl⟩) (g5_preV hPc hK hDc hN hT hS hFc (ci := 11) (q0 := 0) rfl rfl) rfl rfl hl.1 rfl (lv_room (Nat.le_of_ble_eq_true rfl)) dX11_start_49 ⟨Nat.le_of_ble_eq_true rfl, Nat.le_of_ble_eq_true rfl⟩) hS (fun q _ h => hFc q h) hFc (fun r u t H1 locs ht hvm hw hB hz1 hk1 hS => ?_)
          obtain ⟨hP1, hD1⟩ := hB
          rw [ht] at hP1
          obtain ⟨rfl, rfl⟩ := hw
          obtain ⟨hP, hD⟩ := va_join (wr := [(a12, .inl (G.2 0, 5, .inl (fun _ => 0))), (a1, .inr (1, [.long 0, .int 1000, .int n0, .int (-1), .int 0, .ref a13, .ref a14, .ref a15, .ref a16, .ref a17, .ref a18, .long 0, .ref a19]))]) (w1 := [(a0, .inr (11, [.ref a1, .ref a2, .ref a3, .ref a4, .ref a5, .ref a6, .ref a7, .ref a8, .ref a9, .ref a10, .int 0, .int 0, .int (-1), .ref a11, .int 0, .ref a12, .int 0]))]) hP hD [0] [1, 2] rfl rfl (by decide) (by decide) hk1 hFc hP1 hD1
          generalize H1 = H at hP hS ⊢
          have hP : va_P G.1 vwCl [(a12, .inl (G.2 0, 5, .inl (fun _ => 0))), (a1, .inr (1, [.long 0, .int 1000, .int n0, .int (-1), .int 0, .ref a13, .ref a14, .ref a15, .ref a16, .ref a17, .ref a18, .long 0, .ref a19])), (a0, .inr (11, [.ref a1, .ref a2, .ref a3, .ref a4, .ref a5, .ref a6, .ref a7, .ref a8, .ref a9, .ref a10, .int 0, .int 0, .int (-1), .ref a11, .int 0, .ref a12, .int 0]))] H := hP
          have hD : va_D A [(a12, .inl (G.2 0, 5, .inl (fun _ => 0))), (a1, .inr (1, [.long 0, .int 1000, .int n0, .int (-1), .int 0, .ref a13, .ref a14, .ref a15, .ref a16, .ref a17, .ref a18, .long 0, .ref a19])), (a0, .inr (11, [.ref a1, .ref a2, .ref a3, .ref a4, .ref a5, .ref a6, .ref a7, .ref a8, .ref a9, .ref a10, .int 0, .int 0, .int (-1), .ref a11, .int 0, .ref a12, .int 0]))] := hD
          have hP := hP.sub (ws' := []) [] rfl
          have hD := hD.sub (ws' := []) [] (by decide) rfl
          exact W.iret (v := (-1)) hx hb hr (fun t ht hW => ⟨⟨(-1), [], rfl, Or.inr (Or.inr (Or.inr (⟨i_4, i_5, i_10, rfl, rfl⟩))), by rw [ht]; exact hP, hD⟩, hS.F ht⟩) hS.2.2 dX11_start_52
        ·
          exact absurd c_12 (by decide)
    ·
      exact absurd c_8 (by decide)
theorem fl_X7_42 : Cond.fieldLink RX7 42 "LateGlass$House" "sightings" "LLateGlass$Table;" ∈ tblG := tg 179 (by decide +kernel) (by decide +kernel)
theorem fl_X7_48 : Cond.fieldLink RX7 48 "LateGlass$Table" "rows" "I" ∈ tblG := tg 137 (by decide +kernel) (by decide +kernel)
theorem dX7_allSightings_0 : decode cX7_allSightings 0 = .ok (.iconst 1, 1) := by decide +kernel
theorem dX7_allSightings_1 : decode cX7_allSightings 1 = .ok (.aload_n 0, 1) := by decide +kernel
theorem dX7_allSightings_2 : decode cX7_allSightings 2 = .ok (.getfield 34, 3) := by decide +kernel
theorem dX7_allSightings_5 : decode cX7_allSightings 5 = .ok (.getfield 42, 3) := by decide +kernel
theorem dX7_allSightings_8 : decode cX7_allSightings 8 = .ok (.getfield 48, 3) := by decide +kernel
theorem dX7_allSightings_11 : decode cX7_allSightings 11 = .ok (.ishl, 1) := by decide +kernel
theorem dX7_allSightings_12 : decode cX7_allSightings 12 = .ok (.iconst 1, 1) := by decide +kernel
theorem dX7_allSightings_13 : decode cX7_allSightings 13 = .ok (.isub, 1) := by decide +kernel
theorem dX7_allSightings_14 : decode cX7_allSightings 14 = .ok (.ireturn, 1) := by decide +kernel
set_option maxHeartbeats 4000000 in
set_option maxRecDepth 100000 in
theorem kX7_allSightings (l : Launch) (G : g5_G) (a0 a1 a2 a3 a4 a5 a6 a7 a8 a9 a10 a11 a12 a13 a14 a15 a16 a17 : Nat) (sz : Nat) : Met l yX7_allSightings (wsG yX7_allSightings cX7_allSightings 1 (some .int)) ({ frames := 0, cells := 0, slots := 0, locals := 0 }) (va_Pc [.ref a0] (g5_P G [(a0, .inr (7, [.ref a1, .ref a2, .ref a3, .ref a4, .int 0, .ref a5, .ref a6, .ref a7, .ref a8, .ref a9])), (a1, .inr (1, [.long 0, .int 1000, .int (-1), .int (-1), .int 0, .ref a10, .ref a11, .ref a12, .ref a13, .ref a14, .ref a15, .long 0, .ref a16])), (a13, .inr (6, [.int 10, .int 4, .ref a17, .int 0]))] sz)) (va_Qi (fun (r : Int32) (u : va_W) => ((r = 0) ∧ (u = [(a0, .inr (7, [.ref a1, .ref a2, .ref a3, .ref a4, .int 0, .ref a5, .ref a6, .ref a7, .ref a8, .ref a9])), (a1, .inr (1, [.long 0, .int 1000, .int (-1), .int (-1), .int 0, .ref a10, .ref a11, .ref a12, .ref a13, .ref a14, .ref a15, .long 0, .ref a16])), (a13, .inr (6, [.int 10, .int 4, .ref a17, .int 0]))]))) (g5_B G (va_A [(a0, .inr (7, [.ref a1, .ref a2, .ref a3, .ref a4, .int 0, .ref a5, .ref a6, .ref a7, .ref a8, .ref a9])), (a1, .inr (1, [.long 0, .int 1000, .int (-1), .int (-1), .int 0, .ref a10, .ref a11, .ref a12, .ref a13, .ref a14, .ref a15, .long 0, .ref a16])), (a13, .inr (6, [.int 10, .int 4, .ref a17, .int 0]))] sz)) (va_A [(a0, .inr (7, [.ref a1, .ref a2, .ref a3, .ref a4, .int 0, .ref a5, .ref a6, .ref a7, .ref a8, .ref a9])), (a1, .inr (1, [.long 0, .int 1000, .int (-1), .int (-1), .int 0, .ref a10, .ref a11, .ref a12, .ref a13, .ref a14, .ref a15, .long 0, .ref a16])), (a13, .inr (6, [.int 10, .int 4, .ref a17, .int 0]))] sz)) 0 0 (va_A [(a0, .inr (7, [.ref a1, .ref a2, .ref a3, .ref a4, .int 0, .ref a5, .ref a6, .ref a7, .ref a8, .ref a9])), (a1, .inr (1, [.long 0, .int 1000, .int (-1), .int (-1), .int 0, .ref a10, .ref a11, .ref a12, .ref a13, .ref a14, .ref a15, .long 0, .ref a16])), (a13, .inr (6, [.int 10, .int 4, .ref a17, .int 0]))] sz) := by
  refine Met.ofW (cc := cX7_allSightings) (maxL := 1) (ret := (some .int)) (by decide) rfl ?_
  intro p e s m args below meth c s₁ B hml hv
  obtain ⟨rfl, hsz, hP, hK, hD0, hN, hT⟩ := hv
  have hx := B.exec
  have hb := B.bytes
  have hr := B.returns
  have hts : ∀ w ∈ tblG, w.before _ s = true := fun w h => atoms_spec (ws := (wsG yX7_allSightings cX7_allSightings 1 (some .int))) B.pre w (List.mem_cons_of_mem _ h)
  have hown : s.vm.findClass RX7 = some m.cls := findClass_of_methodNamed B.named
  have hlocks := B.notSynchronized
  subst hsz
  have hD := hD0.self (sz := s.heap.size)
  generalize hAe : va_A [(a0, .inr (7, [.ref a1, .ref a2, .ref a3, .ref a4, .int 0, .ref a5, .ref a6, .ref a7, .ref a8, .ref a9])), (a1, .inr (1, [.long 0, .int 1000, .int (-1), .int (-1), .int 0, .ref a10, .ref a11, .ref a12, .ref a13, .ref a14, .ref a15, .long 0, .ref a16])), (a13, .inr (6, [.int 10, .int 4, .ref a17, .int 0]))] s.heap.size = A at hD hT ⊢
  have hA : ∀ q : Nat, s.heap.size ≤ q → A q := fun q h => by rw [← hAe]; exact Or.inr h
  have hS : va_S A s.heap s.heap [] := va_S.rf
  have hP : va_P G.1 vwCl [(a0, .inr (7, [.ref a1, .ref a2, .ref a3, .ref a4, .int 0, .ref a5, .ref a6, .ref a7, .ref a8, .ref a9])), (a1, .inr (1, [.long 0, .int 1000, .int (-1), .int (-1), .int 0, .ref a10, .ref a11, .ref a12, .ref a13, .ref a14, .ref a15, .long 0, .ref a16])), (a13, .inr (6, [.int 10, .int 4, .ref a17, .int 0]))] s.heap := hP
  have hl := lv_entry ([.ref a0]) (n := 1) (Nat.le_of_ble_eq_true rfl)
  rw [lg_entry_eq]
  generalize (lg_sl ([.ref a0]) ++ List.replicate (1 - (lg_sl ([.ref a0])).length) Slot.unset).toArray = ls at hl ⊢
  have hl : lv_has ls 1 [(0, .ref a0)] := hl
  refine lv_iconst (v := 1) hx hb dX7_allSightings_0 (by decide) ?_
  refine lv_aload_n hx hb dX7_allSightings_1 rfl (lv_at hl 0 rfl) ?_
  refine va_get (D := G.1) (ci := 7) (v := .ref a1) (C := RX7) (T := TX7) (N := 10) hx hb hts inG_X7 hown hK hP 0 rfl rfl 0 (by decide) (hts _ fl_X7_34) (fun _ h9 => h9) rfl dX7_allSightings_2 ?_
  refine va_get (D := G.1) (ci := 1) (v := .ref a13) (C := RX1) (T := TX1) (N := 13) hx hb hts inG_X1 hown hK hP 1 rfl rfl 8 (by decide) (hts _ fl_X7_42) (fun _ h9 => h9) rfl dX7_allSightings_5 ?_
  refine va_get (D := G.1) (ci := 6) (v := .int 0) (C := RX6) (T := TX6) (N := 4) hx hb hts inG_X6 hown hK hP 2 rfl rfl 3 (by decide) (hts _ fl_X7_48) (fun _ h9 => h9) rfl dX7_allSightings_8 ?_
  refine lv_ishl hx hb dX7_allSightings_11 ?_
  refine g5_ti (v := 1) (by decide) ?_
  refine lv_iconst (v := 1) hx hb dX7_allSightings_12 (by decide) ?_
  refine lv_isub hx hb dX7_allSightings_13 ?_
  refine g5_ti (v := 0) (by decide) ?_
  exact W.iret (v := 0) hx hb hr (fun t ht hW => ⟨⟨0, [(a0, .inr (7, [.ref a1, .ref a2, .ref a3, .ref a4, .int 0, .ref a5, .ref a6, .ref a7, .ref a8, .ref a9])), (a1, .inr (1, [.long 0, .int 1000, .int (-1), .int (-1), .int 0, .ref a10, .ref a11, .ref a12, .ref a13, .ref a14, .ref a15, .long 0, .ref a16])), (a13, .inr (6, [.int 10, .int 4, .ref a17, .int 0]))], rfl, ⟨rfl, rfl⟩, by rw [ht]; exact hP, hD⟩, hS.F ht⟩) hS.2.2 dX7_allSightings_14
theorem ml_X11_277 : Cond.methodLink RX11 277 yX7_allSightings ∈ tblG := tg 955 (by decide +kernel) (by decide +kernel)
theorem im_X7_allSightings : Cond.instanceMethod yX7_allSightings ∈ tblG := tg 956 (by decide +kernel) (by decide +kernel)
theorem se_X7_allSightings : Cond.selects RX7 yX7_allSightings yX7_allSightings ∈ tblG := tg 957 (by decide +kernel) (by decide +kernel)
theorem cd_X7_allSightings : Cond.code yX7_allSightings cX7_allSightings 1 (some .int) ∈ tblG := tg 958 (by decide +kernel) (by decide +kernel)
theorem gW_X7_allSightings : GoodIn tblG (wsG yX7_allSightings cX7_allSightings 1 (some .int)) := tgi cd_X7_allSightings
theorem gV_X11_277 : GoodIn tblG (wsV RX11 277 RX7 yX7_allSightings (wsG yX7_allSightings cX7_allSightings 1 (some .int))) := tgV ml_X11_277 im_X7_allSightings se_X7_allSightings ini_X7 gW_X7_allSightings
theorem hv_X7_allSightings : yX7_allSightings.cls = RX7 ∧ yX7_allSightings.cls ≠ "java/lang/invoke/MethodHandle" ∧ yX7_allSightings.cls ≠ "java/lang/invoke/VarHandle" ∧ (parseMethodDescriptor yX7_allSightings.desc).map (fun d => d.parameters.length) = some 0 := by decide +kernel
theorem fl_X7_54 : Cond.fieldLink RX7 54 "LateGlass$House" "walls" "J" ∈ tblG := tg 156 (by decide +kernel) (by decide +kernel)
theorem ml_X7_64 : Cond.methodLink RX7 64 yJ7_fill_53178 ∈ tblG := tg 964 (by decide +kernel) (by decide +kernel)
theorem st_J7_fill_53178 : Cond.static yJ7_fill_53178 ∈ tblG := tg 965 (by decide +kernel) (by decide +kernel)
theorem cd_J7_fill_53178 : Cond.code yJ7_fill_53178 cJ7_fill_53178 4 none ∈ tblG := tg 966 (by decide +kernel) (by decide +kernel)
theorem gW_J7_fill_53178 : GoodIn tblG (wsG yJ7_fill_53178 cJ7_fill_53178 4 none) := tgi cd_J7_fill_53178
theorem gS_X7_64 : GoodIn tblG (va_wsS RX7 64 yJ7_fill_53178 (wsG yJ7_fill_53178 cJ7_fill_53178 4 none)) := tgS ml_X7_64 st_J7_fill_53178 ini_J7 gW_J7_fill_53178
theorem hs_J7_fill_53178 : yJ7_fill_53178.cls ≠ "java/lang/invoke/MethodHandle" ∧ yJ7_fill_53178.cls ≠ "java/lang/invoke/VarHandle" ∧ (parseMethodDescriptor yJ7_fill_53178.desc).map (fun d => d.parameters.length) = some 2 := by decide +kernel
theorem fl_X7_67 : Cond.fieldLink RX7 67 "LateGlass$House" "start" "I" ∈ tblG := tg 162 (by decide +kernel) (by decide +kernel)
theorem dX7_load_0 : decode cX7_load 0 = .ok (.aload_n 0, 1) := by decide +kernel
theorem dX7_load_1 : decode cX7_load 1 = .ok (.getfield 9, 3) := by decide +kernel
theorem dX7_load_4 : decode cX7_load 4 = .ok (.aload_n 0, 1) := by decide +kernel
theorem dX7_load_5 : decode cX7_load 5 = .ok (.getfield 34, 3) := by decide +kernel
theorem dX7_load_8 : decode cX7_load 8 = .ok (.getfield 54, 3) := by decide +kernel
theorem dX7_load_11 : decode cX7_load 11 = .ok (.invokestatic 58, 3) := by decide +kernel
theorem dX7_load_14 : decode cX7_load 14 = .ok (.aload_n 0, 1) := by decide +kernel
theorem dX7_load_15 : decode cX7_load 15 = .ok (.getfield 15, 3) := by decide +kernel
theorem dX7_load_18 : decode cX7_load 18 = .ok (.iconst 0, 1) := by decide +kernel
theorem dX7_load_19 : decode cX7_load 19 = .ok (.invokestatic 64, 3) := by decide +kernel
theorem dX7_load_22 : decode cX7_load 22 = .ok (.aload_n 0, 1) := by decide +kernel
theorem dX7_load_23 : decode cX7_load 23 = .ok (.getfield 34, 3) := by decide +kernel
theorem dX7_load_26 : decode cX7_load 26 = .ok (.getfield 67, 3) := by decide +kernel
theorem dX7_load_29 : decode cX7_load 29 = .ok (.iconst (-1), 1) := by decide +kernel
theorem dX7_load_30 : decode cX7_load 30 = .ok (.if_icmp .eq 25, 3) := by decide +kernel
theorem dX7_load_33 : decode cX7_load 33 = .ok (.aload_n 0, 1) := by decide +kernel
theorem dX7_load_34 : decode cX7_load 34 = .ok (.getfield 9, 3) := by decide +kernel
theorem dX7_load_37 : decode cX7_load 37 = .ok (.iconst 0, 1) := by decide +kernel
theorem dX7_load_38 : decode cX7_load 38 = .ok (.dup2, 1) := by decide +kernel
theorem dX7_load_39 : decode cX7_load 39 = .ok (.laload, 1) := by decide +kernel
theorem dX7_load_40 : decode cX7_load 40 = .ok (.lconst 1, 1) := by decide +kernel
theorem dX7_load_41 : decode cX7_load 41 = .ok (.aload_n 0, 1) := by decide +kernel
theorem dX7_load_42 : decode cX7_load 42 = .ok (.getfield 34, 3) := by decide +kernel
theorem dX7_load_45 : decode cX7_load 45 = .ok (.getfield 67, 3) := by decide +kernel
theorem dX7_load_48 : decode cX7_load 48 = .ok (.lshl, 1) := by decide +kernel
theorem dX7_load_49 : decode cX7_load 49 = .ok (.ldc2_w 70, 3) := by decide +kernel
theorem dX7_load_52 : decode cX7_load 52 = .ok (.lxor, 1) := by decide +kernel
theorem dX7_load_53 : decode cX7_load 53 = .ok (.lor, 1) := by decide +kernel
theorem dX7_load_54 : decode cX7_load 54 = .ok (.lastore, 1) := by decide +kernel
theorem dX7_load_55 : decode cX7_load 55 = .ok (.iconst 1, 1) := by decide +kernel
theorem dX7_load_56 : decode cX7_load 56 = .ok (.istore_n 2, 1) := by decide +kernel
theorem dX7_load_57 : decode cX7_load 57 = .ok (.aload_n 0, 1) := by decide +kernel
theorem dX7_load_58 : decode cX7_load 58 = .ok (.getfield 34, 3) := by decide +kernel
theorem dX7_load_61 : decode cX7_load 61 = .ok (.getfield 42, 3) := by decide +kernel
theorem dX7_load_64 : decode cX7_load 64 = .ok (.astore_n 3, 1) := by decide +kernel
theorem dX7_load_65 : decode cX7_load 65 = .ok (.iconst 0, 1) := by decide +kernel
theorem dX7_load_66 : decode cX7_load 66 = .ok (.istore 4, 2) := by decide +kernel
theorem dX7_load_68 : decode cX7_load 68 = .ok (.iload 4, 2) := by decide +kernel
theorem dX7_load_70 : decode cX7_load 70 = .ok (.aload_n 3, 1) := by decide +kernel
theorem dX7_load_71 : decode cX7_load 71 = .ok (.getfield 48, 3) := by decide +kernel
theorem dX7_load_74 : decode cX7_load 74 = .ok (.if_icmp .ge 74, 3) := by decide +kernel
theorem dX7_load_77 : decode cX7_load 77 = .ok (.iload_n 1, 1) := by decide +kernel
theorem dX7_load_78 : decode cX7_load 78 = .ok (.iload 4, 2) := by decide +kernel
theorem dX7_load_80 : decode cX7_load 80 = .ok (.ishr, 1) := by decide +kernel
theorem dX7_load_81 : decode cX7_load 81 = .ok (.iconst 1, 1) := by decide +kernel
theorem dX7_load_82 : decode cX7_load 82 = .ok (.iand, 1) := by decide +kernel
theorem dX7_load_83 : decode cX7_load 83 = .ok (.ifCond .eq 59, 3) := by decide +kernel
theorem dX7_load_86 : decode cX7_load 86 = .ok (.aload_n 0, 1) := by decide +kernel
theorem dX7_load_87 : decode cX7_load 87 = .ok (.getfield 38, 3) := by decide +kernel
theorem dX7_load_90 : decode cX7_load 90 = .ok (.aload_n 3, 1) := by decide +kernel
theorem dX7_load_91 : decode cX7_load 91 = .ok (.iload 4, 2) := by decide +kernel
theorem dX7_load_93 : decode cX7_load 93 = .ok (.iconst 0, 1) := by decide +kernel
theorem dX7_load_94 : decode cX7_load 94 = .ok (.invokevirtual 72, 3) := by decide +kernel
theorem dX7_load_97 : decode cX7_load 97 = .ok (.aload_n 3, 1) := by decide +kernel
theorem dX7_load_98 : decode cX7_load 98 = .ok (.iload 4, 2) := by decide +kernel
theorem dX7_load_100 : decode cX7_load 100 = .ok (.iconst 1, 1) := by decide +kernel
theorem dX7_load_101 : decode cX7_load 101 = .ok (.invokevirtual 72, 3) := by decide +kernel
theorem dX7_load_104 : decode cX7_load 104 = .ok (.aload_n 3, 1) := by decide +kernel
theorem dX7_load_105 : decode cX7_load 105 = .ok (.iload 4, 2) := by decide +kernel
theorem dX7_load_107 : decode cX7_load 107 = .ok (.iconst 2, 1) := by decide +kernel
theorem dX7_load_108 : decode cX7_load 108 = .ok (.invokevirtual 72, 3) := by decide +kernel
theorem dX7_load_111 : decode cX7_load 111 = .ok (.iconst 0, 1) := by decide +kernel
theorem dX7_load_112 : decode cX7_load 112 = .ok (.invokevirtual 76, 3) := by decide +kernel
theorem dX7_load_115 : decode cX7_load 115 = .ok (.aload_n 3, 1) := by decide +kernel
theorem dX7_load_116 : decode cX7_load 116 = .ok (.iload 4, 2) := by decide +kernel
theorem dX7_load_118 : decode cX7_load 118 = .ok (.iconst 3, 1) := by decide +kernel
theorem dX7_load_119 : decode cX7_load 119 = .ok (.invokevirtual 72, 3) := by decide +kernel
theorem dX7_load_122 : decode cX7_load 122 = .ok (.iconst 1, 1) := by decide +kernel
theorem dX7_load_123 : decode cX7_load 123 = .ok (.if_icmp .ne 15, 3) := by decide +kernel
theorem dX7_load_126 : decode cX7_load 126 = .ok (.aload_n 0, 1) := by decide +kernel
theorem dX7_load_127 : decode cX7_load 127 = .ok (.iload_n 2, 1) := by decide +kernel
theorem dX7_load_128 : decode cX7_load 128 = .ok (.invokevirtual 82, 3) := by decide +kernel
theorem dX7_load_131 : decode cX7_load 131 = .ok (.iload_n 2, 1) := by decide +kernel
theorem dX7_load_132 : decode cX7_load 132 = .ok (.iconst 1, 1) := by decide +kernel
theorem dX7_load_133 : decode cX7_load 133 = .ok (.ishl, 1) := by decide +kernel
theorem dX7_load_134 : decode cX7_load 134 = .ok (.istore_n 2, 1) := by decide +kernel
theorem dX7_load_135 : decode cX7_load 135 = .ok (.goto 7, 3) := by decide +kernel
theorem dX7_load_138 : decode cX7_load 138 = .ok (.aload_n 0, 1) := by decide +kernel
theorem dX7_load_139 : decode cX7_load 139 = .ok (.invokevirtual 86, 3) := by decide +kernel
theorem dX7_load_142 : decode cX7_load 142 = .ok (.iinc 4 1, 3) := by decide +kernel
theorem dX7_load_145 : decode cX7_load 145 = .ok (.goto (-77), 3) := by decide +kernel
theorem dX7_load_148 : decode cX7_load 148 = .ok (.aload_n 0, 1) := by decide +kernel
theorem dX7_load_149 : decode cX7_load 149 = .ok (.iload_n 2, 1) := by decide +kernel
theorem dX7_load_150 : decode cX7_load 150 = .ok (.iconst 1, 1) := by decide +kernel
theorem dX7_load_151 : decode cX7_load 151 = .ok (.isub, 1) := by decide +kernel
theorem dX7_load_152 : decode cX7_load 152 = .ok (.putfield 89, 3) := by decide +kernel
theorem dX7_load_155 : decode cX7_load 155 = .ok (.return_, 1) := by decide +kernel
set_option maxHeartbeats 4000000 in
set_option maxRecDepth 100000 in
theorem kX7_load (l : Launch) (G : g5_G) (a0 a1 a2 a3 a4 a5 a6 a7 a8 a9 a10 a11 a12 a13 a14 a15 a16 a17 : Nat) (sz : Nat) : Met l yX7_load (wsG yX7_load cX7_load 5 none) ({ frames := 1, cells := 0, slots := 0, locals := 24 }) (va_Pc [.ref a0, .int 0] (g5_P G [(a0, .inr (7, [.ref a1, .ref a2, .ref a3, .ref a4, .int 0, .ref a5, .ref a6, .ref a7, .ref a8, .ref a9])), (a1, .inr (1, [.long 0, .int 1000, .int (-1), .int (-1), .int 0, .ref a10, .ref a11, .ref a12, .ref a13, .ref a14, .ref a15, .long 0, .ref a16])), (a3, .inl (G.2 1, 24, .inr (.inl (fun _ => 0)))), (a4, .inl (G.2 0, 1536, .inl (fun _ => 0))), (a13, .inr (6, [.int 10, .int 4, .ref a17, .int 0]))] sz)) (va_Qv (fun (u : va_W) => ((u = [(a0, .inr (7, [.ref a1, .ref a2, .ref a3, .ref a4, .int 0, .ref a5, .ref a6, .ref a7, .ref a8, .ref a9])), (a1, .inr (1, [.long 0, .int 1000, .int (-1), .int (-1), .int 0, .ref a10, .ref a11, .ref a12, .ref a13, .ref a14, .ref a15, .long 0, .ref a16])), (a13, .inr (6, [.int 10, .int 4, .ref a17, .int 0])), (a3, .inl (G.2 1, 24, .inr (.inl (fun _ => 0)))), (a4, .inl (G.2 0, 1536, .inl (fun _ => 0)))]))) (g5_B G (va_A [(a0, .inr (7, [.ref a1, .ref a2, .ref a3, .ref a4, .int 0, .ref a5, .ref a6, .ref a7, .ref a8, .ref a9])), (a1, .inr (1, [.long 0, .int 1000, .int (-1), .int (-1), .int 0, .ref a10, .ref a11, .ref a12, .ref a13, .ref a14, .ref a15, .long 0, .ref a16])), (a3, .inl (G.2 1, 24, .inr (.inl (fun _ => 0)))), (a4, .inl (G.2 0, 1536, .inl (fun _ => 0))), (a13, .inr (6, [.int 10, .int 4, .ref a17, .int 0]))] sz)) (va_A [(a0, .inr (7, [.ref a1, .ref a2, .ref a3, .ref a4, .int 0, .ref a5, .ref a6, .ref a7, .ref a8, .ref a9])), (a1, .inr (1, [.long 0, .int 1000, .int (-1), .int (-1), .int 0, .ref a10, .ref a11, .ref a12, .ref a13, .ref a14, .ref a15, .long 0, .ref a16])), (a3, .inl (G.2 1, 24, .inr (.inl (fun _ => 0)))), (a4, .inl (G.2 0, 1536, .inl (fun _ => 0))), (a13, .inr (6, [.int 10, .int 4, .ref a17, .int 0]))] sz)) 0 0 (va_A [(a0, .inr (7, [.ref a1, .ref a2, .ref a3, .ref a4, .int 0, .ref a5, .ref a6, .ref a7, .ref a8, .ref a9])), (a1, .inr (1, [.long 0, .int 1000, .int (-1), .int (-1), .int 0, .ref a10, .ref a11, .ref a12, .ref a13, .ref a14, .ref a15, .long 0, .ref a16])), (a3, .inl (G.2 1, 24, .inr (.inl (fun _ => 0)))), (a4, .inl (G.2 0, 1536, .inl (fun _ => 0))), (a13, .inr (6, [.int 10, .int 4, .ref a17, .int 0]))] sz) := by
  refine Met.ofW (cc := cX7_load) (maxL := 5) (ret := none) (by decide) rfl ?_
  intro p e s m args below meth c s₁ B hml hv
  obtain ⟨rfl, hsz, hP, hK, hD0, hN, hT⟩ := hv
  have hx := B.exec
  have hb := B.bytes
  have hr := B.returns
  have hts : ∀ w ∈ tblG, w.before _ s = true := fun w h => atoms_spec (ws := (wsG yX7_load cX7_load 5 none)) B.pre w (List.mem_cons_of_mem _ h)
  have hown : s.vm.findClass RX7 = some m.cls := findClass_of_methodNamed B.named
  have hlocks := B.notSynchronized
  subst hsz
  have hD := hD0.self (sz := s.heap.size)
  generalize hAe : va_A [(a0, .inr (7, [.ref a1, .ref a2, .ref a3, .ref a4, .int 0, .ref a5, .ref a6, .ref a7, .ref a8, .ref a9])), (a1, .inr (1, [.long 0, .int 1000, .int (-1), .int (-1), .int 0, .ref a10, .ref a11, .ref a12, .ref a13, .ref a14, .ref a15, .long 0, .ref a16])), (a3, .inl (G.2 1, 24, .inr (.inl (fun _ => 0)))), (a4, .inl (G.2 0, 1536, .inl (fun _ => 0))), (a13, .inr (6, [.int 10, .int 4, .ref a17, .int 0]))] s.heap.size = A at hD hT ⊢
  have hA : ∀ q : Nat, s.heap.size ≤ q → A q := fun q h => by rw [← hAe]; exact Or.inr h
  have hS : va_S A s.heap s.heap [] := va_S.rf
  have hP : va_P G.1 vwCl [(a0, .inr (7, [.ref a1, .ref a2, .ref a3, .ref a4, .int 0, .ref a5, .ref a6, .ref a7, .ref a8, .ref a9])), (a1, .inr (1, [.long 0, .int 1000, .int (-1), .int (-1), .int 0, .ref a10, .ref a11, .ref a12, .ref a13, .ref a14, .ref a15, .long 0, .ref a16])), (a3, .inl (G.2 1, 24, .inr (.inl (fun _ => 0)))), (a4, .inl (G.2 0, 1536, .inl (fun _ => 0))), (a13, .inr (6, [.int 10, .int 4, .ref a17, .int 0]))] s.heap := hP
  have hl := lv_entry ([.ref a0, .int 0]) (n := 5) (Nat.le_of_ble_eq_true rfl)
  rw [lg_entry_eq]
  generalize (lg_sl ([.ref a0, .int 0]) ++ List.replicate (5 - (lg_sl ([.ref a0, .int 0])).length) Slot.unset).toArray = ls at hl ⊢
  have hl : lv_has ls 5 [(0, .ref a0), (1, .int 0)] := hl
  refine lv_aload_n hx hb dX7_load_0 rfl (lv_at hl 0 rfl) ?_
  refine va_get (D := G.1) (ci := 7) (v := .ref a3) (C := RX7) (T := TX7) (N := 10) hx hb hts inG_X7 hown hK hP 0 rfl rfl 2 (by decide) (hts _ fl_X7_9) (fun _ h9 => h9) rfl dX7_load_1 ?_
  refine lv_aload_n hx hb dX7_load_4 rfl (lv_at hl 0 rfl) ?_
  refine va_get (D := G.1) (ci := 7) (v := .ref a1) (C := RX7) (T := TX7) (N := 10) hx hb hts inG_X7 hown hK hP 0 rfl rfl 0 (by decide) (hts _ fl_X7_34) (fun _ h9 => h9) rfl dX7_load_5 ?_
  refine va_get (D := G.1) (ci := 1) (v := .long 0) (C := RX1) (T := TX1) (N := 13) hx hb hts inG_X1 hown hK hP 1 rfl rfl 0 (by decide) (hts _ fl_X7_54) (fun _ h9 => h9) rfl dX7_load_8 ?_
  have hPc := hP.sub (ws' := [(a3, .inl (G.2 1, 24, .inr (.inl (fun _ => 0))))]) [2] rfl
  have hDc := hD.sub (ws' := [(a3, .inl (G.2 1, 24, .inr (.inl (fun _ => 0))))]) [2] (by decide) rfl
  have hFc := va_free (wc := [(a3, .inl (G.2 1, 24, .inr (.inl (fun _ => 0))))]) hD hS hA [2] rfl
  refine va_callv (va_runS (As := [.ref a3, .long 0]) (rest := []) ⟨hx, hb, hml, hown, hts⟩ (k_fillJ24 l G a3 s.heap.size (fun _ => 0)) (va_cwS 2 hts gS_X7_58 rfl rfl rfl hs_J7_fill_d0a16 ⟨Nat.le_of_ble_eq_true rfl, Nat.le_of_ble_eq_true rfl⟩) (g5_preS hPc hK hDc hN hT hS hFc) rfl rfl hl.1 rfl (lv_room (Nat.le_of_ble_eq_true rfl)) dX7_load_11 ⟨Nat.le_of_ble_eq_true rfl, Nat.le_of_ble_eq_true rfl⟩) hS (fun q _ h => hFc q h) hFc (fun u t H1 locs ht hvm hw hB hz1 hk1 hS => ?_)
  obtain ⟨hP1, hD1⟩ := hB
  rw [ht] at hP1
  obtain rfl := hw
  obtain ⟨hP, hD⟩ := va_join (wr := [(a0, .inr (7, [.ref a1, .ref a2, .ref a3, .ref a4, .int 0, .ref a5, .ref a6, .ref a7, .ref a8, .ref a9])), (a1, .inr (1, [.long 0, .int 1000, .int (-1), .int (-1), .int 0, .ref a10, .ref a11, .ref a12, .ref a13, .ref a14, .ref a15, .long 0, .ref a16])), (a4, .inl (G.2 0, 1536, .inl (fun _ => 0))), (a13, .inr (6, [.int 10, .int 4, .ref a17, .int 0]))]) (w1 := [(a3, .inl (G.2 1, 24, .inr (.inl (fun _ => 0))))]) hP hD [2] [0, 1, 3, 4] rfl rfl (by decide) (by decide) hk1 hFc hP1 hD1
  generalize H1 = H at hP hS ⊢
  have hP : va_P G.1 vwCl [(a0, .inr (7, [.ref a1, .ref a2, .ref a3, .ref a4, .int 0, .ref a5, .ref a6, .ref a7, .ref a8, .ref a9])), (a1, .inr (1, [.long 0, .int 1000, .int (-1), .int (-1), .int 0, .ref a10, .ref a11, .ref a12, .ref a13, .ref a14, .ref a15, .long 0, .ref a16])), (a4, .inl (G.2 0, 1536, .inl (fun _ => 0))), (a13, .inr (6, [.int 10, .int 4, .ref a17, .int 0])), (a3, .inl (G.2 1, 24, .inr (.inl (fun _ => 0))))] H := hP
  have hD : va_D A [(a0, .inr (7, [.ref a1, .ref a2, .ref a3, .ref a4, .int 0, .ref a5, .ref a6, .ref a7, .ref a8, .ref a9])), (a1, .inr (1, [.long 0, .int 1000, .int (-1), .int (-1), .int 0, .ref a10, .ref a11, .ref a12, .ref a13, .ref a14, .ref a15, .long 0, .ref a16])), (a4, .inl (G.2 0, 1536, .inl (fun _ => 0))), (a13, .inr (6, [.int 10, .int 4, .ref a17, .int 0])), (a3, .inl (G.2 1, 24, .inr (.inl (fun _ => 0))))] := hD
  refine lv_aload_n hx hb dX7_load_14 rfl (lv_at hl 0 rfl) ?_
  refine va_get (D := G.1) (ci := 7) (v := .ref a4) (C := RX7) (T := TX7) (N := 10) hx hb hts inG_X7 hown hK hP 0 rfl rfl 3 (by decide) (hts _ fl_X7_15) (fun _ h9 => h9) rfl dX7_load_15 ?_
  refine lv_iconst (v := 0) hx hb dX7_load_18 (by decide) ?_
  have hPc := hP.sub (ws' := [(a4, .inl (G.2 0, 1536, .inl (fun _ => 0)))]) [2] rfl
  have hDc := hD.sub (ws' := [(a4, .inl (G.2 0, 1536, .inl (fun _ => 0)))]) [2] (by decide) rfl
  have hFc := va_free (wc := [(a4, .inl (G.2 0, 1536, .inl (fun _ => 0)))]) hD hS hA [2] rfl
  refine va_callv (va_runS (As := [.ref a4, .int 0]) (rest := []) ⟨hx, hb, hml, hown, hts⟩ (k_fillI1536 l G a4 H.size (fun _ => 0)) (va_cwS 2 hts gS_X7_64 rfl rfl rfl hs_J7_fill_53178 ⟨Nat.le_of_ble_eq_true rfl, Nat.le_of_ble_eq_true rfl⟩) (g5_preS hPc hK hDc hN hT hS hFc) rfl rfl hl.1 rfl (lv_room (Nat.le_of_ble_eq_true rfl)) dX7_load_19 ⟨Nat.le_of_ble_eq_true rfl, Nat.le_of_ble_eq_true rfl⟩) hS (fun q _ h => hFc q h) hFc (fun u t H1 locs ht hvm hw hB hz1 hk1 hS => ?_)
  obtain ⟨hP1, hD1⟩ := hB
  rw [ht] at hP1
  obtain rfl := hw
  obtain ⟨hP, hD⟩ := va_join (wr := [(a0, .inr (7, [.ref a1, .ref a2, .ref a3, .ref a4, .int 0, .ref a5, .ref a6, .ref a7, .ref a8, .ref a9])), (a1, .inr (1, [.long 0, .int 1000, .int (-1), .int (-1), .int 0, .ref a10, .ref a11, .ref a12, .ref a13, .ref a14, .ref a15, .long 0, .ref a16])), (a13, .inr (6, [.int 10, .int 4, .ref a17, .int 0])), (a3, .inl (G.2 1, 24, .inr (.inl (fun _ => 0))))]) (w1 := [(a4, .inl (G.2 0, 1536, .inl (fun _ => 0)))]) hP hD [2] [0, 1, 3, 4] rfl rfl (by decide) (by decide) hk1 hFc hP1 hD1
  generalize H1 = H at hP hS ⊢
  have hP : va_P G.1 vwCl [(a0, .inr (7, [.ref a1, .ref a2, .ref a3, .ref a4, .int 0, .ref a5, .ref a6, .ref a7, .ref a8, .ref a9])), (a1, .inr (1, [.long 0, .int 1000, .int (-1), .int (-1), .int 0, .ref a10, .ref a11, .ref a12, .ref a13, .ref a14, .ref a15, .long 0, .ref a16])), (a13, .inr (6, [.int 10, .int 4, .ref a17, .int 0])), (a3, .inl (G.2 1, 24, .inr (.inl (fun _ => 0)))), (a4, .inl (G.2 0, 1536, .inl (fun _ => 0)))] H := hP
  have hD : va_D A [(a0, .inr (7, [.ref a1, .ref a2, .ref a3, .ref a4, .int 0, .ref a5, .ref a6, .ref a7, .ref a8, .ref a9])), (a1, .inr (1, [.long 0, .int 1000, .int (-1), .int (-1), .int 0, .ref a10, .ref a11, .ref a12, .ref a13, .ref a14, .ref a15, .long 0, .ref a16])), (a13, .inr (6, [.int 10, .int 4, .ref a17, .int 0])), (a3, .inl (G.2 1, 24, .inr (.inl (fun _ => 0)))), (a4, .inl (G.2 0, 1536, .inl (fun _ => 0)))] := hD
  refine lv_aload_n hx hb dX7_load_22 rfl (lv_at hl 0 rfl) ?_
  refine va_get (D := G.1) (ci := 7) (v := .ref a1) (C := RX7) (T := TX7) (N := 10) hx hb hts inG_X7 hown hK hP 0 rfl rfl 0 (by decide) (hts _ fl_X7_34) (fun _ h9 => h9) rfl dX7_load_23 ?_
  refine va_get (D := G.1) (ci := 1) (v := .int (-1)) (C := RX1) (T := TX1) (N := 13) hx hb hts inG_X1 hown hK hP 1 rfl rfl 2 (by decide) (hts _ fl_X7_67) (fun _ h9 => h9) rfl dX7_load_26 ?_
  refine lv_iconst (v := (-1)) hx hb dX7_load_29 (by decide) ?_
  refine lv_icmp_eq (tgt := 55) hx hb dX7_load_30 (by decide) (fun c_1 => ?_) (fun c_1 => ?_)
  ·
    refine lv_iconst (v := 1) hx hb dX7_load_55 (by decide) ?_
    refine lv_istore_n (lv' := [(2, .int 1), (0, .ref a0), (1, .int 0)]) hx hb dX7_load_56 rfl hl (by decide) rfl (fun ls hl => ?_)
    refine lv_aload_n hx hb dX7_load_57 rfl (lv_at hl 1 rfl) ?_
    refine va_get (D := G.1) (ci := 7) (v := .ref a1) (C := RX7) (T := TX7) (N := 10) hx hb hts inG_X7 hown hK hP 0 rfl rfl 0 (by decide) (hts _ fl_X7_34) (fun _ h9 => h9) rfl dX7_load_58 ?_
    refine va_get (D := G.1) (ci := 1) (v := .ref a13) (C := RX1) (T := TX1) (N := 13) hx hb hts inG_X1 hown hK hP 1 rfl rfl 8 (by decide) (hts _ fl_X7_42) (fun _ h9 => h9) rfl dX7_load_61 ?_
    refine lv_astore_n (lv' := [(3, .ref a13), (2, .int 1), (0, .ref a0), (1, .int 0)]) hx hb dX7_load_64 rfl hl (by decide) rfl (fun ls hl => ?_)
    refine lv_iconst (v := 0) hx hb dX7_load_65 (by decide) ?_
    refine lv_istore (lv' := [(4, .int 0), (3, .ref a13), (2, .int 1), (0, .ref a0), (1, .int 0)]) hx hb dX7_load_66 hl (by decide) rfl (fun ls hl => ?_)
    refine lv_iload hx hb dX7_load_68 (lv_at hl 0 rfl) ?_
    refine lv_aload_n hx hb dX7_load_70 rfl (lv_at hl 1 rfl) ?_
    refine va_get (D := G.1) (ci := 6) (v := .int 0) (C := RX6) (T := TX6) (N := 4) hx hb hts inG_X6 hown hK hP 2 rfl rfl 3 (by decide) (hts _ fl_X7_48) (fun _ h9 => h9) rfl dX7_load_71 ?_
    refine lv_icmp_ge (tgt := 148) hx hb dX7_load_74 (by decide) (fun c_2 => ?_) (fun c_2 => ?_)
    ·
      refine lv_aload_n hx hb dX7_load_148 rfl (lv_at hl 3 rfl) ?_
      refine lv_iload_n hx hb dX7_load_149 rfl (lv_at hl 2 rfl) ?_
      refine lv_iconst (v := 1) hx hb dX7_load_150 (by decide) ?_
      refine lv_isub hx hb dX7_load_151 ?_
      refine g5_ti (v := 0) (by decide) ?_
      refine va_put (D := G.1) (ci := 7) (v := .int 0) (ty := .int) (C := RX7) (T := TX7) (N := 10) hx hb hts inG_X7 tyX7 tyX7_ok nmX7 hown hK hP hD hS 0 rfl rfl 4 (by decide) (hts _ fl_X7_89) (fun _ h9 => h9) rfl (by decide +kernel) rfl rfl (Nat.le_of_ble_eq_true rfl) dX7_load_152 (fun H locs hP hD hS => ?_)
      have hP : va_P G.1 vwCl [(a0, .inr (7, [.ref a1, .ref a2, .ref a3, .ref a4, .int 0, .ref a5, .ref a6, .ref a7, .ref a8, .ref a9])), (a1, .inr (1, [.long 0, .int 1000, .int (-1), .int (-1), .int 0, .ref a10, .ref a11, .ref a12, .ref a13, .ref a14, .ref a15, .long 0, .ref a16])), (a13, .inr (6, [.int 10, .int 4, .ref a17, .int 0])), (a3, .inl (G.2 1, 24, .inr (.inl (fun _ => 0)))), (a4, .inl (G.2 0, 1536, .inl (fun _ => 0)))] H := hP
      have hD : va_D A [(a0, .inr (7, [.ref a1, .ref a2, .ref a3, .ref a4, .int 0, .ref a5, .ref a6, .ref a7, .ref a8, .ref a9])), (a1, .inr (1, [.long 0, .int 1000, .int (-1), .int (-1), .int 0, .ref a10, .ref a11, .ref a12, .ref a13, .ref a14, .ref a15, .long 0, .ref a16])), (a13, .inr (6, [.int 10, .int 4, .ref a17, .int 0])), (a3, .inl (G.2 1, 24, .inr (.inl (fun _ => 0)))), (a4, .inl (G.2 0, 1536, .inl (fun _ => 0)))] := hD
      exact W.vret hx hb hr (fun t ht hW => ⟨⟨[(a0, .inr (7, [.ref a1, .ref a2, .ref a3, .ref a4, .int 0, .ref a5, .ref a6, .ref a7, .ref a8, .ref a9])), (a1, .inr (1, [.long 0, .int 1000, .int (-1), .int (-1), .int 0, .ref a10, .ref a11, .ref a12, .ref a13, .ref a14, .ref a15, .long 0, .ref a16])), (a13, .inr (6, [.int 10, .int 4, .ref a17, .int 0])), (a3, .inl (G.2 1, 24, .inr (.inl (fun _ => 0)))), (a4, .inl (G.2 0, 1536, .inl (fun _ => 0)))], rfl, rfl, by rw [ht]; exact hP, hD⟩, hS.F ht⟩) hS.2.2 dX7_load_155
    ·
      exact absurd c_2 (by decide)
  ·
    exact absurd c_1 (by decide)
theorem ml_X11_280 : Cond.methodLink RX11 280 yX7_load ∈ tblG := tg 959 (by decide +kernel) (by decide +kernel)
theorem im_X7_load : Cond.instanceMethod yX7_load ∈ tblG := tg 960 (by decide +kernel) (by decide +kernel)
theorem se_X7_load : Cond.selects RX7 yX7_load yX7_load ∈ tblG := tg 961 (by decide +kernel) (by decide +kernel)
theorem cd_X7_load : Cond.code yX7_load cX7_load 5 none ∈ tblG := tg 962 (by decide +kernel) (by decide +kernel)
theorem gW_X7_load : GoodIn tblG (wsG yX7_load cX7_load 5 none) := tgi cd_X7_load
theorem gV_X11_280 : GoodIn tblG (wsV RX11 280 RX7 yX7_load (wsG yX7_load cX7_load 5 none)) := tgV ml_X11_280 im_X7_load se_X7_load ini_X7 gW_X7_load
theorem hv_X7_load : yX7_load.cls = RX7 ∧ yX7_load.cls ≠ "java/lang/invoke/MethodHandle" ∧ yX7_load.cls ≠ "java/lang/invoke/VarHandle" ∧ (parseMethodDescriptor yX7_load.desc).map (fun d => d.parameters.length) = some 1 := by decide +kernel
theorem ml_X11_283 : Cond.methodLink RX11 283 yX7_countRows ∈ tblG := tg 978 (by decide +kernel) (by decide +kernel)
theorem im_X7_countRows : Cond.instanceMethod yX7_countRows ∈ tblG := tg 979 (by decide +kernel) (by decide +kernel)
theorem se_X7_countRows : Cond.selects RX7 yX7_countRows yX7_countRows ∈ tblG := tg 980 (by decide +kernel) (by decide +kernel)
theorem cd_X7_countRows : Cond.code yX7_countRows cX7_countRows 5 (some .long) ∈ tblG := tg 981 (by decide +kernel) (by decide +kernel)
theorem gW_X7_countRows : GoodIn tblG (wsG yX7_countRows cX7_countRows 5 (some .long)) := tgi cd_X7_countRows
theorem gV_X11_283 : GoodIn tblG (wsV RX11 283 RX7 yX7_countRows (wsG yX7_countRows cX7_countRows 5 (some .long))) := tgV ml_X11_283 im_X7_countRows se_X7_countRows ini_X7 gW_X7_countRows
theorem hv_X7_countRows : yX7_countRows.cls = RX7 ∧ yX7_countRows.cls ≠ "java/lang/invoke/MethodHandle" ∧ yX7_countRows.cls ≠ "java/lang/invoke/VarHandle" ∧ (parseMethodDescriptor yX7_countRows.desc).map (fun d => d.parameters.length) = some 0 := by decide +kernel
theorem dX11_fits_0 : decode cX11_fits 0 = .ok (.aload_n 0, 1) := by decide +kernel
theorem dX11_fits_1 : decode cX11_fits 1 = .ok (.getfield 45, 3) := by decide +kernel
theorem dX11_fits_4 : decode cX11_fits 4 = .ok (.aload_n 0, 1) := by decide +kernel
theorem dX11_fits_5 : decode cX11_fits 5 = .ok (.getfield 45, 3) := by decide +kernel
theorem dX11_fits_8 : decode cX11_fits 8 = .ok (.invokevirtual 277, 3) := by decide +kernel
theorem dX11_fits_11 : decode cX11_fits 11 = .ok (.invokevirtual 280, 3) := by decide +kernel
theorem dX11_fits_14 : decode cX11_fits 14 = .ok (.aload_n 0, 1) := by decide +kernel
theorem dX11_fits_15 : decode cX11_fits 15 = .ok (.getfield 45, 3) := by decide +kernel
theorem dX11_fits_18 : decode cX11_fits 18 = .ok (.invokevirtual 283, 3) := by decide +kernel
theorem dX11_fits_21 : decode cX11_fits 21 = .ok (.lreturn, 1) := by decide +kernel
set_option maxHeartbeats 4000000 in
set_option maxRecDepth 100000 in
theorem kX11_fits (l : Launch) (G : g5_G) (a0 a1 a2 a3 a4 a5 a6 a7 a8 a9 a10 a11 a12 a13 a14 a15 a16 a17 a18 a19 a20 a21 a22 a23 a24 a25 a26 a27 : Nat) (sz : Nat) : Met l yX11_fits (wsG yX11_fits cX11_fits 1 (some .long)) ({ frames := 3, cells := 0, slots := 0, locals := 73 }) (va_Pc [.ref a0] (g5_P G [(a0, .inr (11, [.ref a1, .ref a2, .ref a3, .ref a4, .ref a5, .ref a6, .ref a7, .ref a8, .ref a9, .ref a10, .int 0, .int 0, .int (-1), .ref a11, .int 0, .ref a12, .int 0])), (a6, .inr (7, [.ref a1, .ref a4, .ref a13, .ref a14, .int 0, .ref a15, .ref a16, .ref a17, .ref a18, .ref a19])), (a1, .inr (1, [.long 0, .int 1000, .int (-1), .int (-1), .int 0, .ref a20, .ref a21, .ref a22, .ref a23, .ref a24, .ref a25, .long 0, .ref a26])), (a23, .inr (6, [.int 10, .int 4, .ref a27, .int 0])), (a13, .inl (G.2 1, 24, .inr (.inl (fun _ => 0)))), (a14, .inl (G.2 0, 1536, .inl (fun _ => 0))), (a15, .inl (G.2 1, 2048, .inr (.inl (fun _ => 0)))), (a16, .inl (G.2 1, 2048, .inr (.inl (fun _ => 0))))] sz)) (va_Ql (fun (r : Int64) (u : va_W) => (∃ (z2 : Int64) (z3 : Nat → Int64) (z4 : Nat → Int64), (z2 = cntF (fun _ => 0)) ∧ (r = z2) ∧ (u = []))) (g5_B G (va_A [(a0, .inr (11, [.ref a1, .ref a2, .ref a3, .ref a4, .ref a5, .ref a6, .ref a7, .ref a8, .ref a9, .ref a10, .int 0, .int 0, .int (-1), .ref a11, .int 0, .ref a12, .int 0])), (a6, .inr (7, [.ref a1, .ref a4, .ref a13, .ref a14, .int 0, .ref a15, .ref a16, .ref a17, .ref a18, .ref a19])), (a1, .inr (1, [.long 0, .int 1000, .int (-1), .int (-1), .int 0, .ref a20, .ref a21, .ref a22, .ref a23, .ref a24, .ref a25, .long 0, .ref a26])), (a23, .inr (6, [.int 10, .int 4, .ref a27, .int 0])), (a13, .inl (G.2 1, 24, .inr (.inl (fun _ => 0)))), (a14, .inl (G.2 0, 1536, .inl (fun _ => 0))), (a15, .inl (G.2 1, 2048, .inr (.inl (fun _ => 0)))), (a16, .inl (G.2 1, 2048, .inr (.inl (fun _ => 0))))] sz)) (va_A [(a0, .inr (11, [.ref a1, .ref a2, .ref a3, .ref a4, .ref a5, .ref a6, .ref a7, .ref a8, .ref a9, .ref a10, .int 0, .int 0, .int (-1), .ref a11, .int 0, .ref a12, .int 0])), (a6, .inr (7, [.ref a1, .ref a4, .ref a13, .ref a14, .int 0, .ref a15, .ref a16, .ref a17, .ref a18, .ref a19])), (a1, .inr (1, [.long 0, .int 1000, .int (-1), .int (-1), .int 0, .ref a20, .ref a21, .ref a22, .ref a23, .ref a24, .ref a25, .long 0, .ref a26])), (a23, .inr (6, [.int 10, .int 4, .ref a27, .int 0])), (a13, .inl (G.2 1, 24, .inr (.inl (fun _ => 0)))), (a14, .inl (G.2 0, 1536, .inl (fun _ => 0))), (a15, .inl (G.2 1, 2048, .inr (.inl (fun _ => 0)))), (a16, .inl (G.2 1, 2048, .inr (.inl (fun _ => 0))))] sz)) 0 0 (va_A [(a0, .inr (11, [.ref a1, .ref a2, .ref a3, .ref a4, .ref a5, .ref a6, .ref a7, .ref a8, .ref a9, .ref a10, .int 0, .int 0, .int (-1), .ref a11, .int 0, .ref a12, .int 0])), (a6, .inr (7, [.ref a1, .ref a4, .ref a13, .ref a14, .int 0, .ref a15, .ref a16, .ref a17, .ref a18, .ref a19])), (a1, .inr (1, [.long 0, .int 1000, .int (-1), .int (-1), .int 0, .ref a20, .ref a21, .ref a22, .ref a23, .ref a24, .ref a25, .long 0, .ref a26])), (a23, .inr (6, [.int 10, .int 4, .ref a27, .int 0])), (a13, .inl (G.2 1, 24, .inr (.inl (fun _ => 0)))), (a14, .inl (G.2 0, 1536, .inl (fun _ => 0))), (a15, .inl (G.2 1, 2048, .inr (.inl (fun _ => 0)))), (a16, .inl (G.2 1, 2048, .inr (.inl (fun _ => 0))))] sz) := by
  refine Met.ofW (cc := cX11_fits) (maxL := 1) (ret := (some .long)) (by decide) rfl ?_
  intro p e s m args below meth c s₁ B hml hv
  obtain ⟨rfl, hsz, hP, hK, hD0, hN, hT⟩ := hv
  have hx := B.exec
  have hb := B.bytes
  have hr := B.returns
  have hts : ∀ w ∈ tblG, w.before _ s = true := fun w h => atoms_spec (ws := (wsG yX11_fits cX11_fits 1 (some .long))) B.pre w (List.mem_cons_of_mem _ h)
  have hown : s.vm.findClass RX11 = some m.cls := findClass_of_methodNamed B.named
  have hlocks := B.notSynchronized
  subst hsz
  have hD := hD0.self (sz := s.heap.size)
  generalize hAe : va_A [(a0, .inr (11, [.ref a1, .ref a2, .ref a3, .ref a4, .ref a5, .ref a6, .ref a7, .ref a8, .ref a9, .ref a10, .int 0, .int 0, .int (-1), .ref a11, .int 0, .ref a12, .int 0])), (a6, .inr (7, [.ref a1, .ref a4, .ref a13, .ref a14, .int 0, .ref a15, .ref a16, .ref a17, .ref a18, .ref a19])), (a1, .inr (1, [.long 0, .int 1000, .int (-1), .int (-1), .int 0, .ref a20, .ref a21, .ref a22, .ref a23, .ref a24, .ref a25, .long 0, .ref a26])), (a23, .inr (6, [.int 10, .int 4, .ref a27, .int 0])), (a13, .inl (G.2 1, 24, .inr (.inl (fun _ => 0)))), (a14, .inl (G.2 0, 1536, .inl (fun _ => 0))), (a15, .inl (G.2 1, 2048, .inr (.inl (fun _ => 0)))), (a16, .inl (G.2 1, 2048, .inr (.inl (fun _ => 0))))] s.heap.size = A at hD hT ⊢
  have hA : ∀ q : Nat, s.heap.size ≤ q → A q := fun q h => by rw [← hAe]; exact Or.inr h
  have hS : va_S A s.heap s.heap [] := va_S.rf
  have hP : va_P G.1 vwCl [(a0, .inr (11, [.ref a1, .ref a2, .ref a3, .ref a4, .ref a5, .ref a6, .ref a7, .ref a8, .ref a9, .ref a10, .int 0, .int 0, .int (-1), .ref a11, .int 0, .ref a12, .int 0])), (a6, .inr (7, [.ref a1, .ref a4, .ref a13, .ref a14, .int 0, .ref a15, .ref a16, .ref a17, .ref a18, .ref a19])), (a1, .inr (1, [.long 0, .int 1000, .int (-1), .int (-1), .int 0, .ref a20, .ref a21, .ref a22, .ref a23, .ref a24, .ref a25, .long 0, .ref a26])), (a23, .inr (6, [.int 10, .int 4, .ref a27, .int 0])), (a13, .inl (G.2 1, 24, .inr (.inl (fun _ => 0)))), (a14, .inl (G.2 0, 1536, .inl (fun _ => 0))), (a15, .inl (G.2 1, 2048, .inr (.inl (fun _ => 0)))), (a16, .inl (G.2 1, 2048, .inr (.inl (fun _ => 0))))] s.heap := hP
  have hl := lv_entry ([.ref a0]) (n := 1) (Nat.le_of_ble_eq_true rfl)
  rw [lg_entry_eq]
  generalize (lg_sl ([.ref a0]) ++ List.replicate (1 - (lg_sl ([.ref a0])).length) Slot.unset).toArray = ls at hl ⊢
  have hl : lv_has ls 1 [(0, .ref a0)] := hl
  refine lv_aload_n hx hb dX11_fits_0 rfl (lv_at hl 0 rfl) ?_
  refine va_get (D := G.1) (ci := 11) (v := .ref a6) (C := RX11) (T := TX11) (N := 17) hx hb hts inG_X11 hown hK hP 0 rfl rfl 5 (by decide) (hts _ fl_X11_45) (fun _ h9 => h9) rfl dX11_fits_1 ?_
  refine lv_aload_n hx hb dX11_fits_4 rfl (lv_at hl 0 rfl) ?_
  refine va_get (D := G.1) (ci := 11) (v := .ref a6) (C := RX11) (T := TX11) (N := 17) hx hb hts inG_X11 hown hK hP 0 rfl rfl 5 (by decide) (hts _ fl_X11_45) (fun _ h9 => h9) rfl dX11_fits_5 ?_
  have hPc := hP.sub (ws' := [(a6, .inr (7, [.ref a1, .ref a4, .ref a13, .ref a14, .int 0, .ref a15, .ref a16, .ref a17, .ref a18, .ref a19])), (a1, .inr (1, [.long 0, .int 1000, .int (-1), .int (-1), .int 0, .ref a20, .ref a21, .ref a22, .ref a23, .ref a24, .ref a25, .long 0, .ref a26])), (a23, .inr (6, [.int 10, .int 4, .ref a27, .int 0]))]) [1, 2, 3] rfl
  have hDc := hD.sub (ws' := [(a6, .inr (7, [.ref a1, .ref a4, .ref a13, .ref a14, .int 0, .ref a15, .ref a16, .ref a17, .ref a18, .ref a19])), (a1, .inr (1, [.long 0, .int 1000, .int (-1), .int (-1), .int 0, .ref a20, .ref a21, .ref a22, .ref a23, .ref a24, .ref a25, .long 0, .ref a26])), (a23, .inr (6, [.int 10, .int 4, .ref a27, .int 0]))]) [1, 2, 3] (by decide) rfl
  have hFc := va_free (wc := [(a6, .inr (7, [.ref a1, .ref a4, .ref a13, .ref a14, .int 0, .ref a15, .ref a16, .ref a17, .ref a18, .ref a19])), (a1, .inr (1, [.long 0, .int 1000, .int (-1), .int (-1), .int 0, .ref a20, .ref a21, .ref a22, .ref a23, .ref a24, .ref a25, .long 0, .ref a26])), (a23, .inr (6, [.int 10, .int 4, .ref a27, .int 0]))]) hD hS hA [1, 2, 3] rfl
  refine va_calli (va_runV (As := []) (rest := [.ref a6]) ⟨hx, hb, hml, hown, hts⟩ (kX7_allSightings l G a6 a1 a4 a13 a14 a15 a16 a17 a18 a19 a20 a21 a22 a23 a24 a25 a26 a27 s.heap.size) (cwV 0 hts gV_X11_277 rfl rfl rfl hv_X7_allSightings ⟨Nat.le_of_ble_eq_true rfl, Nat.le_of_ble_eq_true rfl⟩) (g5_preV hPc hK hDc hN hT hS hFc (ci := 7) (q0 := 0) rfl rfl) rfl rfl hl.1 rfl (lv_room (Nat.le_of_ble_eq_true rfl)) dX11_fits_8 ⟨Nat.le_of_ble_eq_true rfl, Nat.le_of_ble_eq_true rfl⟩) hS (fun q _ h => hFc q h) hFc (fun r u t H1 locs ht hvm hw hB hz1 hk1 hS => ?_)
  obtain ⟨hP1, hD1⟩ := hB
  rw [ht] at hP1
  obtain ⟨rfl, rfl⟩ := hw
  obtain ⟨hP, hD⟩ := va_join (wr := [(a0, .inr (11, [.ref a1, .ref a2, .ref a3, .ref a4, .ref a5, .ref a6, .ref a7, .ref a8, .ref a9, .ref a10, .int 0, .int 0, .int (-1), .ref a11, .int 0, .ref a12, .int 0])), (a13, .inl (G.2 1, 24, .inr (.inl (fun _ => 0)))), (a14, .inl (G.2 0, 1536, .inl (fun _ => 0))), (a15, .inl (G.2 1, 2048, .inr (.inl (fun _ => 0)))), (a16, .inl (G.2 1, 2048, .inr (.inl (fun _ => 0))))]) (w1 := [(a6, .inr (7, [.ref a1, .ref a4, .ref a13, .ref a14, .int 0, .ref a15, .ref a16, .ref a17, .ref a18, .ref a19])), (a1, .inr (1, [.long 0, .int 1000, .int (-1), .int (-1), .int 0, .ref a20, .ref a21, .ref a22, .ref a23, .ref a24, .ref a25, .long 0, .ref a26])), (a23, .inr (6, [.int 10, .int 4, .ref a27, .int 0]))]) hP hD [1, 2, 3] [0, 4, 5, 6, 7] rfl rfl (by decide) (by decide) hk1 hFc hP1 hD1
  generalize H1 = H at hP hS ⊢
  have hP : va_P G.1 vwCl [(a0, .inr (11, [.ref a1, .ref a2, .ref a3, .ref a4, .ref a5, .ref a6, .ref a7, .ref a8, .ref a9, .ref a10, .int 0, .int 0, .int (-1), .ref a11, .int 0, .ref a12, .int 0])), (a13, .inl (G.2 1, 24, .inr (.inl (fun _ => 0)))), (a14, .inl (G.2 0, 1536, .inl (fun _ => 0))), (a15, .inl (G.2 1, 2048, .inr (.inl (fun _ => 0)))), (a16, .inl (G.2 1, 2048, .inr (.inl (fun _ => 0)))), (a6, .inr (7, [.ref a1, .ref a4, .ref a13, .ref a14, .int 0, .ref a15, .ref a16, .ref a17, .ref a18, .ref a19])), (a1, .inr (1, [.long 0, .int 1000, .int (-1), .int (-1), .int 0, .ref a20, .ref a21, .ref a22, .ref a23, .ref a24, .ref a25, .long 0, .ref a26])), (a23, .inr (6, [.int 10, .int 4, .ref a27, .int 0]))] H := hP
  have hD : va_D A [(a0, .inr (11, [.ref a1, .ref a2, .ref a3, .ref a4, .ref a5, .ref a6, .ref a7, .ref a8, .ref a9, .ref a10, .int 0, .int 0, .int (-1), .ref a11, .int 0, .ref a12, .int 0])), (a13, .inl (G.2 1, 24, .inr (.inl (fun _ => 0)))), (a14, .inl (G.2 0, 1536, .inl (fun _ => 0))), (a15, .inl (G.2 1, 2048, .inr (.inl (fun _ => 0)))), (a16, .inl (G.2 1, 2048, .inr (.inl (fun _ => 0)))), (a6, .inr (7, [.ref a1, .ref a4, .ref a13, .ref a14, .int 0, .ref a15, .ref a16, .ref a17, .ref a18, .ref a19])), (a1, .inr (1, [.long 0, .int 1000, .int (-1), .int (-1), .int 0, .ref a20, .ref a21, .ref a22, .ref a23, .ref a24, .ref a25, .long 0, .ref a26])), (a23, .inr (6, [.int 10, .int 4, .ref a27, .int 0]))] := hD
  have hPc := hP.sub (ws' := [(a6, .inr (7, [.ref a1, .ref a4, .ref a13, .ref a14, .int 0, .ref a15, .ref a16, .ref a17, .ref a18, .ref a19])), (a1, .inr (1, [.long 0, .int 1000, .int (-1), .int (-1), .int 0, .ref a20, .ref a21, .ref a22, .ref a23, .ref a24, .ref a25, .long 0, .ref a26])), (a13, .inl (G.2 1, 24, .inr (.inl (fun _ => 0)))), (a14, .inl (G.2 0, 1536, .inl (fun _ => 0))), (a23, .inr (6, [.int 10, .int 4, .ref a27, .int 0]))]) [5, 6, 1, 2, 7] rfl
  have hDc := hD.sub (ws' := [(a6, .inr (7, [.ref a1, .ref a4, .ref a13, .ref a14, .int 0, .ref a15, .ref a16, .ref a17, .ref a18, .ref a19])), (a1, .inr (1, [.long 0, .int 1000, .int (-1), .int (-1), .int 0, .ref a20, .ref a21, .ref a22, .ref a23, .ref a24, .ref a25, .long 0, .ref a26])), (a13, .inl (G.2 1, 24, .inr (.inl (fun _ => 0)))), (a14, .inl (G.2 0, 1536, .inl (fun _ => 0))), (a23, .inr (6, [.int 10, .int 4, .ref a27, .int 0]))]) [5, 6, 1, 2, 7] (by decide) rfl
  have hFc := va_free (wc := [(a6, .inr (7, [.ref a1, .ref a4, .ref a13, .ref a14, .int 0, .ref a15, .ref a16, .ref a17, .ref a18, .ref a19])), (a1, .inr (1, [.long 0, .int 1000, .int (-1), .int (-1), .int 0, .ref a20, .ref a21, .ref a22, .ref a23, .ref a24, .ref a25, .long 0, .ref a26])), (a13, .inl (G.2 1, 24, .inr (.inl (fun _ => 0)))), (a14, .inl (G.2 0, 1536, .inl (fun _ => 0))), (a23, .inr (6, [.int 10, .int 4, .ref a27, .int 0]))]) hD hS hA [5, 6, 1, 2, 7] rfl
  refine va_callv (va_runV (As := [.int 0]) (rest := []) ⟨hx, hb, hml, hown, hts⟩ (kX7_load l G a6 a1 a4 a13 a14 a15 a16 a17 a18 a19 a20 a21 a22 a23 a24 a25 a26 a27 H.size) (cwV 1 hts gV_X11_280 rfl rfl rfl hv_X7_load ⟨Nat.le_of_ble_eq_true rfl, Nat.le_of_ble_eq_true rfl⟩) (g5_preV hPc hK hDc hN hT hS hFc (ci := 7) (q0 := 0) rfl rfl) rfl rfl hl.1 rfl (lv_room (Nat.le_of_ble_eq_true rfl)) dX11_fits_11 ⟨Nat.le_of_ble_eq_true rfl, Nat.le_of_ble_eq_true rfl⟩) hS (fun q _ h => hFc q h) hFc (fun u t H1 locs ht hvm hw hB hz1 hk1 hS => ?_)
  obtain ⟨hP1, hD1⟩ := hB
  rw [ht] at hP1
  obtain rfl := hw
  obtain ⟨hP, hD⟩ := va_join (wr := [(a0, .inr (11, [.ref a1, .ref a2, .ref a3, .ref a4, .ref a5, .ref a6, .ref a7, .ref a8, .ref a9, .ref a10, .int 0, .int 0, .int (-1), .ref a11, .int 0, .ref a12, .int 0])), (a15, .inl (G.2 1, 2048, .inr (.inl (fun _ => 0)))), (a16, .inl (G.2 1, 2048, .inr (.inl (fun _ => 0))))]) (w1 := [(a6, .inr (7, [.ref a1, .ref a4, .ref a13, .ref a14, .int 0, .ref a15, .ref a16, .ref a17, .ref a18, .ref a19])), (a1, .inr (1, [.long 0, .int 1000, .int (-1), .int (-1), .int 0, .ref a20, .ref a21, .ref a22, .ref a23, .ref a24, .ref a25, .long 0, .ref a26])), (a23, .inr (6, [.int 10, .int 4, .ref a27, .int 0])), (a13, .inl (G.2 1, 24, .inr (.inl (fun _ => 0)))), (a14, .inl (G.2 0, 1536, .inl (fun _ => 0)))]) hP hD [5, 6, 1, 2, 7] [0, 3, 4] rfl rfl (by decide) (by decide) hk1 hFc hP1 hD1
  generalize H1 = H at hP hS ⊢
  have hP : va_P G.1 vwCl [(a0, .inr (11, [.ref a1, .ref a2, .ref a3, .ref a4, .ref a5, .ref a6, .ref a7, .ref a8, .ref a9, .ref a10, .int 0, .int 0, .int (-1), .ref a11, .int 0, .ref a12, .int 0])), (a15, .inl (G.2 1, 2048, .inr (.inl (fun _ => 0)))), (a16, .inl (G.2 1, 2048, .inr (.inl (fun _ => 0)))), (a6, .inr (7, [.ref a1, .ref a4, .ref a13, .ref a14, .int 0, .ref a15, .ref a16, .ref a17, .ref a18, .ref a19])), (a1, .inr (1, [.long 0, .int 1000, .int (-1), .int (-1), .int 0, .ref a20, .ref a21, .ref a22, .ref a23, .ref a24, .ref a25, .long 0, .ref a26])), (a23, .inr (6, [.int 10, .int 4, .ref a27, .int 0])), (a13, .inl (G.2 1, 24, .inr (.inl (fun _ => 0)))), (a14, .inl (G.2 0, 1536, .inl (fun _ => 0)))] H := hP
  have hD : va_D A [(a0, .inr (11, [.ref a1, .ref a2, .ref a3, .ref a4, .ref a5, .ref a6, .ref a7, .ref a8, .ref a9, .ref a10, .int 0, .int 0, .int (-1), .ref a11, .int 0, .ref a12, .int 0])), (a15, .inl (G.2 1, 2048, .inr (.inl (fun _ => 0)))), (a16, .inl (G.2 1, 2048, .inr (.inl (fun _ => 0)))), (a6, .inr (7, [.ref a1, .ref a4, .ref a13, .ref a14, .int 0, .ref a15, .ref a16, .ref a17, .ref a18, .ref a19])), (a1, .inr (1, [.long 0, .int 1000, .int (-1), .int (-1), .int 0, .ref a20, .ref a21, .ref a22, .ref a23, .ref a24, .ref a25, .long 0, .ref a26])), (a23, .inr (6, [.int 10, .int 4, .ref a27, .int 0])), (a13, .inl (G.2 1, 24, .inr (.inl (fun _ => 0)))), (a14, .inl (G.2 0, 1536, .inl (fun _ => 0)))] := hD
  refine lv_aload_n hx hb dX11_fits_14 rfl (lv_at hl 0 rfl) ?_
  refine va_get (D := G.1) (ci := 11) (v := .ref a6) (C := RX11) (T := TX11) (N := 17) hx hb hts inG_X11 hown hK hP 0 rfl rfl 5 (by decide) (hts _ fl_X11_45) (fun _ h9 => h9) rfl dX11_fits_15 ?_
  have hPc := hP.sub (ws' := [(a6, .inr (7, [.ref a1, .ref a4, .ref a13, .ref a14, .int 0, .ref a15, .ref a16, .ref a17, .ref a18, .ref a19])), (a13, .inl (G.2 1, 24, .inr (.inl (fun _ => 0)))), (a14, .inl (G.2 0, 1536, .inl (fun _ => 0))), (a15, .inl (G.2 1, 2048, .inr (.inl (fun _ => 0)))), (a16, .inl (G.2 1, 2048, .inr (.inl (fun _ => 0))))]) [3, 6, 7, 1, 2] rfl
  have hDc := hD.sub (ws' := [(a6, .inr (7, [.ref a1, .ref a4, .ref a13, .ref a14, .int 0, .ref a15, .ref a16, .ref a17, .ref a18, .ref a19])), (a13, .inl (G.2 1, 24, .inr (.inl (fun _ => 0)))), (a14, .inl (G.2 0, 1536, .inl (fun _ => 0))), (a15, .inl (G.2 1, 2048, .inr (.inl (fun _ => 0)))), (a16, .inl (G.2 1, 2048, .inr (.inl (fun _ => 0))))]) [3, 6, 7, 1, 2] (by decide) rfl
  have hFc := va_free (wc := [(a6, .inr (7, [.ref a1, .ref a4, .ref a13, .ref a14, .int 0, .ref a15, .ref a16, .ref a17, .ref a18, .ref a19])), (a13, .inl (G.2 1, 24, .inr (.inl (fun _ => 0)))), (a14, .inl (G.2 0, 1536, .inl (fun _ => 0))), (a15, .inl (G.2 1, 2048, .inr (.inl (fun _ => 0)))), (a16, .inl (G.2 1, 2048, .inr (.inl (fun _ => 0))))]) hD hS hA [3, 6, 7, 1, 2] rfl
  refine va_calll (va_runV (As := []) (rest := []) ⟨hx, hb, hml, hown, hts⟩ (k_countRows l G a6 a13 a14 a15 a16 a1 a4 a17 a18 a19 H.size (fun _ => 0) (fun _ => 0) (fun _ => 0)) (cwV 0 hts gV_X11_283 rfl rfl rfl hv_X7_countRows ⟨Nat.le_of_ble_eq_true rfl, Nat.le_of_ble_eq_true rfl⟩) (g5_preV hPc hK hDc hN hT hS hFc (ci := 7) (q0 := 0) rfl rfl) rfl rfl hl.1 rfl (lv_room (Nat.le_of_ble_eq_true rfl)) dX11_fits_18 ⟨Nat.le_of_ble_eq_true rfl, Nat.le_of_ble_eq_true rfl⟩) hS (fun q _ h => hFc q h) hFc (fun r u t H1 locs ht hvm hw hB hz1 hk1 hS => ?_)
  obtain ⟨hP1, hD1⟩ := hB
  rw [ht] at hP1
  obtain ⟨z2, z3, z4, i_1, y5, rfl⟩ := hw
  have i_1 : z2 = cntF (fun _ => 0) := i_1
  obtain ⟨hP, hD⟩ := va_join (wr := [(a0, .inr (11, [.ref a1, .ref a2, .ref a3, .ref a4, .ref a5, .ref a6, .ref a7, .ref a8, .ref a9, .ref a10, .int 0, .int 0, .int (-1), .ref a11, .int 0, .ref a12, .int 0])), (a1, .inr (1, [.long 0, .int 1000, .int (-1), .int (-1), .int 0, .ref a20, .ref a21, .ref a22, .ref a23, .ref a24, .ref a25, .long 0, .ref a26])), (a23, .inr (6, [.int 10, .int 4, .ref a27, .int 0]))]) (w1 := [(a6, .inr (7, [.ref a1, .ref a4, .ref a13, .ref a14, .int 0, .ref a16, .ref a15, .ref a17, .ref a18, .ref a19])), (a13, .inl (G.2 1, 24, .inr (.inl (fun _ => 0)))), (a14, .inl (G.2 0, 1536, .inl (fun _ => 0))), (a15, .inl (G.2 1, 2048, .inr (.inl z3))), (a16, .inl (G.2 1, 2048, .inr (.inl z4)))]) hP hD [3, 6, 7, 1, 2] [0, 4, 5] rfl rfl (by decide) (by decide) hk1 hFc hP1 hD1
  generalize H1 = H at hP hS ⊢
  have hP : va_P G.1 vwCl [(a0, .inr (11, [.ref a1, .ref a2, .ref a3, .ref a4, .ref a5, .ref a6, .ref a7, .ref a8, .ref a9, .ref a10, .int 0, .int 0, .int (-1), .ref a11, .int 0, .ref a12, .int 0])), (a1, .inr (1, [.long 0, .int 1000, .int (-1), .int (-1), .int 0, .ref a20, .ref a21, .ref a22, .ref a23, .ref a24, .ref a25, .long 0, .ref a26])), (a23, .inr (6, [.int 10, .int 4, .ref a27, .int 0])), (a6, .inr (7, [.ref a1, .ref a4, .ref a13, .ref a14, .int 0, .ref a16, .ref a15, .ref a17, .ref a18, .ref a19])), (a13, .inl (G.2 1, 24, .inr (.inl (fun _ => 0)))), (a14, .inl (G.2 0, 1536, .inl (fun _ => 0))), (a15, .inl (G.2 1, 2048, .inr (.inl z3))), (a16, .inl (G.2 1, 2048, .inr (.inl z4)))] H := hP
  have hD : va_D A [(a0, .inr (11, [.ref a1, .ref a2, .ref a3, .ref a4, .ref a5, .ref a6, .ref a7, .ref a8, .ref a9, .ref a10, .int 0, .int 0, .int (-1), .ref a11, .int 0, .ref a12, .int 0])), (a1, .inr (1, [.long 0, .int 1000, .int (-1), .int (-1), .int 0, .ref a20, .ref a21, .ref a22, .ref a23, .ref a24, .ref a25, .long 0, .ref a26])), (a23, .inr (6, [.int 10, .int 4, .ref a27, .int 0])), (a6, .inr (7, [.ref a1, .ref a4, .ref a13, .ref a14, .int 0, .ref a16, .ref a15, .ref a17, .ref a18, .ref a19])), (a13, .inl (G.2 1, 24, .inr (.inl (fun _ => 0)))), (a14, .inl (G.2 0, 1536, .inl (fun _ => 0))), (a15, .inl (G.2 1, 2048, .inr (.inl z3))), (a16, .inl (G.2 1, 2048, .inr (.inl z4)))] := hD
  refine g5_tl (v := z2) y5 ?_
  have hP := hP.sub (ws' := []) [] rfl
  have hD := hD.sub (ws' := []) [] (by decide) rfl
  exact W.lret (v := z2) hx hb hr (fun t ht hW => ⟨⟨z2, [], rfl, ⟨z2, z3, z4, i_1, rfl, rfl⟩, by rw [ht]; exact hP, hD⟩, hS.F ht⟩) hS.2.2 dX11_fits_21
theorem fl_X11_291 : Cond.fieldLink RX11 291 "LateGlass$Thief" "barred" "[J" ∈ tblG := tg 320 (by decide +kernel) (by decide +kernel)
theorem ml_X11_287 : Cond.methodLink RX11 287 yX7_cellsIn ∈ tblG := tg 992 (by decide +kernel) (by decide +kernel)
theorem im_X7_cellsIn : Cond.instanceMethod yX7_cellsIn ∈ tblG := tg 993 (by decide +kernel) (by decide +kernel)
theorem se_X7_cellsIn : Cond.selects RX7 yX7_cellsIn yX7_cellsIn ∈ tblG := tg 994 (by decide +kernel) (by decide +kernel)
theorem cd_X7_cellsIn : Cond.code yX7_cellsIn cX7_cellsIn 5 (some .long) ∈ tblG := tg 995 (by decide +kernel) (by decide +kernel)
theorem gW_X7_cellsIn : GoodIn tblG (wsG yX7_cellsIn cX7_cellsIn 5 (some .long)) := tgi cd_X7_cellsIn
theorem gV_X11_287 : GoodIn tblG (wsV RX11 287 RX7 yX7_cellsIn (wsG yX7_cellsIn cX7_cellsIn 5 (some .long))) := tgV ml_X11_287 im_X7_cellsIn se_X7_cellsIn ini_X7 gW_X7_cellsIn
theorem hv_X7_cellsIn : yX7_cellsIn.cls = RX7 ∧ yX7_cellsIn.cls ≠ "java/lang/invoke/MethodHandle" ∧ yX7_cellsIn.cls ≠ "java/lang/invoke/VarHandle" ∧ (parseMethodDescriptor yX7_cellsIn.desc).map (fun d => d.parameters.length) = some 1 := by decide +kernel
set_option maxHeartbeats 4000000 in
set_option maxRecDepth 100000 in
theorem kJ13_bitCount_95d88_2 (l : Launch) (G : g5_G) (sz : Nat) : Met l yJ13_bitCount_95d88 (wsG yJ13_bitCount_95d88 cJ13_bitCount_95d88 2 (some .int)) ({ frames := 0, cells := 0, slots := 0, locals := 0 }) (va_Pc [.long (-1)] (g5_P G [] sz)) (va_Qi (fun (r : Int32) (u : va_W) => ((r = 64) ∧ (u = []))) (g5_B G (va_A [] sz)) (va_A [] sz)) 0 0 (va_A [] sz) := by
  refine Met.ofW (cc := cJ13_bitCount_95d88) (maxL := 2) (ret := (some .int)) (by decide) rfl ?_
  intro p e s m args below meth c s₁ B hml hv
  obtain ⟨rfl, hsz, hP, hK, hD0, hN, hT⟩ := hv
  have hx := B.exec
  have hb := B.bytes
  have hr := B.returns
  have hts : ∀ w ∈ tblG, w.before _ s = true := fun w h => atoms_spec (ws := (wsG yJ13_bitCount_95d88 cJ13_bitCount_95d88 2 (some .int))) B.pre w (List.mem_cons_of_mem _ h)
  have hown : s.vm.findClass RJ13 = some m.cls := findClass_of_methodNamed B.named
  have hlocks := B.notSynchronized
  subst hsz
  have hD := hD0.self (sz := s.heap.size)
  generalize hAe : va_A [] s.heap.size = A at hD hT ⊢
  have hA : ∀ q : Nat, s.heap.size ≤ q → A q := fun q h => by rw [← hAe]; exact Or.inr h
  have hS : va_S A s.heap s.heap [] := va_S.rf
  have hP : va_P G.1 vwCl [] s.heap := hP
  have hl := lv_entry ([.long (-1)]) (n := 2) (Nat.le_of_ble_eq_true rfl)
  rw [lg_entry_eq]
  generalize (lg_sl ([.long (-1)]) ++ List.replicate (2 - (lg_sl ([.long (-1)])).length) Slot.unset).toArray = ls at hl ⊢
  have hl : lv_has ls 2 [(0, .long (-1))] := hl
  refine lv_lload_n hx hb dJ13_bitCount_95d88_0 rfl (lv_at hl 0 rfl) ?_
  refine lv_lload_n hx hb dJ13_bitCount_95d88_1 rfl (lv_at hl 0 rfl) ?_
  refine lv_iconst (v := 1) hx hb dJ13_bitCount_95d88_2 (by decide) ?_
  refine lv_lushr (v := 9223372036854775807) hx hb dJ13_bitCount_95d88_3 (by decide) ?_
  refine lv_ldc2 (v := 6148914691236517205) hx hb hown (hts _ kl_J13_314) dJ13_bitCount_95d88_4 ?_
  refine lv_land hx hb dJ13_bitCount_95d88_7 ?_
  refine g5_tl (v := 6148914691236517205) (by decide) ?_
  refine lv_lsub hx hb dJ13_bitCount_95d88_8 ?_
  refine g5_tl (v := (-6148914691236517206)) (by decide) ?_
  refine lv_lstore_n (lv' := [(0, .long (-6148914691236517206))]) hx hb dJ13_bitCount_95d88_9 rfl hl (by decide) rfl (fun ls hl => ?_)
  refine lv_lload_n hx hb dJ13_bitCount_95d88_10 rfl (lv_at hl 0 rfl) ?_
  refine lv_ldc2 (v := 3689348814741910323) hx hb hown (hts _ kl_J13_316) dJ13_bitCount_95d88_11 ?_
  refine lv_land hx hb dJ13_bitCount_95d88_14 ?_
  refine g5_tl (v := 2459565876494606882) (by decide) ?_
  refine lv_lload_n hx hb dJ13_bitCount_95d88_15 rfl (lv_at hl 0 rfl) ?_
  refine lv_iconst (v := 2) hx hb dJ13_bitCount_95d88_16 (by decide) ?_
  refine lv_lushr (v := 3074457345618258602) hx hb dJ13_bitCount_95d88_17 (by decide) ?_
  refine lv_ldc2 (v := 3689348814741910323) hx hb hown (hts _ kl_J13_316) dJ13_bitCount_95d88_18 ?_
  refine lv_land hx hb dJ13_bitCount_95d88_21 ?_
  refine g5_tl (v := 2459565876494606882) (by decide) ?_
  refine lv_ladd hx hb dJ13_bitCount_95d88_22 ?_
  refine g5_tl (v := 4919131752989213764) (by decide) ?_
  refine lv_lstore_n (lv' := [(0, .long 4919131752989213764)]) hx hb dJ13_bitCount_95d88_23 rfl hl (by decide) rfl (fun ls hl => ?_)
  refine lv_lload_n hx hb dJ13_bitCount_95d88_24 rfl (lv_at hl 0 rfl) ?_
  refine lv_lload_n hx hb dJ13_bitCount_95d88_25 rfl (lv_at hl 0 rfl) ?_
  refine lv_iconst (v := 4) hx hb dJ13_bitCount_95d88_26 (by decide) ?_
  refine lv_lushr (v := 307445734561825860) hx hb dJ13_bitCount_95d88_27 (by decide) ?_
  refine lv_ladd hx hb dJ13_bitCount_95d88_28 ?_
  refine g5_tl (v := 5226577487551039624) (by decide) ?_
  refine lv_ldc2 (v := 1085102592571150095) hx hb hown (hts _ kl_J13_318) dJ13_bitCount_95d88_29 ?_
  refine lv_land hx hb dJ13_bitCount_95d88_32 ?_
  refine g5_tl (v := 578721382704613384) (by decide) ?_
  refine lv_lstore_n (lv' := [(0, .long 578721382704613384)]) hx hb dJ13_bitCount_95d88_33 rfl hl (by decide) rfl (fun ls hl => ?_)
  refine lv_lload_n hx hb dJ13_bitCount_95d88_34 rfl (lv_at hl 0 rfl) ?_
  refine lv_lload_n hx hb dJ13_bitCount_95d88_35 rfl (lv_at hl 0 rfl) ?_
  refine lv_bipush (v := 8) hx hb dJ13_bitCount_95d88_36 (by decide) ?_
  refine lv_lushr (v := 2260630401189896) hx hb dJ13_bitCount_95d88_38 (by decide) ?_
  refine lv_ladd hx hb dJ13_bitCount_95d88_39 ?_
  refine g5_tl (v := 580982013105803280) (by decide) ?_
  refine lv_lstore_n (lv' := [(0, .long 580982013105803280)]) hx hb dJ13_bitCount_95d88_40 rfl hl (by decide) rfl (fun ls hl => ?_)
  refine lv_lload_n hx hb dJ13_bitCount_95d88_41 rfl (lv_at hl 0 rfl) ?_
  refine lv_lload_n hx hb dJ13_bitCount_95d88_42 rfl (lv_at hl 0 rfl) ?_
  refine lv_bipush (v := 16) hx hb dJ13_bitCount_95d88_43 (by decide) ?_
  refine lv_lushr (v := 8865081987088) hx hb dJ13_bitCount_95d88_45 (by decide) ?_
  refine lv_ladd hx hb dJ13_bitCount_95d88_46 ?_
  refine g5_tl (v := 580990878187790368) (by decide) ?_
  refine lv_lstore_n (lv' := [(0, .long 580990878187790368)]) hx hb dJ13_bitCount_95d88_47 rfl hl (by decide) rfl (fun ls hl => ?_)
  refine lv_lload_n hx hb dJ13_bitCount_95d88_48 rfl (lv_at hl 0 rfl) ?_
  refine lv_lload_n hx hb dJ13_bitCount_95d88_49 rfl (lv_at hl 0 rfl) ?_
  refine lv_bipush (v := 32) hx hb dJ13_bitCount_95d88_50 (by decide) ?_
  refine lv_lushr (v := 135272480) hx hb dJ13_bitCount_95d88_52 (by decide) ?_
  refine lv_ladd hx hb dJ13_bitCount_95d88_53 ?_
  refine g5_tl (v := 580990878323062848) (by decide) ?_
  refine lv_lstore_n (lv' := [(0, .long 580990878323062848)]) hx hb dJ13_bitCount_95d88_54 rfl hl (by decide) rfl (fun ls hl => ?_)
  refine lv_lload_n hx hb dJ13_bitCount_95d88_55 rfl (lv_at hl 0 rfl) ?_
  refine lv_l2i (v := 674248768) hx hb dJ13_bitCount_95d88_56 (by decide) ?_
  refine lv_bipush (v := 127) hx hb dJ13_bitCount_95d88_57 (by decide) ?_
  refine lv_iand hx hb dJ13_bitCount_95d88_59 ?_
  refine g5_ti (v := 64) (by decide) ?_
  exact W.iret (v := 64) hx hb hr (fun t ht hW => ⟨⟨64, [], rfl, ⟨rfl, rfl⟩, by rw [ht]; exact hP, hD⟩, hS.F ht⟩) hS.2.2 dJ13_bitCount_95d88_60
theorem dX11_could_0 : decode cX11_could 0 = .ok (.iload_n 1, 1) := by decide +kernel
theorem dX11_could_1 : decode cX11_could 1 = .ok (.invokestatic 127, 3) := by decide +kernel
theorem dX11_could_4 : decode cX11_could 4 = .ok (.ifCond .eq 10, 3) := by decide +kernel
theorem dX11_could_7 : decode cX11_could 7 = .ok (.iload_n 2, 1) := by decide +kernel
theorem dX11_could_8 : decode cX11_could 8 = .ok (.invokestatic 241, 3) := by decide +kernel
theorem dX11_could_11 : decode cX11_could 11 = .ok (.ifCond .ne 7, 3) := by decide +kernel
theorem dX11_could_14 : decode cX11_could 14 = .ok (.ldc2_w 119, 3) := by decide +kernel
theorem dX11_could_17 : decode cX11_could 17 = .ok (.lreturn, 1) := by decide +kernel
theorem dX11_could_18 : decode cX11_could 18 = .ok (.aload_n 0, 1) := by decide +kernel
theorem dX11_could_19 : decode cX11_could 19 = .ok (.getfield 45, 3) := by decide +kernel
theorem dX11_could_22 : decode cX11_could 22 = .ok (.aload_n 0, 1) := by decide +kernel
theorem dX11_could_23 : decode cX11_could 23 = .ok (.getfield 45, 3) := by decide +kernel
theorem dX11_could_26 : decode cX11_could 26 = .ok (.invokevirtual 277, 3) := by decide +kernel
theorem dX11_could_29 : decode cX11_could 29 = .ok (.invokevirtual 280, 3) := by decide +kernel
theorem dX11_could_32 : decode cX11_could 32 = .ok (.iload_n 2, 1) := by decide +kernel
theorem dX11_could_33 : decode cX11_could 33 = .ok (.iconst (-1), 1) := by decide +kernel
theorem dX11_could_34 : decode cX11_could 34 = .ok (.if_icmp .ne 16, 3) := by decide +kernel
theorem dX11_could_37 : decode cX11_could 37 = .ok (.aload_n 0, 1) := by decide +kernel
theorem dX11_could_38 : decode cX11_could 38 = .ok (.getfield 45, 3) := by decide +kernel
theorem dX11_could_41 : decode cX11_could 41 = .ok (.iload_n 1, 1) := by decide +kernel
theorem dX11_could_42 : decode cX11_could 42 = .ok (.invokevirtual 287, 3) := by decide +kernel
theorem dX11_could_45 : decode cX11_could 45 = .ok (.invokestatic 248, 3) := by decide +kernel
theorem dX11_could_48 : decode cX11_could 48 = .ok (.i2l, 1) := by decide +kernel
theorem dX11_could_49 : decode cX11_could 49 = .ok (.lreturn, 1) := by decide +kernel
theorem dX11_could_50 : decode cX11_could 50 = .ok (.aload_n 0, 1) := by decide +kernel
theorem dX11_could_51 : decode cX11_could 51 = .ok (.getfield 45, 3) := by decide +kernel
theorem dX11_could_54 : decode cX11_could 54 = .ok (.getfield 291, 3) := by decide +kernel
theorem dX11_could_57 : decode cX11_could 57 = .ok (.iload_n 1, 1) := by decide +kernel
theorem dX11_could_58 : decode cX11_could 58 = .ok (.dup2, 1) := by decide +kernel
theorem dX11_could_59 : decode cX11_could 59 = .ok (.laload, 1) := by decide +kernel
theorem dX11_could_60 : decode cX11_could 60 = .ok (.lconst 1, 1) := by decide +kernel
theorem dX11_could_61 : decode cX11_could 61 = .ok (.iload_n 2, 1) := by decide +kernel
theorem dX11_could_62 : decode cX11_could 62 = .ok (.lshl, 1) := by decide +kernel
theorem dX11_could_63 : decode cX11_could 63 = .ok (.ldc2_w 119, 3) := by decide +kernel
theorem dX11_could_66 : decode cX11_could 66 = .ok (.lxor, 1) := by decide +kernel
theorem dX11_could_67 : decode cX11_could 67 = .ok (.lor, 1) := by decide +kernel
theorem dX11_could_68 : decode cX11_could 68 = .ok (.lastore, 1) := by decide +kernel
theorem dX11_could_69 : decode cX11_could 69 = .ok (.aload_n 0, 1) := by decide +kernel
theorem dX11_could_70 : decode cX11_could 70 = .ok (.getfield 45, 3) := by decide +kernel
theorem dX11_could_73 : decode cX11_could 73 = .ok (.invokevirtual 283, 3) := by decide +kernel
theorem dX11_could_76 : decode cX11_could 76 = .ok (.lreturn, 1) := by decide +kernel
