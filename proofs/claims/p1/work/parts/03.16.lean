set_option maxHeartbeats 4000000 in
set_option maxRecDepth 100000 in
theorem kX6_set_43 (l : Launch) (G : g5_G) (a0 a1 : Nat) (sz : Nat) : Met l yX6_set (wsG yX6_set cX6_set 4 none) ({ frames := 1, cells := 0, slots := 0, locals := 21 }) (va_Pc [.ref a0, .int 0, .int 0, .int 0] (g5_P G [(a0, .inr (6, [.int 8, .int 5, .ref a1, .int 1])), (a1, .inl (G.2 0, 40, .inl (fun _ => 0)))] sz)) (va_Qv (fun (u : va_W) => ((u = [(a1, .inl (G.2 0, 40, .inl (upd (fun _ => 0) 0 0))), (a0, .inr (6, [.int 8, .int 5, .ref a1, .int 1]))]))) (g5_B G (va_A [(a0, .inr (6, [.int 8, .int 5, .ref a1, .int 1])), (a1, .inl (G.2 0, 40, .inl (fun _ => 0)))] sz)) (va_A [(a0, .inr (6, [.int 8, .int 5, .ref a1, .int 1])), (a1, .inl (G.2 0, 40, .inl (fun _ => 0)))] sz)) 0 0 (va_A [(a0, .inr (6, [.int 8, .int 5, .ref a1, .int 1])), (a1, .inl (G.2 0, 40, .inl (fun _ => 0)))] sz) := by
  refine Met.ofW (cc := cX6_set) (maxL := 4) (ret := none) (by decide) rfl ?_
  intro p e s m args below meth c s₁ B hml hv
  obtain ⟨rfl, hsz, hP, hK, hD0, hN, hT⟩ := hv
  have hx := B.exec
  have hb := B.bytes
  have hr := B.returns
  have hts : ∀ w ∈ tblG, w.before _ s = true := fun w h => atoms_spec (ws := (wsG yX6_set cX6_set 4 none)) B.pre w (List.mem_cons_of_mem _ h)
  have hown : s.vm.findClass RX6 = some m.cls := findClass_of_methodNamed B.named
  have hlocks := B.notSynchronized
  subst hsz
  have hD := hD0.self (sz := s.heap.size)
  generalize hAe : va_A [(a0, .inr (6, [.int 8, .int 5, .ref a1, .int 1])), (a1, .inl (G.2 0, 40, .inl (fun _ => 0)))] s.heap.size = A at hD hT ⊢
  have hA : ∀ q : Nat, s.heap.size ≤ q → A q := fun q h => by rw [← hAe]; exact Or.inr h
  have hS : va_S A s.heap s.heap [] := va_S.rf
  have hP : va_P G.1 vwCl [(a0, .inr (6, [.int 8, .int 5, .ref a1, .int 1])), (a1, .inl (G.2 0, 40, .inl (fun _ => 0)))] s.heap := hP
  have hl := lv_entry ([.ref a0, .int 0, .int 0, .int 0]) (n := 4) (Nat.le_of_ble_eq_true rfl)
  rw [lg_entry_eq]
  generalize (lg_sl ([.ref a0, .int 0, .int 0, .int 0]) ++ List.replicate (4 - (lg_sl ([.ref a0, .int 0, .int 0, .int 0])).length) Slot.unset).toArray = ls at hl ⊢
  have hl : lv_has ls 4 [(0, .ref a0), (1, .int 0), (2, .int 0), (3, .int 0)] := hl
  refine lv_aload_n hx hb dX6_set_0 rfl (lv_at hl 0 rfl) ?_
  refine lv_iload_n hx hb dX6_set_1 rfl (lv_at hl 1 rfl) ?_
  have hPc := hP.sub (ws' := [(a0, .inr (6, [.int 8, .int 5, .ref a1, .int 1]))]) [0] rfl
  have hDc := hD.sub (ws' := [(a0, .inr (6, [.int 8, .int 5, .ref a1, .int 1]))]) [0] (by decide) rfl
  have hFc := va_free (wc := [(a0, .inr (6, [.int 8, .int 5, .ref a1, .int 1]))]) hD hS hA [0] rfl
  refine va_calli (va_runV (As := [.int 0]) (rest := []) ⟨hx, hb, hml, hown, hts⟩ (kX6_has_7 l G a0 a1 s.heap.size) (cwV 1 hts gV_X6_25 rfl rfl rfl hv_X6_has ⟨Nat.le_of_ble_eq_true rfl, Nat.le_of_ble_eq_true rfl⟩) (g5_preV hPc hK hDc hN hT hS hFc (ci := 6) (q0 := 0) rfl rfl) rfl rfl hl.1 rfl (lv_room (Nat.le_of_ble_eq_true rfl)) dX6_set_2 ⟨Nat.le_of_ble_eq_true rfl, Nat.le_of_ble_eq_true rfl⟩) hS (fun q _ h => hFc q h) hFc (fun r u t H1 locs ht hvm hw hB hz1 hk1 hS => ?_)
  obtain ⟨hP1, hD1⟩ := hB
  rw [ht] at hP1
  obtain ⟨rfl, rfl⟩ := hw
  obtain ⟨hP, hD⟩ := va_join (wr := [(a1, .inl (G.2 0, 40, .inl (fun _ => 0)))]) (w1 := [(a0, .inr (6, [.int 8, .int 5, .ref a1, .int 1]))]) hP hD [0] [1] rfl rfl (by decide) (by decide) hk1 hFc hP1 hD1
  generalize H1 = H at hP hS ⊢
  have hP : va_P G.1 vwCl [(a1, .inl (G.2 0, 40, .inl (fun _ => 0))), (a0, .inr (6, [.int 8, .int 5, .ref a1, .int 1]))] H := hP
  have hD : va_D A [(a1, .inl (G.2 0, 40, .inl (fun _ => 0))), (a0, .inr (6, [.int 8, .int 5, .ref a1, .int 1]))] := hD
  refine lv_if_eq (tgt := 34) hx hb dX6_set_5 (by decide) (fun c_1 => ?_) (fun c_1 => ?_)
  ·
    exact absurd c_1 (by decide)
  ·
    refine lv_iload_n hx hb dX6_set_8 rfl (lv_at hl 2 rfl) ?_
    refine lv_if_lt (tgt := 34) hx hb dX6_set_9 (by decide) (fun c_2 => ?_) (fun c_2 => ?_)
    ·
      exact absurd c_2 (by decide)
    ·
      refine lv_iload_n hx hb dX6_set_12 rfl (lv_at hl 2 rfl) ?_
      refine lv_aload_n hx hb dX6_set_13 rfl (lv_at hl 0 rfl) ?_
      refine va_get (D := G.1) (ci := 6) (v := .int 5) (C := RX6) (T := TX6) (N := 4) hx hb hts inG_X6 hown hK hP 1 rfl rfl 1 (by decide) (hts _ fl_X6_18) (fun _ h9 => h9) rfl dX6_set_14 ?_
      refine lv_icmp_ge (tgt := 34) hx hb dX6_set_17 (by decide) (fun c_3 => ?_) (fun c_3 => ?_)
      ·
        exact absurd c_3 (by decide)
      ·
        refine lv_aload_n hx hb dX6_set_20 rfl (lv_at hl 0 rfl) ?_
        refine va_get (D := G.1) (ci := 6) (v := .ref a1) (C := RX6) (T := TX6) (N := 4) hx hb hts inG_X6 hown hK hP 1 rfl rfl 2 (by decide) (hts _ fl_X6_21) (fun _ h9 => h9) rfl dX6_set_21 ?_
        refine lv_iload_n hx hb dX6_set_24 rfl (lv_at hl 1 rfl) ?_
        refine lv_aload_n hx hb dX6_set_25 rfl (lv_at hl 0 rfl) ?_
        refine va_get (D := G.1) (ci := 6) (v := .int 5) (C := RX6) (T := TX6) (N := 4) hx hb hts inG_X6 hown hK hP 1 rfl rfl 1 (by decide) (hts _ fl_X6_18) (fun _ h9 => h9) rfl dX6_set_26 ?_
        refine lv_imul hx hb dX6_set_29 ?_
        refine g5_ti (v := 0) (by decide) ?_
        refine lv_iload_n hx hb dX6_set_30 rfl (lv_at hl 2 rfl) ?_
        refine lv_iadd hx hb dX6_set_31 ?_
        refine g5_ti (v := 0) (by decide) ?_
        refine lv_iload_n hx hb dX6_set_32 rfl (lv_at hl 3 rfl) ?_
        refine va_iast hx hb hK hP hD hS 0 0 rfl rfl (i := 0) (x := 0) (by unfold vp_in; decide) dX6_set_33 (fun H locs hP hD hS => ?_)
        have hP : va_P G.1 vwCl [(a1, .inl (G.2 0, 40, .inl (upd (fun _ => 0) 0 0))), (a0, .inr (6, [.int 8, .int 5, .ref a1, .int 1]))] H := hP
        have hD : va_D A [(a1, .inl (G.2 0, 40, .inl (upd (fun _ => 0) 0 0))), (a0, .inr (6, [.int 8, .int 5, .ref a1, .int 1]))] := hD
        exact W.vret hx hb hr (fun t ht hW => ⟨⟨[(a1, .inl (G.2 0, 40, .inl (upd (fun _ => 0) 0 0))), (a0, .inr (6, [.int 8, .int 5, .ref a1, .int 1]))], rfl, rfl, by rw [ht]; exact hP, hD⟩, hS.F ht⟩) hS.2.2 dX6_set_34
set_option maxHeartbeats 4000000 in
set_option maxRecDepth 100000 in
theorem kX6_set_44 (l : Launch) (G : g5_G) (a0 a1 : Nat) (sz : Nat) : Met l yX6_set (wsG yX6_set cX6_set 4 none) ({ frames := 1, cells := 0, slots := 0, locals := 21 }) (va_Pc [.ref a0, .int 0, .int 1, .int 0] (g5_P G [(a0, .inr (6, [.int 8, .int 5, .ref a1, .int 1])), (a1, .inl (G.2 0, 40, .inl (upd (fun _ => 0) 0 0)))] sz)) (va_Qv (fun (u : va_W) => ((u = [(a1, .inl (G.2 0, 40, .inl (upd (upd (fun _ => 0) 0 0) 1 0))), (a0, .inr (6, [.int 8, .int 5, .ref a1, .int 1]))]))) (g5_B G (va_A [(a0, .inr (6, [.int 8, .int 5, .ref a1, .int 1])), (a1, .inl (G.2 0, 40, .inl (upd (fun _ => 0) 0 0)))] sz)) (va_A [(a0, .inr (6, [.int 8, .int 5, .ref a1, .int 1])), (a1, .inl (G.2 0, 40, .inl (upd (fun _ => 0) 0 0)))] sz)) 0 0 (va_A [(a0, .inr (6, [.int 8, .int 5, .ref a1, .int 1])), (a1, .inl (G.2 0, 40, .inl (upd (fun _ => 0) 0 0)))] sz) := by
  refine Met.ofW (cc := cX6_set) (maxL := 4) (ret := none) (by decide) rfl ?_
  intro p e s m args below meth c s₁ B hml hv
  obtain ⟨rfl, hsz, hP, hK, hD0, hN, hT⟩ := hv
  have hx := B.exec
  have hb := B.bytes
  have hr := B.returns
  have hts : ∀ w ∈ tblG, w.before _ s = true := fun w h => atoms_spec (ws := (wsG yX6_set cX6_set 4 none)) B.pre w (List.mem_cons_of_mem _ h)
  have hown : s.vm.findClass RX6 = some m.cls := findClass_of_methodNamed B.named
  have hlocks := B.notSynchronized
  subst hsz
  have hD := hD0.self (sz := s.heap.size)
  generalize hAe : va_A [(a0, .inr (6, [.int 8, .int 5, .ref a1, .int 1])), (a1, .inl (G.2 0, 40, .inl (upd (fun _ => 0) 0 0)))] s.heap.size = A at hD hT ⊢
  have hA : ∀ q : Nat, s.heap.size ≤ q → A q := fun q h => by rw [← hAe]; exact Or.inr h
  have hS : va_S A s.heap s.heap [] := va_S.rf
  have hP : va_P G.1 vwCl [(a0, .inr (6, [.int 8, .int 5, .ref a1, .int 1])), (a1, .inl (G.2 0, 40, .inl (upd (fun _ => 0) 0 0)))] s.heap := hP
  have hl := lv_entry ([.ref a0, .int 0, .int 1, .int 0]) (n := 4) (Nat.le_of_ble_eq_true rfl)
  rw [lg_entry_eq]
  generalize (lg_sl ([.ref a0, .int 0, .int 1, .int 0]) ++ List.replicate (4 - (lg_sl ([.ref a0, .int 0, .int 1, .int 0])).length) Slot.unset).toArray = ls at hl ⊢
  have hl : lv_has ls 4 [(0, .ref a0), (1, .int 0), (2, .int 1), (3, .int 0)] := hl
  refine lv_aload_n hx hb dX6_set_0 rfl (lv_at hl 0 rfl) ?_
  refine lv_iload_n hx hb dX6_set_1 rfl (lv_at hl 1 rfl) ?_
  have hPc := hP.sub (ws' := [(a0, .inr (6, [.int 8, .int 5, .ref a1, .int 1]))]) [0] rfl
  have hDc := hD.sub (ws' := [(a0, .inr (6, [.int 8, .int 5, .ref a1, .int 1]))]) [0] (by decide) rfl
  have hFc := va_free (wc := [(a0, .inr (6, [.int 8, .int 5, .ref a1, .int 1]))]) hD hS hA [0] rfl
  refine va_calli (va_runV (As := [.int 0]) (rest := []) ⟨hx, hb, hml, hown, hts⟩ (kX6_has_7 l G a0 a1 s.heap.size) (cwV 1 hts gV_X6_25 rfl rfl rfl hv_X6_has ⟨Nat.le_of_ble_eq_true rfl, Nat.le_of_ble_eq_true rfl⟩) (g5_preV hPc hK hDc hN hT hS hFc (ci := 6) (q0 := 0) rfl rfl) rfl rfl hl.1 rfl (lv_room (Nat.le_of_ble_eq_true rfl)) dX6_set_2 ⟨Nat.le_of_ble_eq_true rfl, Nat.le_of_ble_eq_true rfl⟩) hS (fun q _ h => hFc q h) hFc (fun r u t H1 locs ht hvm hw hB hz1 hk1 hS => ?_)
  obtain ⟨hP1, hD1⟩ := hB
  rw [ht] at hP1
  obtain ⟨rfl, rfl⟩ := hw
  obtain ⟨hP, hD⟩ := va_join (wr := [(a1, .inl (G.2 0, 40, .inl (upd (fun _ => 0) 0 0)))]) (w1 := [(a0, .inr (6, [.int 8, .int 5, .ref a1, .int 1]))]) hP hD [0] [1] rfl rfl (by decide) (by decide) hk1 hFc hP1 hD1
  generalize H1 = H at hP hS ⊢
  have hP : va_P G.1 vwCl [(a1, .inl (G.2 0, 40, .inl (upd (fun _ => 0) 0 0))), (a0, .inr (6, [.int 8, .int 5, .ref a1, .int 1]))] H := hP
  have hD : va_D A [(a1, .inl (G.2 0, 40, .inl (upd (fun _ => 0) 0 0))), (a0, .inr (6, [.int 8, .int 5, .ref a1, .int 1]))] := hD
  refine lv_if_eq (tgt := 34) hx hb dX6_set_5 (by decide) (fun c_1 => ?_) (fun c_1 => ?_)
  ·
    exact absurd c_1 (by decide)
  ·
    refine lv_iload_n hx hb dX6_set_8 rfl (lv_at hl 2 rfl) ?_
    refine lv_if_lt (tgt := 34) hx hb dX6_set_9 (by decide) (fun c_2 => ?_) (fun c_2 => ?_)
    ·
      exact absurd c_2 (by decide)
    ·
      refine lv_iload_n hx hb dX6_set_12 rfl (lv_at hl 2 rfl) ?_
      refine lv_aload_n hx hb dX6_set_13 rfl (lv_at hl 0 rfl) ?_
      refine va_get (D := G.1) (ci := 6) (v := .int 5) (C := RX6) (T := TX6) (N := 4) hx hb hts inG_X6 hown hK hP 1 rfl rfl 1 (by decide) (hts _ fl_X6_18) (fun _ h9 => h9) rfl dX6_set_14 ?_
      refine lv_icmp_ge (tgt := 34) hx hb dX6_set_17 (by decide) (fun c_3 => ?_) (fun c_3 => ?_)
      ·
        exact absurd c_3 (by decide)
      ·
        refine lv_aload_n hx hb dX6_set_20 rfl (lv_at hl 0 rfl) ?_
        refine va_get (D := G.1) (ci := 6) (v := .ref a1) (C := RX6) (T := TX6) (N := 4) hx hb hts inG_X6 hown hK hP 1 rfl rfl 2 (by decide) (hts _ fl_X6_21) (fun _ h9 => h9) rfl dX6_set_21 ?_
        refine lv_iload_n hx hb dX6_set_24 rfl (lv_at hl 1 rfl) ?_
        refine lv_aload_n hx hb dX6_set_25 rfl (lv_at hl 0 rfl) ?_
        refine va_get (D := G.1) (ci := 6) (v := .int 5) (C := RX6) (T := TX6) (N := 4) hx hb hts inG_X6 hown hK hP 1 rfl rfl 1 (by decide) (hts _ fl_X6_18) (fun _ h9 => h9) rfl dX6_set_26 ?_
        refine lv_imul hx hb dX6_set_29 ?_
        refine g5_ti (v := 0) (by decide) ?_
        refine lv_iload_n hx hb dX6_set_30 rfl (lv_at hl 2 rfl) ?_
        refine lv_iadd hx hb dX6_set_31 ?_
        refine g5_ti (v := 1) (by decide) ?_
        refine lv_iload_n hx hb dX6_set_32 rfl (lv_at hl 3 rfl) ?_
        refine va_iast hx hb hK hP hD hS 0 0 rfl rfl (i := 1) (x := 0) (by unfold vp_in; decide) dX6_set_33 (fun H locs hP hD hS => ?_)
        have hP : va_P G.1 vwCl [(a1, .inl (G.2 0, 40, .inl (upd (upd (fun _ => 0) 0 0) 1 0))), (a0, .inr (6, [.int 8, .int 5, .ref a1, .int 1]))] H := hP
        have hD : va_D A [(a1, .inl (G.2 0, 40, .inl (upd (upd (fun _ => 0) 0 0) 1 0))), (a0, .inr (6, [.int 8, .int 5, .ref a1, .int 1]))] := hD
        exact W.vret hx hb hr (fun t ht hW => ⟨⟨[(a1, .inl (G.2 0, 40, .inl (upd (upd (fun _ => 0) 0 0) 1 0))), (a0, .inr (6, [.int 8, .int 5, .ref a1, .int 1]))], rfl, rfl, by rw [ht]; exact hP, hD⟩, hS.F ht⟩) hS.2.2 dX6_set_34
set_option maxHeartbeats 4000000 in
set_option maxRecDepth 100000 in
theorem kX6_set_45 (l : Launch) (G : g5_G) (a0 a1 : Nat) (sz : Nat) : Met l yX6_set (wsG yX6_set cX6_set 4 none) ({ frames := 1, cells := 0, slots := 0, locals := 21 }) (va_Pc [.ref a0, .int 0, .int 2, .int 0] (g5_P G [(a0, .inr (6, [.int 8, .int 5, .ref a1, .int 1])), (a1, .inl (G.2 0, 40, .inl (upd (upd (fun _ => 0) 0 0) 1 0)))] sz)) (va_Qv (fun (u : va_W) => ((u = [(a1, .inl (G.2 0, 40, .inl (upd (upd (upd (fun _ => 0) 0 0) 1 0) 2 0))), (a0, .inr (6, [.int 8, .int 5, .ref a1, .int 1]))]))) (g5_B G (va_A [(a0, .inr (6, [.int 8, .int 5, .ref a1, .int 1])), (a1, .inl (G.2 0, 40, .inl (upd (upd (fun _ => 0) 0 0) 1 0)))] sz)) (va_A [(a0, .inr (6, [.int 8, .int 5, .ref a1, .int 1])), (a1, .inl (G.2 0, 40, .inl (upd (upd (fun _ => 0) 0 0) 1 0)))] sz)) 0 0 (va_A [(a0, .inr (6, [.int 8, .int 5, .ref a1, .int 1])), (a1, .inl (G.2 0, 40, .inl (upd (upd (fun _ => 0) 0 0) 1 0)))] sz) := by
  refine Met.ofW (cc := cX6_set) (maxL := 4) (ret := none) (by decide) rfl ?_
  intro p e s m args below meth c s₁ B hml hv
  obtain ⟨rfl, hsz, hP, hK, hD0, hN, hT⟩ := hv
  have hx := B.exec
  have hb := B.bytes
  have hr := B.returns
  have hts : ∀ w ∈ tblG, w.before _ s = true := fun w h => atoms_spec (ws := (wsG yX6_set cX6_set 4 none)) B.pre w (List.mem_cons_of_mem _ h)
  have hown : s.vm.findClass RX6 = some m.cls := findClass_of_methodNamed B.named
  have hlocks := B.notSynchronized
  subst hsz
  have hD := hD0.self (sz := s.heap.size)
  generalize hAe : va_A [(a0, .inr (6, [.int 8, .int 5, .ref a1, .int 1])), (a1, .inl (G.2 0, 40, .inl (upd (upd (fun _ => 0) 0 0) 1 0)))] s.heap.size = A at hD hT ⊢
  have hA : ∀ q : Nat, s.heap.size ≤ q → A q := fun q h => by rw [← hAe]; exact Or.inr h
  have hS : va_S A s.heap s.heap [] := va_S.rf
  have hP : va_P G.1 vwCl [(a0, .inr (6, [.int 8, .int 5, .ref a1, .int 1])), (a1, .inl (G.2 0, 40, .inl (upd (upd (fun _ => 0) 0 0) 1 0)))] s.heap := hP
  have hl := lv_entry ([.ref a0, .int 0, .int 2, .int 0]) (n := 4) (Nat.le_of_ble_eq_true rfl)
  rw [lg_entry_eq]
  generalize (lg_sl ([.ref a0, .int 0, .int 2, .int 0]) ++ List.replicate (4 - (lg_sl ([.ref a0, .int 0, .int 2, .int 0])).length) Slot.unset).toArray = ls at hl ⊢
  have hl : lv_has ls 4 [(0, .ref a0), (1, .int 0), (2, .int 2), (3, .int 0)] := hl
  refine lv_aload_n hx hb dX6_set_0 rfl (lv_at hl 0 rfl) ?_
  refine lv_iload_n hx hb dX6_set_1 rfl (lv_at hl 1 rfl) ?_
  have hPc := hP.sub (ws' := [(a0, .inr (6, [.int 8, .int 5, .ref a1, .int 1]))]) [0] rfl
  have hDc := hD.sub (ws' := [(a0, .inr (6, [.int 8, .int 5, .ref a1, .int 1]))]) [0] (by decide) rfl
  have hFc := va_free (wc := [(a0, .inr (6, [.int 8, .int 5, .ref a1, .int 1]))]) hD hS hA [0] rfl
  refine va_calli (va_runV (As := [.int 0]) (rest := []) ⟨hx, hb, hml, hown, hts⟩ (kX6_has_7 l G a0 a1 s.heap.size) (cwV 1 hts gV_X6_25 rfl rfl rfl hv_X6_has ⟨Nat.le_of_ble_eq_true rfl, Nat.le_of_ble_eq_true rfl⟩) (g5_preV hPc hK hDc hN hT hS hFc (ci := 6) (q0 := 0) rfl rfl) rfl rfl hl.1 rfl (lv_room (Nat.le_of_ble_eq_true rfl)) dX6_set_2 ⟨Nat.le_of_ble_eq_true rfl, Nat.le_of_ble_eq_true rfl⟩) hS (fun q _ h => hFc q h) hFc (fun r u t H1 locs ht hvm hw hB hz1 hk1 hS => ?_)
  obtain ⟨hP1, hD1⟩ := hB
  rw [ht] at hP1
  obtain ⟨rfl, rfl⟩ := hw
  obtain ⟨hP, hD⟩ := va_join (wr := [(a1, .inl (G.2 0, 40, .inl (upd (upd (fun _ => 0) 0 0) 1 0)))]) (w1 := [(a0, .inr (6, [.int 8, .int 5, .ref a1, .int 1]))]) hP hD [0] [1] rfl rfl (by decide) (by decide) hk1 hFc hP1 hD1
  generalize H1 = H at hP hS ⊢
  have hP : va_P G.1 vwCl [(a1, .inl (G.2 0, 40, .inl (upd (upd (fun _ => 0) 0 0) 1 0))), (a0, .inr (6, [.int 8, .int 5, .ref a1, .int 1]))] H := hP
  have hD : va_D A [(a1, .inl (G.2 0, 40, .inl (upd (upd (fun _ => 0) 0 0) 1 0))), (a0, .inr (6, [.int 8, .int 5, .ref a1, .int 1]))] := hD
  refine lv_if_eq (tgt := 34) hx hb dX6_set_5 (by decide) (fun c_1 => ?_) (fun c_1 => ?_)
  ·
    exact absurd c_1 (by decide)
  ·
    refine lv_iload_n hx hb dX6_set_8 rfl (lv_at hl 2 rfl) ?_
    refine lv_if_lt (tgt := 34) hx hb dX6_set_9 (by decide) (fun c_2 => ?_) (fun c_2 => ?_)
    ·
      exact absurd c_2 (by decide)
    ·
      refine lv_iload_n hx hb dX6_set_12 rfl (lv_at hl 2 rfl) ?_
      refine lv_aload_n hx hb dX6_set_13 rfl (lv_at hl 0 rfl) ?_
      refine va_get (D := G.1) (ci := 6) (v := .int 5) (C := RX6) (T := TX6) (N := 4) hx hb hts inG_X6 hown hK hP 1 rfl rfl 1 (by decide) (hts _ fl_X6_18) (fun _ h9 => h9) rfl dX6_set_14 ?_
      refine lv_icmp_ge (tgt := 34) hx hb dX6_set_17 (by decide) (fun c_3 => ?_) (fun c_3 => ?_)
      ·
        exact absurd c_3 (by decide)
      ·
        refine lv_aload_n hx hb dX6_set_20 rfl (lv_at hl 0 rfl) ?_
        refine va_get (D := G.1) (ci := 6) (v := .ref a1) (C := RX6) (T := TX6) (N := 4) hx hb hts inG_X6 hown hK hP 1 rfl rfl 2 (by decide) (hts _ fl_X6_21) (fun _ h9 => h9) rfl dX6_set_21 ?_
        refine lv_iload_n hx hb dX6_set_24 rfl (lv_at hl 1 rfl) ?_
        refine lv_aload_n hx hb dX6_set_25 rfl (lv_at hl 0 rfl) ?_
        refine va_get (D := G.1) (ci := 6) (v := .int 5) (C := RX6) (T := TX6) (N := 4) hx hb hts inG_X6 hown hK hP 1 rfl rfl 1 (by decide) (hts _ fl_X6_18) (fun _ h9 => h9) rfl dX6_set_26 ?_
        refine lv_imul hx hb dX6_set_29 ?_
        refine g5_ti (v := 0) (by decide) ?_
        refine lv_iload_n hx hb dX6_set_30 rfl (lv_at hl 2 rfl) ?_
        refine lv_iadd hx hb dX6_set_31 ?_
        refine g5_ti (v := 2) (by decide) ?_
        refine lv_iload_n hx hb dX6_set_32 rfl (lv_at hl 3 rfl) ?_
        refine va_iast hx hb hK hP hD hS 0 0 rfl rfl (i := 2) (x := 0) (by unfold vp_in; decide) dX6_set_33 (fun H locs hP hD hS => ?_)
        have hP : va_P G.1 vwCl [(a1, .inl (G.2 0, 40, .inl (upd (upd (upd (fun _ => 0) 0 0) 1 0) 2 0))), (a0, .inr (6, [.int 8, .int 5, .ref a1, .int 1]))] H := hP
        have hD : va_D A [(a1, .inl (G.2 0, 40, .inl (upd (upd (upd (fun _ => 0) 0 0) 1 0) 2 0))), (a0, .inr (6, [.int 8, .int 5, .ref a1, .int 1]))] := hD
        exact W.vret hx hb hr (fun t ht hW => ⟨⟨[(a1, .inl (G.2 0, 40, .inl (upd (upd (upd (fun _ => 0) 0 0) 1 0) 2 0))), (a0, .inr (6, [.int 8, .int 5, .ref a1, .int 1]))], rfl, rfl, by rw [ht]; exact hP, hD⟩, hS.F ht⟩) hS.2.2 dX6_set_34
set_option maxHeartbeats 4000000 in
set_option maxRecDepth 100000 in
theorem kX6_set_46 (l : Launch) (G : g5_G) (a0 a1 : Nat) (sz : Nat) : Met l yX6_set (wsG yX6_set cX6_set 4 none) ({ frames := 1, cells := 0, slots := 0, locals := 21 }) (va_Pc [.ref a0, .int 0, .int 3, .int 0] (g5_P G [(a0, .inr (6, [.int 8, .int 5, .ref a1, .int 1])), (a1, .inl (G.2 0, 40, .inl (upd (upd (upd (fun _ => 0) 0 0) 1 0) 2 0)))] sz)) (va_Qv (fun (u : va_W) => ((u = [(a1, .inl (G.2 0, 40, .inl (upd (upd (upd (upd (fun _ => 0) 0 0) 1 0) 2 0) 3 0))), (a0, .inr (6, [.int 8, .int 5, .ref a1, .int 1]))]))) (g5_B G (va_A [(a0, .inr (6, [.int 8, .int 5, .ref a1, .int 1])), (a1, .inl (G.2 0, 40, .inl (upd (upd (upd (fun _ => 0) 0 0) 1 0) 2 0)))] sz)) (va_A [(a0, .inr (6, [.int 8, .int 5, .ref a1, .int 1])), (a1, .inl (G.2 0, 40, .inl (upd (upd (upd (fun _ => 0) 0 0) 1 0) 2 0)))] sz)) 0 0 (va_A [(a0, .inr (6, [.int 8, .int 5, .ref a1, .int 1])), (a1, .inl (G.2 0, 40, .inl (upd (upd (upd (fun _ => 0) 0 0) 1 0) 2 0)))] sz) := by
  refine Met.ofW (cc := cX6_set) (maxL := 4) (ret := none) (by decide) rfl ?_
  intro p e s m args below meth c s₁ B hml hv
  obtain ⟨rfl, hsz, hP, hK, hD0, hN, hT⟩ := hv
  have hx := B.exec
  have hb := B.bytes
  have hr := B.returns
  have hts : ∀ w ∈ tblG, w.before _ s = true := fun w h => atoms_spec (ws := (wsG yX6_set cX6_set 4 none)) B.pre w (List.mem_cons_of_mem _ h)
  have hown : s.vm.findClass RX6 = some m.cls := findClass_of_methodNamed B.named
  have hlocks := B.notSynchronized
  subst hsz
  have hD := hD0.self (sz := s.heap.size)
  generalize hAe : va_A [(a0, .inr (6, [.int 8, .int 5, .ref a1, .int 1])), (a1, .inl (G.2 0, 40, .inl (upd (upd (upd (fun _ => 0) 0 0) 1 0) 2 0)))] s.heap.size = A at hD hT ⊢
  have hA : ∀ q : Nat, s.heap.size ≤ q → A q := fun q h => by rw [← hAe]; exact Or.inr h
  have hS : va_S A s.heap s.heap [] := va_S.rf
  have hP : va_P G.1 vwCl [(a0, .inr (6, [.int 8, .int 5, .ref a1, .int 1])), (a1, .inl (G.2 0, 40, .inl (upd (upd (upd (fun _ => 0) 0 0) 1 0) 2 0)))] s.heap := hP
  have hl := lv_entry ([.ref a0, .int 0, .int 3, .int 0]) (n := 4) (Nat.le_of_ble_eq_true rfl)
  rw [lg_entry_eq]
  generalize (lg_sl ([.ref a0, .int 0, .int 3, .int 0]) ++ List.replicate (4 - (lg_sl ([.ref a0, .int 0, .int 3, .int 0])).length) Slot.unset).toArray = ls at hl ⊢
  have hl : lv_has ls 4 [(0, .ref a0), (1, .int 0), (2, .int 3), (3, .int 0)] := hl
  refine lv_aload_n hx hb dX6_set_0 rfl (lv_at hl 0 rfl) ?_
  refine lv_iload_n hx hb dX6_set_1 rfl (lv_at hl 1 rfl) ?_
  have hPc := hP.sub (ws' := [(a0, .inr (6, [.int 8, .int 5, .ref a1, .int 1]))]) [0] rfl
  have hDc := hD.sub (ws' := [(a0, .inr (6, [.int 8, .int 5, .ref a1, .int 1]))]) [0] (by decide) rfl
  have hFc := va_free (wc := [(a0, .inr (6, [.int 8, .int 5, .ref a1, .int 1]))]) hD hS hA [0] rfl
  refine va_calli (va_runV (As := [.int 0]) (rest := []) ⟨hx, hb, hml, hown, hts⟩ (kX6_has_7 l G a0 a1 s.heap.size) (cwV 1 hts gV_X6_25 rfl rfl rfl hv_X6_has ⟨Nat.le_of_ble_eq_true rfl, Nat.le_of_ble_eq_true rfl⟩) (g5_preV hPc hK hDc hN hT hS hFc (ci := 6) (q0 := 0) rfl rfl) rfl rfl hl.1 rfl (lv_room (Nat.le_of_ble_eq_true rfl)) dX6_set_2 ⟨Nat.le_of_ble_eq_true rfl, Nat.le_of_ble_eq_true rfl⟩) hS (fun q _ h => hFc q h) hFc (fun r u t H1 locs ht hvm hw hB hz1 hk1 hS => ?_)
  obtain ⟨hP1, hD1⟩ := hB
  rw [ht] at hP1
  obtain ⟨rfl, rfl⟩ := hw
  obtain ⟨hP, hD⟩ := va_join (wr := [(a1, .inl (G.2 0, 40, .inl (upd (upd (upd (fun _ => 0) 0 0) 1 0) 2 0)))]) (w1 := [(a0, .inr (6, [.int 8, .int 5, .ref a1, .int 1]))]) hP hD [0] [1] rfl rfl (by decide) (by decide) hk1 hFc hP1 hD1
  generalize H1 = H at hP hS ⊢
  have hP : va_P G.1 vwCl [(a1, .inl (G.2 0, 40, .inl (upd (upd (upd (fun _ => 0) 0 0) 1 0) 2 0))), (a0, .inr (6, [.int 8, .int 5, .ref a1, .int 1]))] H := hP
  have hD : va_D A [(a1, .inl (G.2 0, 40, .inl (upd (upd (upd (fun _ => 0) 0 0) 1 0) 2 0))), (a0, .inr (6, [.int 8, .int 5, .ref a1, .int 1]))] := hD
  refine lv_if_eq (tgt := 34) hx hb dX6_set_5 (by decide) (fun c_1 => ?_) (fun c_1 => ?_)
  ·
    exact absurd c_1 (by decide)
  ·
    refine lv_iload_n hx hb dX6_set_8 rfl (lv_at hl 2 rfl) ?_
    refine lv_if_lt (tgt := 34) hx hb dX6_set_9 (by decide) (fun c_2 => ?_) (fun c_2 => ?_)
    ·
      exact absurd c_2 (by decide)
    ·
      refine lv_iload_n hx hb dX6_set_12 rfl (lv_at hl 2 rfl) ?_
      refine lv_aload_n hx hb dX6_set_13 rfl (lv_at hl 0 rfl) ?_
      refine va_get (D := G.1) (ci := 6) (v := .int 5) (C := RX6) (T := TX6) (N := 4) hx hb hts inG_X6 hown hK hP 1 rfl rfl 1 (by decide) (hts _ fl_X6_18) (fun _ h9 => h9) rfl dX6_set_14 ?_
      refine lv_icmp_ge (tgt := 34) hx hb dX6_set_17 (by decide) (fun c_3 => ?_) (fun c_3 => ?_)
      ·
        exact absurd c_3 (by decide)
      ·
        refine lv_aload_n hx hb dX6_set_20 rfl (lv_at hl 0 rfl) ?_
        refine va_get (D := G.1) (ci := 6) (v := .ref a1) (C := RX6) (T := TX6) (N := 4) hx hb hts inG_X6 hown hK hP 1 rfl rfl 2 (by decide) (hts _ fl_X6_21) (fun _ h9 => h9) rfl dX6_set_21 ?_
        refine lv_iload_n hx hb dX6_set_24 rfl (lv_at hl 1 rfl) ?_
        refine lv_aload_n hx hb dX6_set_25 rfl (lv_at hl 0 rfl) ?_
        refine va_get (D := G.1) (ci := 6) (v := .int 5) (C := RX6) (T := TX6) (N := 4) hx hb hts inG_X6 hown hK hP 1 rfl rfl 1 (by decide) (hts _ fl_X6_18) (fun _ h9 => h9) rfl dX6_set_26 ?_
        refine lv_imul hx hb dX6_set_29 ?_
        refine g5_ti (v := 0) (by decide) ?_
        refine lv_iload_n hx hb dX6_set_30 rfl (lv_at hl 2 rfl) ?_
        refine lv_iadd hx hb dX6_set_31 ?_
        refine g5_ti (v := 3) (by decide) ?_
        refine lv_iload_n hx hb dX6_set_32 rfl (lv_at hl 3 rfl) ?_
        refine va_iast hx hb hK hP hD hS 0 0 rfl rfl (i := 3) (x := 0) (by unfold vp_in; decide) dX6_set_33 (fun H locs hP hD hS => ?_)
        have hP : va_P G.1 vwCl [(a1, .inl (G.2 0, 40, .inl (upd (upd (upd (upd (fun _ => 0) 0 0) 1 0) 2 0) 3 0))), (a0, .inr (6, [.int 8, .int 5, .ref a1, .int 1]))] H := hP
        have hD : va_D A [(a1, .inl (G.2 0, 40, .inl (upd (upd (upd (upd (fun _ => 0) 0 0) 1 0) 2 0) 3 0))), (a0, .inr (6, [.int 8, .int 5, .ref a1, .int 1]))] := hD
        exact W.vret hx hb hr (fun t ht hW => ⟨⟨[(a1, .inl (G.2 0, 40, .inl (upd (upd (upd (upd (fun _ => 0) 0 0) 1 0) 2 0) 3 0))), (a0, .inr (6, [.int 8, .int 5, .ref a1, .int 1]))], rfl, rfl, by rw [ht]; exact hP, hD⟩, hS.F ht⟩) hS.2.2 dX6_set_34
set_option maxHeartbeats 4000000 in
set_option maxRecDepth 100000 in
theorem kX6_set_47 (l : Launch) (G : g5_G) (a0 a1 : Nat) (sz : Nat) (f0 : Nat → Int32) : Met l yX6_set (wsG yX6_set cX6_set 4 none) ({ frames := 1, cells := 0, slots := 0, locals := 21 }) (va_Pc [.ref a0, .int 0, .int 4, .int 0] (g5_P G [(a0, .inr (6, [.int 8, .int 5, .ref a1, .int 1])), (a1, .inl (G.2 0, 40, .inl f0))] sz)) (va_Qv (fun (u : va_W) => ((u = [(a1, .inl (G.2 0, 40, .inl (upd f0 4 0))), (a0, .inr (6, [.int 8, .int 5, .ref a1, .int 1]))]))) (g5_B G (va_A [(a0, .inr (6, [.int 8, .int 5, .ref a1, .int 1])), (a1, .inl (G.2 0, 40, .inl f0))] sz)) (va_A [(a0, .inr (6, [.int 8, .int 5, .ref a1, .int 1])), (a1, .inl (G.2 0, 40, .inl f0))] sz)) 0 0 (va_A [(a0, .inr (6, [.int 8, .int 5, .ref a1, .int 1])), (a1, .inl (G.2 0, 40, .inl f0))] sz) := by
  refine Met.ofW (cc := cX6_set) (maxL := 4) (ret := none) (by decide) rfl ?_
  intro p e s m args below meth c s₁ B hml hv
  obtain ⟨rfl, hsz, hP, hK, hD0, hN, hT⟩ := hv
  have hx := B.exec
  have hb := B.bytes
  have hr := B.returns
  have hts : ∀ w ∈ tblG, w.before _ s = true := fun w h => atoms_spec (ws := (wsG yX6_set cX6_set 4 none)) B.pre w (List.mem_cons_of_mem _ h)
  have hown : s.vm.findClass RX6 = some m.cls := findClass_of_methodNamed B.named
  have hlocks := B.notSynchronized
  subst hsz
  have hD := hD0.self (sz := s.heap.size)
  generalize hAe : va_A [(a0, .inr (6, [.int 8, .int 5, .ref a1, .int 1])), (a1, .inl (G.2 0, 40, .inl f0))] s.heap.size = A at hD hT ⊢
  have hA : ∀ q : Nat, s.heap.size ≤ q → A q := fun q h => by rw [← hAe]; exact Or.inr h
  have hS : va_S A s.heap s.heap [] := va_S.rf
  have hP : va_P G.1 vwCl [(a0, .inr (6, [.int 8, .int 5, .ref a1, .int 1])), (a1, .inl (G.2 0, 40, .inl f0))] s.heap := hP
  have hl := lv_entry ([.ref a0, .int 0, .int 4, .int 0]) (n := 4) (Nat.le_of_ble_eq_true rfl)
  rw [lg_entry_eq]
  generalize (lg_sl ([.ref a0, .int 0, .int 4, .int 0]) ++ List.replicate (4 - (lg_sl ([.ref a0, .int 0, .int 4, .int 0])).length) Slot.unset).toArray = ls at hl ⊢
  have hl : lv_has ls 4 [(0, .ref a0), (1, .int 0), (2, .int 4), (3, .int 0)] := hl
  refine lv_aload_n hx hb dX6_set_0 rfl (lv_at hl 0 rfl) ?_
  refine lv_iload_n hx hb dX6_set_1 rfl (lv_at hl 1 rfl) ?_
  have hPc := hP.sub (ws' := [(a0, .inr (6, [.int 8, .int 5, .ref a1, .int 1]))]) [0] rfl
  have hDc := hD.sub (ws' := [(a0, .inr (6, [.int 8, .int 5, .ref a1, .int 1]))]) [0] (by decide) rfl
  have hFc := va_free (wc := [(a0, .inr (6, [.int 8, .int 5, .ref a1, .int 1]))]) hD hS hA [0] rfl
  refine va_calli (va_runV (As := [.int 0]) (rest := []) ⟨hx, hb, hml, hown, hts⟩ (kX6_has_7 l G a0 a1 s.heap.size) (cwV 1 hts gV_X6_25 rfl rfl rfl hv_X6_has ⟨Nat.le_of_ble_eq_true rfl, Nat.le_of_ble_eq_true rfl⟩) (g5_preV hPc hK hDc hN hT hS hFc (ci := 6) (q0 := 0) rfl rfl) rfl rfl hl.1 rfl (lv_room (Nat.le_of_ble_eq_true rfl)) dX6_set_2 ⟨Nat.le_of_ble_eq_true rfl, Nat.le_of_ble_eq_true rfl⟩) hS (fun q _ h => hFc q h) hFc (fun r u t H1 locs ht hvm hw hB hz1 hk1 hS => ?_)
  obtain ⟨hP1, hD1⟩ := hB
  rw [ht] at hP1
  obtain ⟨rfl, rfl⟩ := hw
  obtain ⟨hP, hD⟩ := va_join (wr := [(a1, .inl (G.2 0, 40, .inl f0))]) (w1 := [(a0, .inr (6, [.int 8, .int 5, .ref a1, .int 1]))]) hP hD [0] [1] rfl rfl (by decide) (by decide) hk1 hFc hP1 hD1
  generalize H1 = H at hP hS ⊢
  have hP : va_P G.1 vwCl [(a1, .inl (G.2 0, 40, .inl f0)), (a0, .inr (6, [.int 8, .int 5, .ref a1, .int 1]))] H := hP
  have hD : va_D A [(a1, .inl (G.2 0, 40, .inl f0)), (a0, .inr (6, [.int 8, .int 5, .ref a1, .int 1]))] := hD
  refine lv_if_eq (tgt := 34) hx hb dX6_set_5 (by decide) (fun c_1 => ?_) (fun c_1 => ?_)
  ·
    exact absurd c_1 (by decide)
  ·
    refine lv_iload_n hx hb dX6_set_8 rfl (lv_at hl 2 rfl) ?_
    refine lv_if_lt (tgt := 34) hx hb dX6_set_9 (by decide) (fun c_2 => ?_) (fun c_2 => ?_)
    ·
      exact absurd c_2 (by decide)
    ·
      refine lv_iload_n hx hb dX6_set_12 rfl (lv_at hl 2 rfl) ?_
      refine lv_aload_n hx hb dX6_set_13 rfl (lv_at hl 0 rfl) ?_
      refine va_get (D := G.1) (ci := 6) (v := .int 5) (C := RX6) (T := TX6) (N := 4) hx hb hts inG_X6 hown hK hP 1 rfl rfl 1 (by decide) (hts _ fl_X6_18) (fun _ h9 => h9) rfl dX6_set_14 ?_
      refine lv_icmp_ge (tgt := 34) hx hb dX6_set_17 (by decide) (fun c_3 => ?_) (fun c_3 => ?_)
      ·
        exact absurd c_3 (by decide)
      ·
        refine lv_aload_n hx hb dX6_set_20 rfl (lv_at hl 0 rfl) ?_
        refine va_get (D := G.1) (ci := 6) (v := .ref a1) (C := RX6) (T := TX6) (N := 4) hx hb hts inG_X6 hown hK hP 1 rfl rfl 2 (by decide) (hts _ fl_X6_21) (fun _ h9 => h9) rfl dX6_set_21 ?_
        refine lv_iload_n hx hb dX6_set_24 rfl (lv_at hl 1 rfl) ?_
        refine lv_aload_n hx hb dX6_set_25 rfl (lv_at hl 0 rfl) ?_
        refine va_get (D := G.1) (ci := 6) (v := .int 5) (C := RX6) (T := TX6) (N := 4) hx hb hts inG_X6 hown hK hP 1 rfl rfl 1 (by decide) (hts _ fl_X6_18) (fun _ h9 => h9) rfl dX6_set_26 ?_
        refine lv_imul hx hb dX6_set_29 ?_
        refine g5_ti (v := 0) (by decide) ?_
        refine lv_iload_n hx hb dX6_set_30 rfl (lv_at hl 2 rfl) ?_
        refine lv_iadd hx hb dX6_set_31 ?_
        refine g5_ti (v := 4) (by decide) ?_
        refine lv_iload_n hx hb dX6_set_32 rfl (lv_at hl 3 rfl) ?_
        refine va_iast hx hb hK hP hD hS 0 0 rfl rfl (i := 4) (x := 0) (by unfold vp_in; decide) dX6_set_33 (fun H locs hP hD hS => ?_)
        have hP : va_P G.1 vwCl [(a1, .inl (G.2 0, 40, .inl (upd f0 4 0))), (a0, .inr (6, [.int 8, .int 5, .ref a1, .int 1]))] H := hP
        have hD : va_D A [(a1, .inl (G.2 0, 40, .inl (upd f0 4 0))), (a0, .inr (6, [.int 8, .int 5, .ref a1, .int 1]))] := hD
        exact W.vret hx hb hr (fun t ht hW => ⟨⟨[(a1, .inl (G.2 0, 40, .inl (upd f0 4 0))), (a0, .inr (6, [.int 8, .int 5, .ref a1, .int 1]))], rfl, rfl, by rw [ht]; exact hP, hD⟩, hS.F ht⟩) hS.2.2 dX6_set_34
set_option maxHeartbeats 4000000 in
set_option maxRecDepth 100000 in
theorem kX6_open_4 (l : Launch) (G : g5_G) (a0 a1 : Nat) (sz : Nat) : Met l yX6_open (wsG yX6_open cX6_open 4 (some .int)) ({ frames := 2, cells := 0, slots := 0, locals := 44 }) (va_Pc [.ref a0, .int 0] (g5_P G [(a0, .inr (6, [.int 8, .int 5, .ref a1, .int 0])), (a1, .inl (G.2 0, 40, .inl (fun _ => 0)))] sz)) (va_Qi (fun (r : Int32) (u : va_W) => ((r = 0) ∧ (u = [(a1, .inl (G.2 0, 40, .inl (upd (upd (upd (upd (upd (fun _ => 0) 0 0) 1 0) 2 0) 3 0) 4 0))), (a0, .inr (6, [.int 8, .int 5, .ref a1, .int 1]))]))) (g5_B G (va_A [(a0, .inr (6, [.int 8, .int 5, .ref a1, .int 0])), (a1, .inl (G.2 0, 40, .inl (fun _ => 0)))] sz)) (va_A [(a0, .inr (6, [.int 8, .int 5, .ref a1, .int 0])), (a1, .inl (G.2 0, 40, .inl (fun _ => 0)))] sz)) 0 0 (va_A [(a0, .inr (6, [.int 8, .int 5, .ref a1, .int 0])), (a1, .inl (G.2 0, 40, .inl (fun _ => 0)))] sz) := by
  refine Met.ofW (cc := cX6_open) (maxL := 4) (ret := (some .int)) (by decide) rfl ?_
  intro p e s m args below meth c s₁ B hml hv
  obtain ⟨rfl, hsz, hP, hK, hD0, hN, hT⟩ := hv
  have hx := B.exec
  have hb := B.bytes
  have hr := B.returns
  have hts : ∀ w ∈ tblG, w.before _ s = true := fun w h => atoms_spec (ws := (wsG yX6_open cX6_open 4 (some .int))) B.pre w (List.mem_cons_of_mem _ h)
  have hown : s.vm.findClass RX6 = some m.cls := findClass_of_methodNamed B.named
  have hlocks := B.notSynchronized
  subst hsz
  have hD := hD0.self (sz := s.heap.size)
  generalize hAe : va_A [(a0, .inr (6, [.int 8, .int 5, .ref a1, .int 0])), (a1, .inl (G.2 0, 40, .inl (fun _ => 0)))] s.heap.size = A at hD hT ⊢
  have hA : ∀ q : Nat, s.heap.size ≤ q → A q := fun q h => by rw [← hAe]; exact Or.inr h
  have hS : va_S A s.heap s.heap [] := va_S.rf
  have hP : va_P G.1 vwCl [(a0, .inr (6, [.int 8, .int 5, .ref a1, .int 0])), (a1, .inl (G.2 0, 40, .inl (fun _ => 0)))] s.heap := hP
  have hl := lv_entry ([.ref a0, .int 0]) (n := 4) (Nat.le_of_ble_eq_true rfl)
  rw [lg_entry_eq]
  generalize (lg_sl ([.ref a0, .int 0]) ++ List.replicate (4 - (lg_sl ([.ref a0, .int 0])).length) Slot.unset).toArray = ls at hl ⊢
  have hl : lv_has ls 4 [(0, .ref a0), (1, .int 0)] := hl
  refine lv_aload_n hx hb dX6_open_0 rfl (lv_at hl 0 rfl) ?_
  have hPc := hP.sub (ws' := [(a0, .inr (6, [.int 8, .int 5, .ref a1, .int 0]))]) [0] rfl
  have hDc := hD.sub (ws' := [(a0, .inr (6, [.int 8, .int 5, .ref a1, .int 0]))]) [0] (by decide) rfl
  have hFc := va_free (wc := [(a0, .inr (6, [.int 8, .int 5, .ref a1, .int 0]))]) hD hS hA [0] rfl
  refine va_calli (va_runV (As := []) (rest := []) ⟨hx, hb, hml, hown, hts⟩ (kX6_isFull_4 l G a0 a1 s.heap.size) (cwV 0 hts gV_X6_33 rfl rfl rfl hv_X6_isFull ⟨Nat.le_of_ble_eq_true rfl, Nat.le_of_ble_eq_true rfl⟩) (g5_preV hPc hK hDc hN hT hS hFc (ci := 6) (q0 := 0) rfl rfl) rfl rfl hl.1 rfl (lv_room (Nat.le_of_ble_eq_true rfl)) dX6_open_1 ⟨Nat.le_of_ble_eq_true rfl, Nat.le_of_ble_eq_true rfl⟩) hS (fun q _ h => hFc q h) hFc (fun r u t H1 locs ht hvm hw hB hz1 hk1 hS => ?_)
  obtain ⟨hP1, hD1⟩ := hB
  rw [ht] at hP1
  obtain ⟨rfl, rfl⟩ := hw
  obtain ⟨hP, hD⟩ := va_join (wr := [(a1, .inl (G.2 0, 40, .inl (fun _ => 0)))]) (w1 := [(a0, .inr (6, [.int 8, .int 5, .ref a1, .int 0]))]) hP hD [0] [1] rfl rfl (by decide) (by decide) hk1 hFc hP1 hD1
  generalize H1 = H at hP hS ⊢
  have hP : va_P G.1 vwCl [(a1, .inl (G.2 0, 40, .inl (fun _ => 0))), (a0, .inr (6, [.int 8, .int 5, .ref a1, .int 0]))] H := hP
  have hD : va_D A [(a1, .inl (G.2 0, 40, .inl (fun _ => 0))), (a0, .inr (6, [.int 8, .int 5, .ref a1, .int 0]))] := hD
  refine lv_if_eq (tgt := 9) hx hb dX6_open_4 (by decide) (fun c_1 => ?_) (fun c_1 => ?_)
  ·
    refine lv_aload_n hx hb dX6_open_9 rfl (lv_at hl 0 rfl) ?_
    refine va_get (D := G.1) (ci := 6) (v := .int 0) (C := RX6) (T := TX6) (N := 4) hx hb hts inG_X6 hown hK hP 1 rfl rfl 3 (by decide) (hts _ fl_X6_9) (fun _ h9 => h9) rfl dX6_open_10 ?_
    refine lv_istore_n (lv' := [(2, .int 0), (0, .ref a0), (1, .int 0)]) hx hb dX6_open_13 rfl hl (by decide) rfl (fun ls hl => ?_)
    refine lv_aload_n hx hb dX6_open_14 rfl (lv_at hl 1 rfl) ?_
    refine lv_dup hx hb dX6_open_15 rfl ?_
    refine va_get (D := G.1) (ci := 6) (v := .int 0) (C := RX6) (T := TX6) (N := 4) hx hb hts inG_X6 hown hK hP 1 rfl rfl 3 (by decide) (hts _ fl_X6_9) (fun _ h9 => h9) rfl dX6_open_16 ?_
    refine lv_iconst (v := 1) hx hb dX6_open_19 (by decide) ?_
    refine lv_iadd hx hb dX6_open_20 ?_
    refine g5_ti (v := 1) (by decide) ?_
    refine va_put (D := G.1) (ci := 6) (v := .int 1) (ty := .int) (C := RX6) (T := TX6) (N := 4) hx hb hts inG_X6 tyX6 tyX6_ok nmX6 hown hK hP hD hS 1 rfl rfl 3 (by decide) (hts _ fl_X6_9) (fun _ h9 => h9) rfl (by decide +kernel) rfl rfl (Nat.le_of_ble_eq_true rfl) dX6_open_21 (fun H locs hP hD hS => ?_)
    have hP : va_P G.1 vwCl [(a1, .inl (G.2 0, 40, .inl (fun _ => 0))), (a0, .inr (6, [.int 8, .int 5, .ref a1, .int 1]))] H := hP
    have hD : va_D A [(a1, .inl (G.2 0, 40, .inl (fun _ => 0))), (a0, .inr (6, [.int 8, .int 5, .ref a1, .int 1]))] := hD
    refine lv_iconst (v := 0) hx hb dX6_open_24 (by decide) ?_
    refine lv_istore_n (lv' := [(3, .int 0), (2, .int 0), (0, .ref a0), (1, .int 0)]) hx hb dX6_open_25 rfl hl (by decide) rfl (fun ls hl => ?_)
    refine lv_iload_n hx hb dX6_open_26 rfl (lv_at hl 0 rfl) ?_
    refine lv_aload_n hx hb dX6_open_27 rfl (lv_at hl 2 rfl) ?_
    refine va_get (D := G.1) (ci := 6) (v := .int 5) (C := RX6) (T := TX6) (N := 4) hx hb hts inG_X6 hown hK hP 1 rfl rfl 1 (by decide) (hts _ fl_X6_18) (fun _ h9 => h9) rfl dX6_open_28 ?_
    refine lv_icmp_ge (tgt := 47) hx hb dX6_open_31 (by decide) (fun c_2 => ?_) (fun c_2 => ?_)
    ·
      exact absurd c_2 (by decide)
    ·
      refine lv_aload_n hx hb dX6_open_34 rfl (lv_at hl 2 rfl) ?_
      refine lv_iload_n hx hb dX6_open_35 rfl (lv_at hl 1 rfl) ?_
      refine lv_iload_n hx hb dX6_open_36 rfl (lv_at hl 0 rfl) ?_
      refine lv_iload_n hx hb dX6_open_37 rfl (lv_at hl 3 rfl) ?_
      have hPc := hP.sub (ws' := [(a0, .inr (6, [.int 8, .int 5, .ref a1, .int 1])), (a1, .inl (G.2 0, 40, .inl (fun _ => 0)))]) [1, 0] rfl
      have hDc := hD.sub (ws' := [(a0, .inr (6, [.int 8, .int 5, .ref a1, .int 1])), (a1, .inl (G.2 0, 40, .inl (fun _ => 0)))]) [1, 0] (by decide) rfl
      have hFc := va_free (wc := [(a0, .inr (6, [.int 8, .int 5, .ref a1, .int 1])), (a1, .inl (G.2 0, 40, .inl (fun _ => 0)))]) hD hS hA [1, 0] rfl
      refine va_callv (va_runV (As := [.int 0, .int 0, .int 0]) (rest := []) ⟨hx, hb, hml, hown, hts⟩ (kX6_set_43 l G a0 a1 H.size) (cwV 3 hts gV_X6_29 rfl rfl rfl hv_X6_set ⟨Nat.le_of_ble_eq_true rfl, Nat.le_of_ble_eq_true rfl⟩) (g5_preV hPc hK hDc hN hT hS hFc (ci := 6) (q0 := 0) rfl rfl) rfl rfl hl.1 rfl (lv_room (Nat.le_of_ble_eq_true rfl)) dX6_open_38 ⟨Nat.le_of_ble_eq_true rfl, Nat.le_of_ble_eq_true rfl⟩) hS (fun q _ h => hFc q h) hFc (fun u t H1 locs ht hvm hw hB hz1 hk1 hS => ?_)
      obtain ⟨hP1, hD1⟩ := hB
      rw [ht] at hP1
      obtain rfl := hw
      obtain ⟨hP, hD⟩ := va_join (wr := []) (w1 := [(a1, .inl (G.2 0, 40, .inl (upd (fun _ => 0) 0 0))), (a0, .inr (6, [.int 8, .int 5, .ref a1, .int 1]))]) hP hD [1, 0] [] rfl rfl (by decide) (by decide) hk1 hFc hP1 hD1
      generalize H1 = H at hP hS ⊢
      have hP : va_P G.1 vwCl [(a1, .inl (G.2 0, 40, .inl (upd (fun _ => 0) 0 0))), (a0, .inr (6, [.int 8, .int 5, .ref a1, .int 1]))] H := hP
      have hD : va_D A [(a1, .inl (G.2 0, 40, .inl (upd (fun _ => 0) 0 0))), (a0, .inr (6, [.int 8, .int 5, .ref a1, .int 1]))] := hD
      refine lv_iinc (v := 1) (lv' := [(3, .int 1), (2, .int 0), (0, .ref a0), (1, .int 0)]) hx hb dX6_open_41 hl (k := 0) rfl (by decide) (by decide) rfl (fun ls hl => ?_)
      refine lv_goto (tgt := 26) hx hb dX6_open_44 (by decide) ?_
      refine lv_iload_n hx hb dX6_open_26 rfl (lv_at hl 0 rfl) ?_
      refine lv_aload_n hx hb dX6_open_27 rfl (lv_at hl 2 rfl) ?_
      refine va_get (D := G.1) (ci := 6) (v := .int 5) (C := RX6) (T := TX6) (N := 4) hx hb hts inG_X6 hown hK hP 1 rfl rfl 1 (by decide) (hts _ fl_X6_18) (fun _ h9 => h9) rfl dX6_open_28 ?_
      refine lv_icmp_ge (tgt := 47) hx hb dX6_open_31 (by decide) (fun c_3 => ?_) (fun c_3 => ?_)
      ·
        exact absurd c_3 (by decide)
      ·
        refine lv_aload_n hx hb dX6_open_34 rfl (lv_at hl 2 rfl) ?_
        refine lv_iload_n hx hb dX6_open_35 rfl (lv_at hl 1 rfl) ?_
        refine lv_iload_n hx hb dX6_open_36 rfl (lv_at hl 0 rfl) ?_
        refine lv_iload_n hx hb dX6_open_37 rfl (lv_at hl 3 rfl) ?_
        have hPc := hP.sub (ws' := [(a0, .inr (6, [.int 8, .int 5, .ref a1, .int 1])), (a1, .inl (G.2 0, 40, .inl (upd (fun _ => 0) 0 0)))]) [1, 0] rfl
        have hDc := hD.sub (ws' := [(a0, .inr (6, [.int 8, .int 5, .ref a1, .int 1])), (a1, .inl (G.2 0, 40, .inl (upd (fun _ => 0) 0 0)))]) [1, 0] (by decide) rfl
        have hFc := va_free (wc := [(a0, .inr (6, [.int 8, .int 5, .ref a1, .int 1])), (a1, .inl (G.2 0, 40, .inl (upd (fun _ => 0) 0 0)))]) hD hS hA [1, 0] rfl
        refine va_callv (va_runV (As := [.int 0, .int 1, .int 0]) (rest := []) ⟨hx, hb, hml, hown, hts⟩ (kX6_set_44 l G a0 a1 H.size) (cwV 3 hts gV_X6_29 rfl rfl rfl hv_X6_set ⟨Nat.le_of_ble_eq_true rfl, Nat.le_of_ble_eq_true rfl⟩) (g5_preV hPc hK hDc hN hT hS hFc (ci := 6) (q0 := 0) rfl rfl) rfl rfl hl.1 rfl (lv_room (Nat.le_of_ble_eq_true rfl)) dX6_open_38 ⟨Nat.le_of_ble_eq_true rfl, Nat.le_of_ble_eq_true rfl⟩) hS (fun q _ h => hFc q h) hFc (fun u t H1 locs ht hvm hw hB hz1 hk1 hS => ?_)
        obtain ⟨hP1, hD1⟩ := hB
        rw [ht] at hP1
        obtain rfl := hw
        obtain ⟨hP, hD⟩ := va_join (wr := []) (w1 := [(a1, .inl (G.2 0, 40, .inl (upd (upd (fun _ => 0) 0 0) 1 0))), (a0, .inr (6, [.int 8, .int 5, .ref a1, .int 1]))]) hP hD [1, 0] [] rfl rfl (by decide) (by decide) hk1 hFc hP1 hD1
        generalize H1 = H at hP hS ⊢
        have hP : va_P G.1 vwCl [(a1, .inl (G.2 0, 40, .inl (upd (upd (fun _ => 0) 0 0) 1 0))), (a0, .inr (6, [.int 8, .int 5, .ref a1, .int 1]))] H := hP
        have hD : va_D A [(a1, .inl (G.2 0, 40, .inl (upd (upd (fun _ => 0) 0 0) 1 0))), (a0, .inr (6, [.int 8, .int 5, .ref a1, .int 1]))] := hD
        refine lv_iinc (v := 2) (lv' := [(3, .int 2), (2, .int 0), (0, .ref a0), (1, .int 0)]) hx hb dX6_open_41 hl (k := 0) rfl (by decide) (by decide) rfl (fun ls hl => ?_)
        refine lv_goto (tgt := 26) hx hb dX6_open_44 (by decide) ?_
        refine lv_iload_n hx hb dX6_open_26 rfl (lv_at hl 0 rfl) ?_
        refine lv_aload_n hx hb dX6_open_27 rfl (lv_at hl 2 rfl) ?_
        refine va_get (D := G.1) (ci := 6) (v := .int 5) (C := RX6) (T := TX6) (N := 4) hx hb hts inG_X6 hown hK hP 1 rfl rfl 1 (by decide) (hts _ fl_X6_18) (fun _ h9 => h9) rfl dX6_open_28 ?_
        refine lv_icmp_ge (tgt := 47) hx hb dX6_open_31 (by decide) (fun c_4 => ?_) (fun c_4 => ?_)
        ·
          exact absurd c_4 (by decide)
        ·
          refine lv_aload_n hx hb dX6_open_34 rfl (lv_at hl 2 rfl) ?_
          refine lv_iload_n hx hb dX6_open_35 rfl (lv_at hl 1 rfl) ?_
          refine lv_iload_n hx hb dX6_open_36 rfl (lv_at hl 0 rfl) ?_
          refine lv_iload_n hx hb dX6_open_37 rfl (lv_at hl 3 rfl) ?_
          have hPc := hP.sub (ws' := [(a0, .inr (6, [.int 8, .int 5, .ref a1, .int 1])), (a1, .inl (G.2 0, 40, .inl (upd (upd (fun _ => 0) 0 0) 1 0)))]) [1, 0] rfl
          have hDc := hD.sub (ws' := [(a0, .inr (6, [.int 8, .int 5, .ref a1, .int 1])), (a1, .inl (G.2 0, 40, .inl (upd (upd (fun _ => 0) 0 0) 1 0)))]) [1, 0] (by decide) rfl
          have hFc := va_free (wc := [(a0, .inr (6, [.int 8, .int 5, .ref a1, .int 1])), (a1, .inl (G.2 0, 40, .inl (upd (upd (fun _ => 0) 0 0) 1 0)))]) hD hS hA [1, 0] rfl
          refine va_callv (va_runV (As := [.int 0, .int 2, .int 0]) (rest := []) ⟨hx, hb, hml, hown, hts⟩ (kX6_set_45 l G a0 a1 H.size) (cwV 3 hts gV_X6_29 rfl rfl rfl hv_X6_set ⟨Nat.le_of_ble_eq_true rfl, Nat.le_of_ble_eq_true rfl⟩) (g5_preV hPc hK hDc hN hT hS hFc (ci := 6) (q0 := 0) rfl rfl) rfl rfl hl.1 rfl (lv_room (Nat.le_of_ble_eq_true rfl)) dX6_open_38 ⟨Nat.le_of_ble_eq_true rfl, Nat.le_of_ble_eq_true rfl⟩) hS (fun q _ h => hFc q h) hFc (fun u t H1 locs ht hvm hw hB hz1 hk1 hS => ?_)
          obtain ⟨hP1, hD1⟩ := hB
          rw [ht] at hP1
          obtain rfl := hw
          obtain ⟨hP, hD⟩ := va_join (wr := []) (w1 := [(a1, .inl (G.2 0, 40, .inl (upd (upd (upd (fun _ => 0) 0 0) 1 0) 2 0))), (a0, .inr (6, [.int 8, .int 5, .ref a1, .int 1]))]) hP hD [1, 0] [] rfl rfl (by decide) (by decide) hk1 hFc hP1 hD1
          generalize H1 = H at hP hS ⊢
          have hP : va_P G.1 vwCl [(a1, .inl (G.2 0, 40, .inl (upd (upd (upd (fun _ => 0) 0 0) 1 0) 2 0))), (a0, .inr (6, [.int 8, .int 5, .ref a1, .int 1]))] H := hP
          have hD : va_D A [(a1, .inl (G.2 0, 40, .inl (upd (upd (upd (fun _ => 0) 0 0) 1 0) 2 0))), (a0, .inr (6, [.int 8, .int 5, .ref a1, .int 1]))] := hD
          refine lv_iinc (v := 3) (lv' := [(3, .int 3), (2, .int 0), (0, .ref a0), (1, .int 0)]) hx hb dX6_open_41 hl (k := 0) rfl (by decide) (by decide) rfl (fun ls hl => ?_)
          refine lv_goto (tgt := 26) hx hb dX6_open_44 (by decide) ?_
          refine lv_iload_n hx hb dX6_open_26 rfl (lv_at hl 0 rfl) ?_
          refine lv_aload_n hx hb dX6_open_27 rfl (lv_at hl 2 rfl) ?_
          refine va_get (D := G.1) (ci := 6) (v := .int 5) (C := RX6) (T := TX6) (N := 4) hx hb hts inG_X6 hown hK hP 1 rfl rfl 1 (by decide) (hts _ fl_X6_18) (fun _ h9 => h9) rfl dX6_open_28 ?_
          refine lv_icmp_ge (tgt := 47) hx hb dX6_open_31 (by decide) (fun c_5 => ?_) (fun c_5 => ?_)
          ·
            exact absurd c_5 (by decide)
          ·
            refine lv_aload_n hx hb dX6_open_34 rfl (lv_at hl 2 rfl) ?_
            refine lv_iload_n hx hb dX6_open_35 rfl (lv_at hl 1 rfl) ?_
            refine lv_iload_n hx hb dX6_open_36 rfl (lv_at hl 0 rfl) ?_
            refine lv_iload_n hx hb dX6_open_37 rfl (lv_at hl 3 rfl) ?_
            have hPc := hP.sub (ws' := [(a0, .inr (6, [.int 8, .int 5, .ref a1, .int 1])), (a1, .inl (G.2 0, 40, .inl (upd (upd (upd (fun _ => 0) 0 0) 1 0) 2 0)))]) [1, 0] rfl
            have hDc := hD.sub (ws' := [(a0, .inr (6, [.int 8, .int 5, .ref a1, .int 1])), (a1, .inl (G.2 0, 40, .inl (upd (upd (upd (fun _ => 0) 0 0) 1 0) 2 0)))]) [1, 0] (by decide) rfl
            have hFc := va_free (wc := [(a0, .inr (6, [.int 8, .int 5, .ref a1, .int 1])), (a1, .inl (G.2 0, 40, .inl (upd (upd (upd (fun _ => 0) 0 0) 1 0) 2 0)))]) hD hS hA [1, 0] rfl
            refine va_callv (va_runV (As := [.int 0, .int 3, .int 0]) (rest := []) ⟨hx, hb, hml, hown, hts⟩ (kX6_set_46 l G a0 a1 H.size) (cwV 3 hts gV_X6_29 rfl rfl rfl hv_X6_set ⟨Nat.le_of_ble_eq_true rfl, Nat.le_of_ble_eq_true rfl⟩) (g5_preV hPc hK hDc hN hT hS hFc (ci := 6) (q0 := 0) rfl rfl) rfl rfl hl.1 rfl (lv_room (Nat.le_of_ble_eq_true rfl)) dX6_open_38 ⟨Nat.le_of_ble_eq_true rfl, Nat.le_of_ble_eq_true rfl⟩) hS (fun q _ h => hFc q h) hFc (fun u t H1 locs ht hvm hw hB hz1 hk1 hS => ?_)
            obtain ⟨hP1, hD1⟩ := hB
            rw [ht] at hP1
            obtain rfl := hw
            obtain ⟨hP, hD⟩ := va_join (wr := []) (w1 := [(a1, .inl (G.2 0, 40, .inl (upd (upd (upd (upd (fun _ => 0) 0 0) 1 0) 2 0) 3 0))), (a0, .inr (6, [.int 8, .int 5, .ref a1, .int 1]))]) hP hD [1, 0] [] rfl rfl (by decide) (by decide) hk1 hFc hP1 hD1
            generalize H1 = H at hP hS ⊢
            have hP : va_P G.1 vwCl [(a1, .inl (G.2 0, 40, .inl (upd (upd (upd (upd (fun _ => 0) 0 0) 1 0) 2 0) 3 0))), (a0, .inr (6, [.int 8, .int 5, .ref a1, .int 1]))] H := hP
            have hD : va_D A [(a1, .inl (G.2 0, 40, .inl (upd (upd (upd (upd (fun _ => 0) 0 0) 1 0) 2 0) 3 0))), (a0, .inr (6, [.int 8, .int 5, .ref a1, .int 1]))] := hD
            refine lv_iinc (v := 4) (lv' := [(3, .int 4), (2, .int 0), (0, .ref a0), (1, .int 0)]) hx hb dX6_open_41 hl (k := 0) rfl (by decide) (by decide) rfl (fun ls hl => ?_)
            refine lv_goto (tgt := 26) hx hb dX6_open_44 (by decide) ?_
            refine lv_iload_n hx hb dX6_open_26 rfl (lv_at hl 0 rfl) ?_
            refine lv_aload_n hx hb dX6_open_27 rfl (lv_at hl 2 rfl) ?_
            refine va_get (D := G.1) (ci := 6) (v := .int 5) (C := RX6) (T := TX6) (N := 4) hx hb hts inG_X6 hown hK hP 1 rfl rfl 1 (by decide) (hts _ fl_X6_18) (fun _ h9 => h9) rfl dX6_open_28 ?_
            refine lv_icmp_ge (tgt := 47) hx hb dX6_open_31 (by decide) (fun c_6 => ?_) (fun c_6 => ?_)
            ·
              exact absurd c_6 (by decide)
            ·
              refine lv_aload_n hx hb dX6_open_34 rfl (lv_at hl 2 rfl) ?_
              refine lv_iload_n hx hb dX6_open_35 rfl (lv_at hl 1 rfl) ?_
              refine lv_iload_n hx hb dX6_open_36 rfl (lv_at hl 0 rfl) ?_
              refine lv_iload_n hx hb dX6_open_37 rfl (lv_at hl 3 rfl) ?_
              have hPc := hP.sub (ws' := [(a0, .inr (6, [.int 8, .int 5, .ref a1, .int 1])), (a1, .inl (G.2 0, 40, .inl (upd (upd (upd (upd (fun _ => 0) 0 0) 1 0) 2 0) 3 0)))]) [1, 0] rfl
              have hDc := hD.sub (ws' := [(a0, .inr (6, [.int 8, .int 5, .ref a1, .int 1])), (a1, .inl (G.2 0, 40, .inl (upd (upd (upd (upd (fun _ => 0) 0 0) 1 0) 2 0) 3 0)))]) [1, 0] (by decide) rfl
              have hFc := va_free (wc := [(a0, .inr (6, [.int 8, .int 5, .ref a1, .int 1])), (a1, .inl (G.2 0, 40, .inl (upd (upd (upd (upd (fun _ => 0) 0 0) 1 0) 2 0) 3 0)))]) hD hS hA [1, 0] rfl
              refine va_callv (va_runV (As := [.int 0, .int 4, .int 0]) (rest := []) ⟨hx, hb, hml, hown, hts⟩ (kX6_set_47 l G a0 a1 H.size (upd (upd (upd (upd (fun _ => 0) 0 0) 1 0) 2 0) 3 0)) (cwV 3 hts gV_X6_29 rfl rfl rfl hv_X6_set ⟨Nat.le_of_ble_eq_true rfl, Nat.le_of_ble_eq_true rfl⟩) (g5_preV hPc hK hDc hN hT hS hFc (ci := 6) (q0 := 0) rfl rfl) rfl rfl hl.1 rfl (lv_room (Nat.le_of_ble_eq_true rfl)) dX6_open_38 ⟨Nat.le_of_ble_eq_true rfl, Nat.le_of_ble_eq_true rfl⟩) hS (fun q _ h => hFc q h) hFc (fun u t H1 locs ht hvm hw hB hz1 hk1 hS => ?_)
              obtain ⟨hP1, hD1⟩ := hB
              rw [ht] at hP1
              obtain rfl := hw
              obtain ⟨hP, hD⟩ := va_join (wr := []) (w1 := [(a1, .inl (G.2 0, 40, .inl (upd (upd (upd (upd (upd (fun _ => 0) 0 0) 1 0) 2 0) 3 0) 4 0))), (a0, .inr (6, [.int 8, .int 5, .ref a1, .int 1]))]) hP hD [1, 0] [] rfl rfl (by decide) (by decide) hk1 hFc hP1 hD1
              generalize H1 = H at hP hS ⊢
              have hP : va_P G.1 vwCl [(a1, .inl (G.2 0, 40, .inl (upd (upd (upd (upd (upd (fun _ => 0) 0 0) 1 0) 2 0) 3 0) 4 0))), (a0, .inr (6, [.int 8, .int 5, .ref a1, .int 1]))] H := hP
              have hD : va_D A [(a1, .inl (G.2 0, 40, .inl (upd (upd (upd (upd (upd (fun _ => 0) 0 0) 1 0) 2 0) 3 0) 4 0))), (a0, .inr (6, [.int 8, .int 5, .ref a1, .int 1]))] := hD
              refine lv_iinc (v := 5) (lv' := [(3, .int 5), (2, .int 0), (0, .ref a0), (1, .int 0)]) hx hb dX6_open_41 hl (k := 0) rfl (by decide) (by decide) rfl (fun ls hl => ?_)
              refine lv_goto (tgt := 26) hx hb dX6_open_44 (by decide) ?_
              refine lv_iload_n hx hb dX6_open_26 rfl (lv_at hl 0 rfl) ?_
              refine lv_aload_n hx hb dX6_open_27 rfl (lv_at hl 2 rfl) ?_
              refine va_get (D := G.1) (ci := 6) (v := .int 5) (C := RX6) (T := TX6) (N := 4) hx hb hts inG_X6 hown hK hP 1 rfl rfl 1 (by decide) (hts _ fl_X6_18) (fun _ h9 => h9) rfl dX6_open_28 ?_
              refine lv_icmp_ge (tgt := 47) hx hb dX6_open_31 (by decide) (fun c_7 => ?_) (fun c_7 => ?_)
              ·
                refine lv_iload_n hx hb dX6_open_47 rfl (lv_at hl 1 rfl) ?_
                exact W.iret (v := 0) hx hb hr (fun t ht hW => ⟨⟨0, [(a1, .inl (G.2 0, 40, .inl (upd (upd (upd (upd (upd (fun _ => 0) 0 0) 1 0) 2 0) 3 0) 4 0))), (a0, .inr (6, [.int 8, .int 5, .ref a1, .int 1]))], rfl, ⟨rfl, rfl⟩, by rw [ht]; exact hP, hD⟩, hS.F ht⟩) hS.2.2 dX6_open_48
              ·
                exact absurd c_7 (by decide)
  ·
    exact absurd c_1 (by decide)
set_option maxHeartbeats 4000000 in
set_option maxRecDepth 100000 in
theorem kX6_set_48 (l : Launch) (G : g5_G) (a0 a1 : Nat) (sz : Nat) (n0 : Int32) (f0 : Nat → Int32) (h_n0 : 0 ≤ n0.toInt ∧ n0.toInt ≤ 63) : Met l yX6_set (wsG yX6_set cX6_set 4 none) ({ frames := 1, cells := 0, slots := 0, locals := 21 }) (va_Pc [.ref a0, .int 0, .int 0, .int n0] (g5_P G [(a0, .inr (6, [.int 8, .int 5, .ref a1, .int 1])), (a1, .inl (G.2 0, 40, .inl f0))] sz)) (va_Qv (fun (u : va_W) => ((u = [(a1, .inl (G.2 0, 40, .inl (upd f0 0 n0))), (a0, .inr (6, [.int 8, .int 5, .ref a1, .int 1]))]))) (g5_B G (va_A [(a0, .inr (6, [.int 8, .int 5, .ref a1, .int 1])), (a1, .inl (G.2 0, 40, .inl f0))] sz)) (va_A [(a0, .inr (6, [.int 8, .int 5, .ref a1, .int 1])), (a1, .inl (G.2 0, 40, .inl f0))] sz)) 0 0 (va_A [(a0, .inr (6, [.int 8, .int 5, .ref a1, .int 1])), (a1, .inl (G.2 0, 40, .inl f0))] sz) := by
  refine Met.ofW (cc := cX6_set) (maxL := 4) (ret := none) (by decide) rfl ?_
  intro p e s m args below meth c s₁ B hml hv
  obtain ⟨rfl, hsz, hP, hK, hD0, hN, hT⟩ := hv
  have hx := B.exec
  have hb := B.bytes
  have hr := B.returns
  have hts : ∀ w ∈ tblG, w.before _ s = true := fun w h => atoms_spec (ws := (wsG yX6_set cX6_set 4 none)) B.pre w (List.mem_cons_of_mem _ h)
  have hown : s.vm.findClass RX6 = some m.cls := findClass_of_methodNamed B.named
  have hlocks := B.notSynchronized
  subst hsz
  have hD := hD0.self (sz := s.heap.size)
  generalize hAe : va_A [(a0, .inr (6, [.int 8, .int 5, .ref a1, .int 1])), (a1, .inl (G.2 0, 40, .inl f0))] s.heap.size = A at hD hT ⊢
  have hA : ∀ q : Nat, s.heap.size ≤ q → A q := fun q h => by rw [← hAe]; exact Or.inr h
  have hS : va_S A s.heap s.heap [] := va_S.rf
  have hP : va_P G.1 vwCl [(a0, .inr (6, [.int 8, .int 5, .ref a1, .int 1])), (a1, .inl (G.2 0, 40, .inl f0))] s.heap := hP
  have hl := lv_entry ([.ref a0, .int 0, .int 0, .int n0]) (n := 4) (Nat.le_of_ble_eq_true rfl)
  rw [lg_entry_eq]
  generalize (lg_sl ([.ref a0, .int 0, .int 0, .int n0]) ++ List.replicate (4 - (lg_sl ([.ref a0, .int 0, .int 0, .int n0])).length) Slot.unset).toArray = ls at hl ⊢
  have hl : lv_has ls 4 [(0, .ref a0), (1, .int 0), (2, .int 0), (3, .int n0)] := hl
  refine lv_aload_n hx hb dX6_set_0 rfl (lv_at hl 0 rfl) ?_
  refine lv_iload_n hx hb dX6_set_1 rfl (lv_at hl 1 rfl) ?_
  have hPc := hP.sub (ws' := [(a0, .inr (6, [.int 8, .int 5, .ref a1, .int 1]))]) [0] rfl
  have hDc := hD.sub (ws' := [(a0, .inr (6, [.int 8, .int 5, .ref a1, .int 1]))]) [0] (by decide) rfl
  have hFc := va_free (wc := [(a0, .inr (6, [.int 8, .int 5, .ref a1, .int 1]))]) hD hS hA [0] rfl
  refine va_calli (va_runV (As := [.int 0]) (rest := []) ⟨hx, hb, hml, hown, hts⟩ (kX6_has_7 l G a0 a1 s.heap.size) (cwV 1 hts gV_X6_25 rfl rfl rfl hv_X6_has ⟨Nat.le_of_ble_eq_true rfl, Nat.le_of_ble_eq_true rfl⟩) (g5_preV hPc hK hDc hN hT hS hFc (ci := 6) (q0 := 0) rfl rfl) rfl rfl hl.1 rfl (lv_room (Nat.le_of_ble_eq_true rfl)) dX6_set_2 ⟨Nat.le_of_ble_eq_true rfl, Nat.le_of_ble_eq_true rfl⟩) hS (fun q _ h => hFc q h) hFc (fun r u t H1 locs ht hvm hw hB hz1 hk1 hS => ?_)
  obtain ⟨hP1, hD1⟩ := hB
  rw [ht] at hP1
  obtain ⟨rfl, rfl⟩ := hw
  obtain ⟨hP, hD⟩ := va_join (wr := [(a1, .inl (G.2 0, 40, .inl f0))]) (w1 := [(a0, .inr (6, [.int 8, .int 5, .ref a1, .int 1]))]) hP hD [0] [1] rfl rfl (by decide) (by decide) hk1 hFc hP1 hD1
  generalize H1 = H at hP hS ⊢
  have hP : va_P G.1 vwCl [(a1, .inl (G.2 0, 40, .inl f0)), (a0, .inr (6, [.int 8, .int 5, .ref a1, .int 1]))] H := hP
  have hD : va_D A [(a1, .inl (G.2 0, 40, .inl f0)), (a0, .inr (6, [.int 8, .int 5, .ref a1, .int 1]))] := hD
  refine lv_if_eq (tgt := 34) hx hb dX6_set_5 (by decide) (fun c_1 => ?_) (fun c_1 => ?_)
  ·
    exact absurd c_1 (by decide)
  ·
    refine lv_iload_n hx hb dX6_set_8 rfl (lv_at hl 2 rfl) ?_
    refine lv_if_lt (tgt := 34) hx hb dX6_set_9 (by decide) (fun c_2 => ?_) (fun c_2 => ?_)
    ·
      exact absurd c_2 (by decide)
    ·
      refine lv_iload_n hx hb dX6_set_12 rfl (lv_at hl 2 rfl) ?_
      refine lv_aload_n hx hb dX6_set_13 rfl (lv_at hl 0 rfl) ?_
      refine va_get (D := G.1) (ci := 6) (v := .int 5) (C := RX6) (T := TX6) (N := 4) hx hb hts inG_X6 hown hK hP 1 rfl rfl 1 (by decide) (hts _ fl_X6_18) (fun _ h9 => h9) rfl dX6_set_14 ?_
      refine lv_icmp_ge (tgt := 34) hx hb dX6_set_17 (by decide) (fun c_3 => ?_) (fun c_3 => ?_)
      ·
        exact absurd c_3 (by decide)
      ·
        refine lv_aload_n hx hb dX6_set_20 rfl (lv_at hl 0 rfl) ?_
        refine va_get (D := G.1) (ci := 6) (v := .ref a1) (C := RX6) (T := TX6) (N := 4) hx hb hts inG_X6 hown hK hP 1 rfl rfl 2 (by decide) (hts _ fl_X6_21) (fun _ h9 => h9) rfl dX6_set_21 ?_
        refine lv_iload_n hx hb dX6_set_24 rfl (lv_at hl 1 rfl) ?_
        refine lv_aload_n hx hb dX6_set_25 rfl (lv_at hl 0 rfl) ?_
        refine va_get (D := G.1) (ci := 6) (v := .int 5) (C := RX6) (T := TX6) (N := 4) hx hb hts inG_X6 hown hK hP 1 rfl rfl 1 (by decide) (hts _ fl_X6_18) (fun _ h9 => h9) rfl dX6_set_26 ?_
        refine lv_imul hx hb dX6_set_29 ?_
        refine g5_ti (v := 0) (by decide) ?_
        refine lv_iload_n hx hb dX6_set_30 rfl (lv_at hl 2 rfl) ?_
        refine lv_iadd hx hb dX6_set_31 ?_
        refine g5_ti (v := 0) (by decide) ?_
        refine lv_iload_n hx hb dX6_set_32 rfl (lv_at hl 3 rfl) ?_
        refine va_iast hx hb hK hP hD hS 0 0 rfl rfl (i := 0) (x := n0) (by unfold vp_in; decide) dX6_set_33 (fun H locs hP hD hS => ?_)
        have hP : va_P G.1 vwCl [(a1, .inl (G.2 0, 40, .inl (upd f0 0 n0))), (a0, .inr (6, [.int 8, .int 5, .ref a1, .int 1]))] H := hP
        have hD : va_D A [(a1, .inl (G.2 0, 40, .inl (upd f0 0 n0))), (a0, .inr (6, [.int 8, .int 5, .ref a1, .int 1]))] := hD
        exact W.vret hx hb hr (fun t ht hW => ⟨⟨[(a1, .inl (G.2 0, 40, .inl (upd f0 0 n0))), (a0, .inr (6, [.int 8, .int 5, .ref a1, .int 1]))], rfl, rfl, by rw [ht]; exact hP, hD⟩, hS.F ht⟩) hS.2.2 dX6_set_34
set_option maxHeartbeats 4000000 in
set_option maxRecDepth 100000 in
theorem kX6_set_49 (l : Launch) (G : g5_G) (a0 a1 : Nat) (sz : Nat) (n0 : Int32) (f0 : Nat → Int32) (h_n0 : 0 ≤ n0.toInt ∧ n0.toInt ≤ 5) : Met l yX6_set (wsG yX6_set cX6_set 4 none) ({ frames := 1, cells := 0, slots := 0, locals := 21 }) (va_Pc [.ref a0, .int 0, .int 1, .int n0] (g5_P G [(a0, .inr (6, [.int 8, .int 5, .ref a1, .int 1])), (a1, .inl (G.2 0, 40, .inl f0))] sz)) (va_Qv (fun (u : va_W) => ((u = [(a1, .inl (G.2 0, 40, .inl (upd f0 1 n0))), (a0, .inr (6, [.int 8, .int 5, .ref a1, .int 1]))]))) (g5_B G (va_A [(a0, .inr (6, [.int 8, .int 5, .ref a1, .int 1])), (a1, .inl (G.2 0, 40, .inl f0))] sz)) (va_A [(a0, .inr (6, [.int 8, .int 5, .ref a1, .int 1])), (a1, .inl (G.2 0, 40, .inl f0))] sz)) 0 0 (va_A [(a0, .inr (6, [.int 8, .int 5, .ref a1, .int 1])), (a1, .inl (G.2 0, 40, .inl f0))] sz) := by
  refine Met.ofW (cc := cX6_set) (maxL := 4) (ret := none) (by decide) rfl ?_
  intro p e s m args below meth c s₁ B hml hv
  obtain ⟨rfl, hsz, hP, hK, hD0, hN, hT⟩ := hv
  have hx := B.exec
  have hb := B.bytes
  have hr := B.returns
  have hts : ∀ w ∈ tblG, w.before _ s = true := fun w h => atoms_spec (ws := (wsG yX6_set cX6_set 4 none)) B.pre w (List.mem_cons_of_mem _ h)
  have hown : s.vm.findClass RX6 = some m.cls := findClass_of_methodNamed B.named
  have hlocks := B.notSynchronized
  subst hsz
  have hD := hD0.self (sz := s.heap.size)
  generalize hAe : va_A [(a0, .inr (6, [.int 8, .int 5, .ref a1, .int 1])), (a1, .inl (G.2 0, 40, .inl f0))] s.heap.size = A at hD hT ⊢
  have hA : ∀ q : Nat, s.heap.size ≤ q → A q := fun q h => by rw [← hAe]; exact Or.inr h
  have hS : va_S A s.heap s.heap [] := va_S.rf
  have hP : va_P G.1 vwCl [(a0, .inr (6, [.int 8, .int 5, .ref a1, .int 1])), (a1, .inl (G.2 0, 40, .inl f0))] s.heap := hP
  have hl := lv_entry ([.ref a0, .int 0, .int 1, .int n0]) (n := 4) (Nat.le_of_ble_eq_true rfl)
  rw [lg_entry_eq]
  generalize (lg_sl ([.ref a0, .int 0, .int 1, .int n0]) ++ List.replicate (4 - (lg_sl ([.ref a0, .int 0, .int 1, .int n0])).length) Slot.unset).toArray = ls at hl ⊢
  have hl : lv_has ls 4 [(0, .ref a0), (1, .int 0), (2, .int 1), (3, .int n0)] := hl
  refine lv_aload_n hx hb dX6_set_0 rfl (lv_at hl 0 rfl) ?_
  refine lv_iload_n hx hb dX6_set_1 rfl (lv_at hl 1 rfl) ?_
  have hPc := hP.sub (ws' := [(a0, .inr (6, [.int 8, .int 5, .ref a1, .int 1]))]) [0] rfl
  have hDc := hD.sub (ws' := [(a0, .inr (6, [.int 8, .int 5, .ref a1, .int 1]))]) [0] (by decide) rfl
  have hFc := va_free (wc := [(a0, .inr (6, [.int 8, .int 5, .ref a1, .int 1]))]) hD hS hA [0] rfl
  refine va_calli (va_runV (As := [.int 0]) (rest := []) ⟨hx, hb, hml, hown, hts⟩ (kX6_has_7 l G a0 a1 s.heap.size) (cwV 1 hts gV_X6_25 rfl rfl rfl hv_X6_has ⟨Nat.le_of_ble_eq_true rfl, Nat.le_of_ble_eq_true rfl⟩) (g5_preV hPc hK hDc hN hT hS hFc (ci := 6) (q0 := 0) rfl rfl) rfl rfl hl.1 rfl (lv_room (Nat.le_of_ble_eq_true rfl)) dX6_set_2 ⟨Nat.le_of_ble_eq_true rfl, Nat.le_of_ble_eq_true rfl⟩) hS (fun q _ h => hFc q h) hFc (fun r u t H1 locs ht hvm hw hB hz1 hk1 hS => ?_)
  obtain ⟨hP1, hD1⟩ := hB
  rw [ht] at hP1
  obtain ⟨rfl, rfl⟩ := hw
  obtain ⟨hP, hD⟩ := va_join (wr := [(a1, .inl (G.2 0, 40, .inl f0))]) (w1 := [(a0, .inr (6, [.int 8, .int 5, .ref a1, .int 1]))]) hP hD [0] [1] rfl rfl (by decide) (by decide) hk1 hFc hP1 hD1
  generalize H1 = H at hP hS ⊢
  have hP : va_P G.1 vwCl [(a1, .inl (G.2 0, 40, .inl f0)), (a0, .inr (6, [.int 8, .int 5, .ref a1, .int 1]))] H := hP
  have hD : va_D A [(a1, .inl (G.2 0, 40, .inl f0)), (a0, .inr (6, [.int 8, .int 5, .ref a1, .int 1]))] := hD
  refine lv_if_eq (tgt := 34) hx hb dX6_set_5 (by decide) (fun c_1 => ?_) (fun c_1 => ?_)
  ·
    exact absurd c_1 (by decide)
  ·
    refine lv_iload_n hx hb dX6_set_8 rfl (lv_at hl 2 rfl) ?_
    refine lv_if_lt (tgt := 34) hx hb dX6_set_9 (by decide) (fun c_2 => ?_) (fun c_2 => ?_)
    ·
      exact absurd c_2 (by decide)
    ·
      refine lv_iload_n hx hb dX6_set_12 rfl (lv_at hl 2 rfl) ?_
      refine lv_aload_n hx hb dX6_set_13 rfl (lv_at hl 0 rfl) ?_
      refine va_get (D := G.1) (ci := 6) (v := .int 5) (C := RX6) (T := TX6) (N := 4) hx hb hts inG_X6 hown hK hP 1 rfl rfl 1 (by decide) (hts _ fl_X6_18) (fun _ h9 => h9) rfl dX6_set_14 ?_
      refine lv_icmp_ge (tgt := 34) hx hb dX6_set_17 (by decide) (fun c_3 => ?_) (fun c_3 => ?_)
      ·
        exact absurd c_3 (by decide)
      ·
        refine lv_aload_n hx hb dX6_set_20 rfl (lv_at hl 0 rfl) ?_
        refine va_get (D := G.1) (ci := 6) (v := .ref a1) (C := RX6) (T := TX6) (N := 4) hx hb hts inG_X6 hown hK hP 1 rfl rfl 2 (by decide) (hts _ fl_X6_21) (fun _ h9 => h9) rfl dX6_set_21 ?_
        refine lv_iload_n hx hb dX6_set_24 rfl (lv_at hl 1 rfl) ?_
        refine lv_aload_n hx hb dX6_set_25 rfl (lv_at hl 0 rfl) ?_
        refine va_get (D := G.1) (ci := 6) (v := .int 5) (C := RX6) (T := TX6) (N := 4) hx hb hts inG_X6 hown hK hP 1 rfl rfl 1 (by decide) (hts _ fl_X6_18) (fun _ h9 => h9) rfl dX6_set_26 ?_
        refine lv_imul hx hb dX6_set_29 ?_
        refine g5_ti (v := 0) (by decide) ?_
        refine lv_iload_n hx hb dX6_set_30 rfl (lv_at hl 2 rfl) ?_
        refine lv_iadd hx hb dX6_set_31 ?_
        refine g5_ti (v := 1) (by decide) ?_
        refine lv_iload_n hx hb dX6_set_32 rfl (lv_at hl 3 rfl) ?_
        refine va_iast hx hb hK hP hD hS 0 0 rfl rfl (i := 1) (x := n0) (by unfold vp_in; decide) dX6_set_33 (fun H locs hP hD hS => ?_)
        have hP : va_P G.1 vwCl [(a1, .inl (G.2 0, 40, .inl (upd f0 1 n0))), (a0, .inr (6, [.int 8, .int 5, .ref a1, .int 1]))] H := hP
        have hD : va_D A [(a1, .inl (G.2 0, 40, .inl (upd f0 1 n0))), (a0, .inr (6, [.int 8, .int 5, .ref a1, .int 1]))] := hD
        exact W.vret hx hb hr (fun t ht hW => ⟨⟨[(a1, .inl (G.2 0, 40, .inl (upd f0 1 n0))), (a0, .inr (6, [.int 8, .int 5, .ref a1, .int 1]))], rfl, rfl, by rw [ht]; exact hP, hD⟩, hS.F ht⟩) hS.2.2 dX6_set_34
set_option maxHeartbeats 4000000 in
set_option maxRecDepth 100000 in
theorem kX6_set_50 (l : Launch) (G : g5_G) (a0 a1 : Nat) (sz : Nat) (n0 : Int32) (f0 : Nat → Int32) (h_n0 : 0 ≤ n0.toInt ∧ n0.toInt ≤ 23) : Met l yX6_set (wsG yX6_set cX6_set 4 none) ({ frames := 1, cells := 0, slots := 0, locals := 21 }) (va_Pc [.ref a0, .int 0, .int 2, .int n0] (g5_P G [(a0, .inr (6, [.int 8, .int 5, .ref a1, .int 1])), (a1, .inl (G.2 0, 40, .inl f0))] sz)) (va_Qv (fun (u : va_W) => ((u = [(a1, .inl (G.2 0, 40, .inl (upd f0 2 n0))), (a0, .inr (6, [.int 8, .int 5, .ref a1, .int 1]))]))) (g5_B G (va_A [(a0, .inr (6, [.int 8, .int 5, .ref a1, .int 1])), (a1, .inl (G.2 0, 40, .inl f0))] sz)) (va_A [(a0, .inr (6, [.int 8, .int 5, .ref a1, .int 1])), (a1, .inl (G.2 0, 40, .inl f0))] sz)) 0 0 (va_A [(a0, .inr (6, [.int 8, .int 5, .ref a1, .int 1])), (a1, .inl (G.2 0, 40, .inl f0))] sz) := by
  refine Met.ofW (cc := cX6_set) (maxL := 4) (ret := none) (by decide) rfl ?_
  intro p e s m args below meth c s₁ B hml hv
  obtain ⟨rfl, hsz, hP, hK, hD0, hN, hT⟩ := hv
  have hx := B.exec
  have hb := B.bytes
  have hr := B.returns
  have hts : ∀ w ∈ tblG, w.before _ s = true := fun w h => atoms_spec (ws := (wsG yX6_set cX6_set 4 none)) B.pre w (List.mem_cons_of_mem _ h)
  have hown : s.vm.findClass RX6 = some m.cls := findClass_of_methodNamed B.named
  have hlocks := B.notSynchronized
  subst hsz
  have hD := hD0.self (sz := s.heap.size)
  generalize hAe : va_A [(a0, .inr (6, [.int 8, .int 5, .ref a1, .int 1])), (a1, .inl (G.2 0, 40, .inl f0))] s.heap.size = A at hD hT ⊢
  have hA : ∀ q : Nat, s.heap.size ≤ q → A q := fun q h => by rw [← hAe]; exact Or.inr h
  have hS : va_S A s.heap s.heap [] := va_S.rf
  have hP : va_P G.1 vwCl [(a0, .inr (6, [.int 8, .int 5, .ref a1, .int 1])), (a1, .inl (G.2 0, 40, .inl f0))] s.heap := hP
  have hl := lv_entry ([.ref a0, .int 0, .int 2, .int n0]) (n := 4) (Nat.le_of_ble_eq_true rfl)
  rw [lg_entry_eq]
  generalize (lg_sl ([.ref a0, .int 0, .int 2, .int n0]) ++ List.replicate (4 - (lg_sl ([.ref a0, .int 0, .int 2, .int n0])).length) Slot.unset).toArray = ls at hl ⊢
  have hl : lv_has ls 4 [(0, .ref a0), (1, .int 0), (2, .int 2), (3, .int n0)] := hl
  refine lv_aload_n hx hb dX6_set_0 rfl (lv_at hl 0 rfl) ?_
  refine lv_iload_n hx hb dX6_set_1 rfl (lv_at hl 1 rfl) ?_
  have hPc := hP.sub (ws' := [(a0, .inr (6, [.int 8, .int 5, .ref a1, .int 1]))]) [0] rfl
  have hDc := hD.sub (ws' := [(a0, .inr (6, [.int 8, .int 5, .ref a1, .int 1]))]) [0] (by decide) rfl
  have hFc := va_free (wc := [(a0, .inr (6, [.int 8, .int 5, .ref a1, .int 1]))]) hD hS hA [0] rfl
  refine va_calli (va_runV (As := [.int 0]) (rest := []) ⟨hx, hb, hml, hown, hts⟩ (kX6_has_7 l G a0 a1 s.heap.size) (cwV 1 hts gV_X6_25 rfl rfl rfl hv_X6_has ⟨Nat.le_of_ble_eq_true rfl, Nat.le_of_ble_eq_true rfl⟩) (g5_preV hPc hK hDc hN hT hS hFc (ci := 6) (q0 := 0) rfl rfl) rfl rfl hl.1 rfl (lv_room (Nat.le_of_ble_eq_true rfl)) dX6_set_2 ⟨Nat.le_of_ble_eq_true rfl, Nat.le_of_ble_eq_true rfl⟩) hS (fun q _ h => hFc q h) hFc (fun r u t H1 locs ht hvm hw hB hz1 hk1 hS => ?_)
  obtain ⟨hP1, hD1⟩ := hB
  rw [ht] at hP1
  obtain ⟨rfl, rfl⟩ := hw
  obtain ⟨hP, hD⟩ := va_join (wr := [(a1, .inl (G.2 0, 40, .inl f0))]) (w1 := [(a0, .inr (6, [.int 8, .int 5, .ref a1, .int 1]))]) hP hD [0] [1] rfl rfl (by decide) (by decide) hk1 hFc hP1 hD1
  generalize H1 = H at hP hS ⊢
  have hP : va_P G.1 vwCl [(a1, .inl (G.2 0, 40, .inl f0)), (a0, .inr (6, [.int 8, .int 5, .ref a1, .int 1]))] H := hP
  have hD : va_D A [(a1, .inl (G.2 0, 40, .inl f0)), (a0, .inr (6, [.int 8, .int 5, .ref a1, .int 1]))] := hD
  refine lv_if_eq (tgt := 34) hx hb dX6_set_5 (by decide) (fun c_1 => ?_) (fun c_1 => ?_)
  ·
    exact absurd c_1 (by decide)
  ·
    refine lv_iload_n hx hb dX6_set_8 rfl (lv_at hl 2 rfl) ?_
    refine lv_if_lt (tgt := 34) hx hb dX6_set_9 (by decide) (fun c_2 => ?_) (fun c_2 => ?_)
    ·
      exact absurd c_2 (by decide)
    ·
      refine lv_iload_n hx hb dX6_set_12 rfl (lv_at hl 2 rfl) ?_
      refine lv_aload_n hx hb dX6_set_13 rfl (lv_at hl 0 rfl) ?_
      refine va_get (D := G.1) (ci := 6) (v := .int 5) (C := RX6) (T := TX6) (N := 4) hx hb hts inG_X6 hown hK hP 1 rfl rfl 1 (by decide) (hts _ fl_X6_18) (fun _ h9 => h9) rfl dX6_set_14 ?_
      refine lv_icmp_ge (tgt := 34) hx hb dX6_set_17 (by decide) (fun c_3 => ?_) (fun c_3 => ?_)
      ·
        exact absurd c_3 (by decide)
      ·
        refine lv_aload_n hx hb dX6_set_20 rfl (lv_at hl 0 rfl) ?_
        refine va_get (D := G.1) (ci := 6) (v := .ref a1) (C := RX6) (T := TX6) (N := 4) hx hb hts inG_X6 hown hK hP 1 rfl rfl 2 (by decide) (hts _ fl_X6_21) (fun _ h9 => h9) rfl dX6_set_21 ?_
        refine lv_iload_n hx hb dX6_set_24 rfl (lv_at hl 1 rfl) ?_
        refine lv_aload_n hx hb dX6_set_25 rfl (lv_at hl 0 rfl) ?_
        refine va_get (D := G.1) (ci := 6) (v := .int 5) (C := RX6) (T := TX6) (N := 4) hx hb hts inG_X6 hown hK hP 1 rfl rfl 1 (by decide) (hts _ fl_X6_18) (fun _ h9 => h9) rfl dX6_set_26 ?_
        refine lv_imul hx hb dX6_set_29 ?_
        refine g5_ti (v := 0) (by decide) ?_
        refine lv_iload_n hx hb dX6_set_30 rfl (lv_at hl 2 rfl) ?_
        refine lv_iadd hx hb dX6_set_31 ?_
        refine g5_ti (v := 2) (by decide) ?_
        refine lv_iload_n hx hb dX6_set_32 rfl (lv_at hl 3 rfl) ?_
        refine va_iast hx hb hK hP hD hS 0 0 rfl rfl (i := 2) (x := n0) (by unfold vp_in; decide) dX6_set_33 (fun H locs hP hD hS => ?_)
        have hP : va_P G.1 vwCl [(a1, .inl (G.2 0, 40, .inl (upd f0 2 n0))), (a0, .inr (6, [.int 8, .int 5, .ref a1, .int 1]))] H := hP
        have hD : va_D A [(a1, .inl (G.2 0, 40, .inl (upd f0 2 n0))), (a0, .inr (6, [.int 8, .int 5, .ref a1, .int 1]))] := hD
        exact W.vret hx hb hr (fun t ht hW => ⟨⟨[(a1, .inl (G.2 0, 40, .inl (upd f0 2 n0))), (a0, .inr (6, [.int 8, .int 5, .ref a1, .int 1]))], rfl, rfl, by rw [ht]; exact hP, hD⟩, hS.F ht⟩) hS.2.2 dX6_set_34
theorem dX11_spot_0 : decode cX11_spot 0 = .ok (.iload_n 1, 1) := by decide +kernel
theorem dX11_spot_1 : decode cX11_spot 1 = .ok (.invokestatic 97, 3) := by decide +kernel
theorem dX11_spot_4 : decode cX11_spot 4 = .ok (.ifCond .eq 17, 3) := by decide +kernel
theorem dX11_spot_7 : decode cX11_spot 7 = .ok (.iload_n 2, 1) := by decide +kernel
theorem dX11_spot_8 : decode cX11_spot 8 = .ok (.invokestatic 124, 3) := by decide +kernel
theorem dX11_spot_11 : decode cX11_spot 11 = .ok (.ifCond .eq 10, 3) := by decide +kernel
theorem dX11_spot_14 : decode cX11_spot 14 = .ok (.iload_n 3, 1) := by decide +kernel
theorem dX11_spot_15 : decode cX11_spot 15 = .ok (.invokestatic 127, 3) := by decide +kernel
theorem dX11_spot_18 : decode cX11_spot 18 = .ok (.ifCond .ne 9, 3) := by decide +kernel
theorem dX11_spot_21 : decode cX11_spot 21 = .ok (.aload_n 0, 1) := by decide +kernel
theorem dX11_spot_22 : decode cX11_spot 22 = .ok (.iconst (-1), 1) := by decide +kernel
theorem dX11_spot_23 : decode cX11_spot 23 = .ok (.invokevirtual 104, 3) := by decide +kernel
theorem dX11_spot_26 : decode cX11_spot 26 = .ok (.ireturn, 1) := by decide +kernel
theorem dX11_spot_27 : decode cX11_spot 27 = .ok (.aload_n 0, 1) := by decide +kernel
theorem dX11_spot_28 : decode cX11_spot 28 = .ok (.getfield 12, 3) := by decide +kernel
theorem dX11_spot_31 : decode cX11_spot 31 = .ok (.iload_n 1, 1) := by decide +kernel
theorem dX11_spot_32 : decode cX11_spot 32 = .ok (.invokevirtual 133, 3) := by decide +kernel
theorem dX11_spot_35 : decode cX11_spot 35 = .ok (.ifCond .ne 10, 3) := by decide +kernel
theorem dX11_spot_38 : decode cX11_spot 38 = .ok (.aload_n 0, 1) := by decide +kernel
theorem dX11_spot_39 : decode cX11_spot 39 = .ok (.bipush (-3), 2) := by decide +kernel
theorem dX11_spot_41 : decode cX11_spot 41 = .ok (.invokevirtual 104, 3) := by decide +kernel
theorem dX11_spot_44 : decode cX11_spot 44 = .ok (.ireturn, 1) := by decide +kernel
theorem dX11_spot_45 : decode cX11_spot 45 = .ok (.aload_n 0, 1) := by decide +kernel
theorem dX11_spot_46 : decode cX11_spot 46 = .ok (.getfield 12, 3) := by decide +kernel
theorem dX11_spot_49 : decode cX11_spot 49 = .ok (.getfield 306, 3) := by decide +kernel
theorem dX11_spot_52 : decode cX11_spot 52 = .ok (.invokevirtual 140, 3) := by decide +kernel
theorem dX11_spot_55 : decode cX11_spot 55 = .ok (.ifCond .eq 10, 3) := by decide +kernel
theorem dX11_spot_58 : decode cX11_spot 58 = .ok (.aload_n 0, 1) := by decide +kernel
theorem dX11_spot_59 : decode cX11_spot 59 = .ok (.bipush (-5), 2) := by decide +kernel
theorem dX11_spot_61 : decode cX11_spot 61 = .ok (.invokevirtual 104, 3) := by decide +kernel
theorem dX11_spot_64 : decode cX11_spot 64 = .ok (.ireturn, 1) := by decide +kernel
theorem dX11_spot_65 : decode cX11_spot 65 = .ok (.aload_n 0, 1) := by decide +kernel
theorem dX11_spot_66 : decode cX11_spot 66 = .ok (.getfield 12, 3) := by decide +kernel
theorem dX11_spot_69 : decode cX11_spot 69 = .ok (.getfield 306, 3) := by decide +kernel
theorem dX11_spot_72 : decode cX11_spot 72 = .ok (.iconst 0, 1) := by decide +kernel
theorem dX11_spot_73 : decode cX11_spot 73 = .ok (.invokevirtual 146, 3) := by decide +kernel
theorem dX11_spot_76 : decode cX11_spot 76 = .ok (.istore 4, 2) := by decide +kernel
theorem dX11_spot_78 : decode cX11_spot 78 = .ok (.aload_n 0, 1) := by decide +kernel
theorem dX11_spot_79 : decode cX11_spot 79 = .ok (.getfield 12, 3) := by decide +kernel
theorem dX11_spot_82 : decode cX11_spot 82 = .ok (.getfield 306, 3) := by decide +kernel
theorem dX11_spot_85 : decode cX11_spot 85 = .ok (.iload 4, 2) := by decide +kernel
theorem dX11_spot_87 : decode cX11_spot 87 = .ok (.iconst 0, 1) := by decide +kernel
theorem dX11_spot_88 : decode cX11_spot 88 = .ok (.iload_n 1, 1) := by decide +kernel
theorem dX11_spot_89 : decode cX11_spot 89 = .ok (.invokevirtual 149, 3) := by decide +kernel
theorem dX11_spot_92 : decode cX11_spot 92 = .ok (.aload_n 0, 1) := by decide +kernel
theorem dX11_spot_93 : decode cX11_spot 93 = .ok (.getfield 12, 3) := by decide +kernel
theorem dX11_spot_96 : decode cX11_spot 96 = .ok (.getfield 306, 3) := by decide +kernel
theorem dX11_spot_99 : decode cX11_spot 99 = .ok (.iload 4, 2) := by decide +kernel
theorem dX11_spot_101 : decode cX11_spot 101 = .ok (.iconst 1, 1) := by decide +kernel
theorem dX11_spot_102 : decode cX11_spot 102 = .ok (.iload_n 2, 1) := by decide +kernel
theorem dX11_spot_103 : decode cX11_spot 103 = .ok (.invokevirtual 149, 3) := by decide +kernel
theorem dX11_spot_106 : decode cX11_spot 106 = .ok (.aload_n 0, 1) := by decide +kernel
theorem dX11_spot_107 : decode cX11_spot 107 = .ok (.getfield 12, 3) := by decide +kernel
theorem dX11_spot_110 : decode cX11_spot 110 = .ok (.getfield 306, 3) := by decide +kernel
theorem dX11_spot_113 : decode cX11_spot 113 = .ok (.iload 4, 2) := by decide +kernel
theorem dX11_spot_115 : decode cX11_spot 115 = .ok (.iconst 2, 1) := by decide +kernel
theorem dX11_spot_116 : decode cX11_spot 116 = .ok (.iload_n 3, 1) := by decide +kernel
theorem dX11_spot_117 : decode cX11_spot 117 = .ok (.invokevirtual 149, 3) := by decide +kernel
theorem dX11_spot_120 : decode cX11_spot 120 = .ok (.aload_n 0, 1) := by decide +kernel
theorem dX11_spot_121 : decode cX11_spot 121 = .ok (.iload 4, 2) := by decide +kernel
theorem dX11_spot_123 : decode cX11_spot 123 = .ok (.invokevirtual 121, 3) := by decide +kernel
theorem dX11_spot_126 : decode cX11_spot 126 = .ok (.ireturn, 1) := by decide +kernel
set_option maxHeartbeats 4000000 in
set_option maxRecDepth 100000 in
theorem kX11_spot (l : Launch) (G : g5_G) (a0 a1 a2 a3 a4 a5 a6 a7 a8 a9 a10 a11 a12 a13 a14 a15 a16 a17 a18 a19 a20 : Nat) (sz : Nat) (n0 : Int32) (n1 : Int32) (n2 : Int32) : Met l yX11_spot (wsG yX11_spot cX11_spot 5 (some .int)) ({ frames := 3, cells := 0, slots := 0, locals := 67 }) (va_Pc [.ref a0, .int n0, .int n1, .int n2] (g5_P G [(a0, .inr (11, [.ref a1, .ref a2, .ref a3, .ref a4, .ref a5, .ref a6, .ref a7, .ref a8, .ref a9, .ref a10, .int 0, .int 0, .int (-1), .ref a11, .int 0, .ref a12, .int 0])), (a12, .inl (G.2 0, 5, .inl (fun _ => 0))), (a1, .inr (1, [.long 0, .int 1000, .int (-1), .int (-1), .int 0, .ref a13, .ref a14, .ref a15, .ref a16, .ref a17, .ref a18, .long 0, .ref a19])), (a17, .inr (6, [.int 8, .int 5, .ref a20, .int 0])), (a20, .inl (G.2 0, 40, .inl (fun _ => 0)))] sz)) (va_Qi (fun (r : Int32) (u : va_W) => ((n0.toInt < 0) ∧ (r = (-1)) ∧ (u = [])) ∨ ((n0.toInt ≥ 0) ∧ (n0.toInt ≥ 64) ∧ (r = (-1)) ∧ (u = [])) ∨ ((n0.toInt ≥ 0) ∧ (n0.toInt < 64) ∧ (n1.toInt < 0) ∧ (r = (-1)) ∧ (u = [])) ∨ ((n0.toInt ≥ 0) ∧ (n0.toInt < 64) ∧ (n1.toInt ≥ 0) ∧ (n1.toInt ≥ 6) ∧ (r = (-1)) ∧ (u = [])) ∨ ((n0.toInt ≥ 0) ∧ (n0.toInt < 64) ∧ (n1.toInt ≥ 0) ∧ (n1.toInt < 6) ∧ (n2.toInt < 0) ∧ (r = (-1)) ∧ (u = [])) ∨ ((n0.toInt ≥ 0) ∧ (n0.toInt < 64) ∧ (n1.toInt ≥ 0) ∧ (n1.toInt < 6) ∧ (n2.toInt ≥ 0) ∧ (n2.toInt ≥ 24) ∧ (r = (-1)) ∧ (u = [])) ∨ ((n0.toInt ≥ 0) ∧ (n0.toInt < 64) ∧ (n1.toInt ≥ 0) ∧ (n1.toInt < 6) ∧ (n2.toInt ≥ 0) ∧ (n2.toInt < 24) ∧ (r = 0) ∧ (u = []))) (g5_B G (va_A [(a0, .inr (11, [.ref a1, .ref a2, .ref a3, .ref a4, .ref a5, .ref a6, .ref a7, .ref a8, .ref a9, .ref a10, .int 0, .int 0, .int (-1), .ref a11, .int 0, .ref a12, .int 0])), (a12, .inl (G.2 0, 5, .inl (fun _ => 0))), (a1, .inr (1, [.long 0, .int 1000, .int (-1), .int (-1), .int 0, .ref a13, .ref a14, .ref a15, .ref a16, .ref a17, .ref a18, .long 0, .ref a19])), (a17, .inr (6, [.int 8, .int 5, .ref a20, .int 0])), (a20, .inl (G.2 0, 40, .inl (fun _ => 0)))] sz)) (va_A [(a0, .inr (11, [.ref a1, .ref a2, .ref a3, .ref a4, .ref a5, .ref a6, .ref a7, .ref a8, .ref a9, .ref a10, .int 0, .int 0, .int (-1), .ref a11, .int 0, .ref a12, .int 0])), (a12, .inl (G.2 0, 5, .inl (fun _ => 0))), (a1, .inr (1, [.long 0, .int 1000, .int (-1), .int (-1), .int 0, .ref a13, .ref a14, .ref a15, .ref a16, .ref a17, .ref a18, .long 0, .ref a19])), (a17, .inr (6, [.int 8, .int 5, .ref a20, .int 0])), (a20, .inl (G.2 0, 40, .inl (fun _ => 0)))] sz)) 0 0 (va_A [(a0, .inr (11, [.ref a1, .ref a2, .ref a3, .ref a4, .ref a5, .ref a6, .ref a7, .ref a8, .ref a9, .ref a10, .int 0, .int 0, .int (-1), .ref a11, .int 0, .ref a12, .int 0])), (a12, .inl (G.2 0, 5, .inl (fun _ => 0))), (a1, .inr (1, [.long 0, .int 1000, .int (-1), .int (-1), .int 0, .ref a13, .ref a14, .ref a15, .ref a16, .ref a17, .ref a18, .long 0, .ref a19])), (a17, .inr (6, [.int 8, .int 5, .ref a20, .int 0])), (a20, .inl (G.2 0, 40, .inl (fun _ => 0)))] sz) := by
  refine Met.ofW (cc := cX11_spot) (maxL := 5) (ret := (some .int)) (by decide) rfl ?_
  intro p e s m args below meth c s₁ B hml hv
  obtain ⟨rfl, hsz, hP, hK, hD0, hN, hT⟩ := hv
  have hx := B.exec
  have hb := B.bytes
  have hr := B.returns
  have hts : ∀ w ∈ tblG, w.before _ s = true := fun w h => atoms_spec (ws := (wsG yX11_spot cX11_spot 5 (some .int))) B.pre w (List.mem_cons_of_mem _ h)
  have hown : s.vm.findClass RX11 = some m.cls := findClass_of_methodNamed B.named
  have hlocks := B.notSynchronized
  subst hsz
  have hD := hD0.self (sz := s.heap.size)
  generalize hAe : va_A [(a0, .inr (11, [.ref a1, .ref a2, .ref a3, .ref a4, .ref a5, .ref a6, .ref a7, .ref a8, .ref a9, .ref a10, .int 0, .int 0, .int (-1), .ref a11, .int 0, .ref a12, .int 0])), (a12, .inl (G.2 0, 5, .inl (fun _ => 0))), (a1, .inr (1, [.long 0, .int 1000, .int (-1), .int (-1), .int 0, .ref a13, .ref a14, .ref a15, .ref a16, .ref a17, .ref a18, .long 0, .ref a19])), (a17, .inr (6, [.int 8, .int 5, .ref a20, .int 0])), (a20, .inl (G.2 0, 40, .inl (fun _ => 0)))] s.heap.size = A at hD hT ⊢
  have hA : ∀ q : Nat, s.heap.size ≤ q → A q := fun q h => by rw [← hAe]; exact Or.inr h
  have hS : va_S A s.heap s.heap [] := va_S.rf
  have hP : va_P G.1 vwCl [(a0, .inr (11, [.ref a1, .ref a2, .ref a3, .ref a4, .ref a5, .ref a6, .ref a7, .ref a8, .ref a9, .ref a10, .int 0, .int 0, .int (-1), .ref a11, .int 0, .ref a12, .int 0])), (a12, .inl (G.2 0, 5, .inl (fun _ => 0))), (a1, .inr (1, [.long 0, .int 1000, .int (-1), .int (-1), .int 0, .ref a13, .ref a14, .ref a15, .ref a16, .ref a17, .ref a18, .long 0, .ref a19])), (a17, .inr (6, [.int 8, .int 5, .ref a20, .int 0])), (a20, .inl (G.2 0, 40, .inl (fun _ => 0)))] s.heap := hP
  have hl := lv_entry ([.ref a0, .int n0, .int n1, .int n2]) (n := 5) (Nat.le_of_ble_eq_true rfl)
  rw [lg_entry_eq]
  generalize (lg_sl ([.ref a0, .int n0, .int n1, .int n2]) ++ List.replicate (5 - (lg_sl ([.ref a0, .int n0, .int n1, .int n2])).length) Slot.unset).toArray = ls at hl ⊢
  have hl : lv_has ls 5 [(0, .ref a0), (1, .int n0), (2, .int n1), (3, .int n2)] := hl
  refine lv_iload_n hx hb dX11_spot_0 rfl (lv_at hl 1 rfl) ?_
  have hPc := hP.sub (ws' := []) [] rfl
  have hDc := hD.sub (ws' := []) [] (by decide) rfl
  have hFc := va_free (wc := []) hD hS hA [] rfl
  refine va_calli (va_runS (As := [.int n0]) (rest := []) ⟨hx, hb, hml, hown, hts⟩ (kX11_isCell_2 l G s.heap.size n0) (va_cwS 1 hts gS_X11_97 rfl rfl rfl hs_X11_isCell ⟨Nat.le_of_ble_eq_true rfl, Nat.le_of_ble_eq_true rfl⟩) (g5_preS hPc hK hDc hN hT hS hFc) rfl rfl hl.1 rfl (lv_room (Nat.le_of_ble_eq_true rfl)) dX11_spot_1 ⟨Nat.le_of_ble_eq_true rfl, Nat.le_of_ble_eq_true rfl⟩) hS (fun q _ h => hFc q h) hFc (fun r u t H1 locs ht hvm hw hB hz1 hk1 hS => ?_)
  obtain ⟨hP1, hD1⟩ := hB
  rw [ht] at hP1
  rcases hw with ⟨i_1, rfl, rfl⟩ | ⟨i_2, i_3, rfl, rfl⟩ | ⟨i_4, i_5, rfl, rfl⟩
  ·
    have hP := g5_same hP hk1
    generalize H1 = H at hP hS ⊢
    refine lv_if_eq (tgt := 21) hx hb dX11_spot_4 (by decide) (fun c_6 => ?_) (fun c_6 => ?_)
    ·
      refine lv_aload_n hx hb dX11_spot_21 rfl (lv_at hl 0 rfl) ?_
      refine lv_iconst (v := (-1)) hx hb dX11_spot_22 (by decide) ?_
      have hPc := hP.sub (ws' := [(a0, .inr (11, [.ref a1, .ref a2, .ref a3, .ref a4, .ref a5, .ref a6, .ref a7, .ref a8, .ref a9, .ref a10, .int 0, .int 0, .int (-1), .ref a11, .int 0, .ref a12, .int 0])), (a12, .inl (G.2 0, 5, .inl (fun _ => 0)))]) [0, 1] rfl
      have hDc := hD.sub (ws' := [(a0, .inr (11, [.ref a1, .ref a2, .ref a3, .ref a4, .ref a5, .ref a6, .ref a7, .ref a8, .ref a9, .ref a10, .int 0, .int 0, .int (-1), .ref a11, .int 0, .ref a12, .int 0])), (a12, .inl (G.2 0, 5, .inl (fun _ => 0)))]) [0, 1] (by decide) rfl
      have hFc := va_free (wc := [(a0, .inr (11, [.ref a1, .ref a2, .ref a3, .ref a4, .ref a5, .ref a6, .ref a7, .ref a8, .ref a9, .ref a10, .int 0, .int 0, .int (-1), .ref a11, .int 0, .ref a12, .int 0])), (a12, .inl (G.2 0, 5, .inl (fun _ => 0)))]) hD hS hA [0, 1] rfl
      refine va_calli (va_runV (As := [.int (-1)]) (rest := []) ⟨hx, hb, hml, hown, hts⟩ (kX11_refuse l G a0 a1 a2 a3 a4 a5 a6 a7 a8 a9 a10 a11 a12 H.size) (cwV 1 hts gV_X11_104 rfl rfl rfl hv_X11_refuse ⟨Nat.le_of_ble_eq_true rfl, Nat.le_of_ble_eq_true rfl⟩) (g5_preV hPc hK hDc hN hT hS hFc (ci := 11) (q0 := 0) rfl rfl) rfl rfl hl.1 rfl (lv_room (Nat.le_of_ble_eq_true rfl)) dX11_spot_23 ⟨Nat.le_of_ble_eq_true rfl, Nat.le_of_ble_eq_true rfl⟩) hS (fun q _ h => hFc q h) hFc (fun r u t H1 locs ht hvm hw hB hz1 hk1 hS => ?_)
      obtain ⟨hP1, hD1⟩ := hB
      rw [ht] at hP1
      obtain ⟨rfl, rfl⟩ := hw
      obtain ⟨hP, hD⟩ := va_join (wr := [(a1, .inr (1, [.long 0, .int 1000, .int (-1), .int (-1), .int 0, .ref a13, .ref a14, .ref a15, .ref a16, .ref a17, .ref a18, .long 0, .ref a19])), (a17, .inr (6, [.int 8, .int 5, .ref a20, .int 0])), (a20, .inl (G.2 0, 40, .inl (fun _ => 0)))]) (w1 := [(a0, .inr (11, [.ref a1, .ref a2, .ref a3, .ref a4, .ref a5, .ref a6, .ref a7, .ref a8, .ref a9, .ref a10, .int 0, .int 0, .int (-1), .ref a11, .int 0, .ref a12, .int (-1)])), (a12, .inl (G.2 0, 5, .inl (upd (fun _ => 0) 0 1)))]) hP hD [0, 1] [2, 3, 4] rfl rfl (by decide) (by decide) hk1 hFc hP1 hD1
      generalize H1 = H at hP hS ⊢
      have hP : va_P G.1 vwCl [(a1, .inr (1, [.long 0, .int 1000, .int (-1), .int (-1), .int 0, .ref a13, .ref a14, .ref a15, .ref a16, .ref a17, .ref a18, .long 0, .ref a19])), (a17, .inr (6, [.int 8, .int 5, .ref a20, .int 0])), (a20, .inl (G.2 0, 40, .inl (fun _ => 0))), (a0, .inr (11, [.ref a1, .ref a2, .ref a3, .ref a4, .ref a5, .ref a6, .ref a7, .ref a8, .ref a9, .ref a10, .int 0, .int 0, .int (-1), .ref a11, .int 0, .ref a12, .int (-1)])), (a12, .inl (G.2 0, 5, .inl (upd (fun _ => 0) 0 1)))] H := hP
      have hD : va_D A [(a1, .inr (1, [.long 0, .int 1000, .int (-1), .int (-1), .int 0, .ref a13, .ref a14, .ref a15, .ref a16, .ref a17, .ref a18, .long 0, .ref a19])), (a17, .inr (6, [.int 8, .int 5, .ref a20, .int 0])), (a20, .inl (G.2 0, 40, .inl (fun _ => 0))), (a0, .inr (11, [.ref a1, .ref a2, .ref a3, .ref a4, .ref a5, .ref a6, .ref a7, .ref a8, .ref a9, .ref a10, .int 0, .int 0, .int (-1), .ref a11, .int 0, .ref a12, .int (-1)])), (a12, .inl (G.2 0, 5, .inl (upd (fun _ => 0) 0 1)))] := hD
      have hP := hP.sub (ws' := []) [] rfl
      have hD := hD.sub (ws' := []) [] (by decide) rfl
      exact W.iret (v := (-1)) hx hb hr (fun t ht hW => ⟨⟨(-1), [], rfl, Or.inl (⟨i_1, rfl, rfl⟩), by rw [ht]; exact hP, hD⟩, hS.F ht⟩) hS.2.2 dX11_spot_26
    ·
      exact absurd c_6 (by decide)
  ·
    have hP := g5_same hP hk1
    generalize H1 = H at hP hS ⊢
    refine lv_if_eq (tgt := 21) hx hb dX11_spot_4 (by decide) (fun c_7 => ?_) (fun c_7 => ?_)
    ·
      refine lv_aload_n hx hb dX11_spot_21 rfl (lv_at hl 0 rfl) ?_
      refine lv_iconst (v := (-1)) hx hb dX11_spot_22 (by decide) ?_
      have hPc := hP.sub (ws' := [(a0, .inr (11, [.ref a1, .ref a2, .ref a3, .ref a4, .ref a5, .ref a6, .ref a7, .ref a8, .ref a9, .ref a10, .int 0, .int 0, .int (-1), .ref a11, .int 0, .ref a12, .int 0])), (a12, .inl (G.2 0, 5, .inl (fun _ => 0)))]) [0, 1] rfl
      have hDc := hD.sub (ws' := [(a0, .inr (11, [.ref a1, .ref a2, .ref a3, .ref a4, .ref a5, .ref a6, .ref a7, .ref a8, .ref a9, .ref a10, .int 0, .int 0, .int (-1), .ref a11, .int 0, .ref a12, .int 0])), (a12, .inl (G.2 0, 5, .inl (fun _ => 0)))]) [0, 1] (by decide) rfl
      have hFc := va_free (wc := [(a0, .inr (11, [.ref a1, .ref a2, .ref a3, .ref a4, .ref a5, .ref a6, .ref a7, .ref a8, .ref a9, .ref a10, .int 0, .int 0, .int (-1), .ref a11, .int 0, .ref a12, .int 0])), (a12, .inl (G.2 0, 5, .inl (fun _ => 0)))]) hD hS hA [0, 1] rfl
      refine va_calli (va_runV (As := [.int (-1)]) (rest := []) ⟨hx, hb, hml, hown, hts⟩ (kX11_refuse l G a0 a1 a2 a3 a4 a5 a6 a7 a8 a9 a10 a11 a12 H.size) (cwV 1 hts gV_X11_104 rfl rfl rfl hv_X11_refuse ⟨Nat.le_of_ble_eq_true rfl, Nat.le_of_ble_eq_true rfl⟩) (g5_preV hPc hK hDc hN hT hS hFc (ci := 11) (q0 := 0) rfl rfl) rfl rfl hl.1 rfl (lv_room (Nat.le_of_ble_eq_true rfl)) dX11_spot_23 ⟨Nat.le_of_ble_eq_true rfl, Nat.le_of_ble_eq_true rfl⟩) hS (fun q _ h => hFc q h) hFc (fun r u t H1 locs ht hvm hw hB hz1 hk1 hS => ?_)
      obtain ⟨hP1, hD1⟩ := hB
      rw [ht] at hP1
      obtain ⟨rfl, rfl⟩ := hw
      obtain ⟨hP, hD⟩ := va_join (wr := [(a1, .inr (1, [.long 0, .int 1000, .int (-1), .int (-1), .int 0, .ref a13, .ref a14, .ref a15, .ref a16, .ref a17, .ref a18, .long 0, .ref a19])), (a17, .inr (6, [.int 8, .int 5, .ref a20, .int 0])), (a20, .inl (G.2 0, 40, .inl (fun _ => 0)))]) (w1 := [(a0, .inr (11, [.ref a1, .ref a2, .ref a3, .ref a4, .ref a5, .ref a6, .ref a7, .ref a8, .ref a9, .ref a10, .int 0, .int 0, .int (-1), .ref a11, .int 0, .ref a12, .int (-1)])), (a12, .inl (G.2 0, 5, .inl (upd (fun _ => 0) 0 1)))]) hP hD [0, 1] [2, 3, 4] rfl rfl (by decide) (by decide) hk1 hFc hP1 hD1
      generalize H1 = H at hP hS ⊢
      have hP : va_P G.1 vwCl [(a1, .inr (1, [.long 0, .int 1000, .int (-1), .int (-1), .int 0, .ref a13, .ref a14, .ref a15, .ref a16, .ref a17, .ref a18, .long 0, .ref a19])), (a17, .inr (6, [.int 8, .int 5, .ref a20, .int 0])), (a20, .inl (G.2 0, 40, .inl (fun _ => 0))), (a0, .inr (11, [.ref a1, .ref a2, .ref a3, .ref a4, .ref a5, .ref a6, .ref a7, .ref a8, .ref a9, .ref a10, .int 0, .int 0, .int (-1), .ref a11, .int 0, .ref a12, .int (-1)])), (a12, .inl (G.2 0, 5, .inl (upd (fun _ => 0) 0 1)))] H := hP
      have hD : va_D A [(a1, .inr (1, [.long 0, .int 1000, .int (-1), .int (-1), .int 0, .ref a13, .ref a14, .ref a15, .ref a16, .ref a17, .ref a18, .long 0, .ref a19])), (a17, .inr (6, [.int 8, .int 5, .ref a20, .int 0])), (a20, .inl (G.2 0, 40, .inl (fun _ => 0))), (a0, .inr (11, [.ref a1, .ref a2, .ref a3, .ref a4, .ref a5, .ref a6, .ref a7, .ref a8, .ref a9, .ref a10, .int 0, .int 0, .int (-1), .ref a11, .int 0, .ref a12, .int (-1)])), (a12, .inl (G.2 0, 5, .inl (upd (fun _ => 0) 0 1)))] := hD
      have hP := hP.sub (ws' := []) [] rfl
      have hD := hD.sub (ws' := []) [] (by decide) rfl
      exact W.iret (v := (-1)) hx hb hr (fun t ht hW => ⟨⟨(-1), [], rfl, Or.inr (Or.inl (⟨i_2, i_3, rfl, rfl⟩)), by rw [ht]; exact hP, hD⟩, hS.F ht⟩) hS.2.2 dX11_spot_26
    ·
      exact absurd c_7 (by decide)
  ·
    have hP := g5_same hP hk1
    generalize H1 = H at hP hS ⊢
    refine lv_if_eq (tgt := 21) hx hb dX11_spot_4 (by decide) (fun c_8 => ?_) (fun c_8 => ?_)
    ·
      exact absurd c_8 (by decide)
    ·
      refine lv_iload_n hx hb dX11_spot_7 rfl (lv_at hl 2 rfl) ?_
      have hPc := hP.sub (ws' := []) [] rfl
      have hDc := hD.sub (ws' := []) [] (by decide) rfl
      have hFc := va_free (wc := []) hD hS hA [] rfl
      refine va_calli (va_runS (As := [.int n1]) (rest := []) ⟨hx, hb, hml, hown, hts⟩ (kX11_isSort l G H.size n1) (va_cwS 1 hts gS_X11_124 rfl rfl rfl hs_X11_isSort ⟨Nat.le_of_ble_eq_true rfl, Nat.le_of_ble_eq_true rfl⟩) (g5_preS hPc hK hDc hN hT hS hFc) rfl rfl hl.1 rfl (lv_room (Nat.le_of_ble_eq_true rfl)) dX11_spot_8 ⟨Nat.le_of_ble_eq_true rfl, Nat.le_of_ble_eq_true rfl⟩) hS (fun q _ h => hFc q h) hFc (fun r u t H1 locs ht hvm hw hB hz1 hk1 hS => ?_)
      obtain ⟨hP1, hD1⟩ := hB
      rw [ht] at hP1
      rcases hw with ⟨i_9, rfl, rfl⟩ | ⟨i_10, i_11, rfl, rfl⟩ | ⟨i_12, i_13, rfl, rfl⟩
      ·
        have hP := g5_same hP hk1
        generalize H1 = H at hP hS ⊢
        refine lv_if_eq (tgt := 21) hx hb dX11_spot_11 (by decide) (fun c_14 => ?_) (fun c_14 => ?_)
        ·
          refine lv_aload_n hx hb dX11_spot_21 rfl (lv_at hl 0 rfl) ?_
          refine lv_iconst (v := (-1)) hx hb dX11_spot_22 (by decide) ?_
          have hPc := hP.sub (ws' := [(a0, .inr (11, [.ref a1, .ref a2, .ref a3, .ref a4, .ref a5, .ref a6, .ref a7, .ref a8, .ref a9, .ref a10, .int 0, .int 0, .int (-1), .ref a11, .int 0, .ref a12, .int 0])), (a12, .inl (G.2 0, 5, .inl (fun _ => 0)))]) [0, 1] rfl
          have hDc := hD.sub (ws' := [(a0, .inr (11, [.ref a1, .ref a2, .ref a3, .ref a4, .ref a5, .ref a6, .ref a7, .ref a8, .ref a9, .ref a10, .int 0, .int 0, .int (-1), .ref a11, .int 0, .ref a12, .int 0])), (a12, .inl (G.2 0, 5, .inl (fun _ => 0)))]) [0, 1] (by decide) rfl
          have hFc := va_free (wc := [(a0, .inr (11, [.ref a1, .ref a2, .ref a3, .ref a4, .ref a5, .ref a6, .ref a7, .ref a8, .ref a9, .ref a10, .int 0, .int 0, .int (-1), .ref a11, .int 0, .ref a12, .int 0])), (a12, .inl (G.2 0, 5, .inl (fun _ => 0)))]) hD hS hA [0, 1] rfl
          refine va_calli (va_runV (As := [.int (-1)]) (rest := []) ⟨hx, hb, hml, hown, hts⟩ (kX11_refuse l G a0 a1 a2 a3 a4 a5 a6 a7 a8 a9 a10 a11 a12 H.size) (cwV 1 hts gV_X11_104 rfl rfl rfl hv_X11_refuse ⟨Nat.le_of_ble_eq_true rfl, Nat.le_of_ble_eq_true rfl⟩) (g5_preV hPc hK hDc hN hT hS hFc (ci := 11) (q0 := 0) rfl rfl) rfl rfl hl.1 rfl (lv_room (Nat.le_of_ble_eq_true rfl)) dX11_spot_23 ⟨Nat.le_of_ble_eq_true rfl, Nat.le_of_ble_eq_true rfl⟩) hS (fun q _ h => hFc q h) hFc (fun r u t H1 locs ht hvm hw hB hz1 hk1 hS => ?_)
          obtain ⟨hP1, hD1⟩ := hB
          rw [ht] at hP1
          obtain ⟨rfl, rfl⟩ := hw
          obtain ⟨hP, hD⟩ := va_join (wr := [(a1, .inr (1, [.long 0, .int 1000, .int (-1), .int (-1), .int 0, .ref a13, .ref a14, .ref a15, .ref a16, .ref a17, .ref a18, .long 0, .ref a19])), (a17, .inr (6, [.int 8, .int 5, .ref a20, .int 0])), (a20, .inl (G.2 0, 40, .inl (fun _ => 0)))]) (w1 := [(a0, .inr (11, [.ref a1, .ref a2, .ref a3, .ref a4, .ref a5, .ref a6, .ref a7, .ref a8, .ref a9, .ref a10, .int 0, .int 0, .int (-1), .ref a11, .int 0, .ref a12, .int (-1)])), (a12, .inl (G.2 0, 5, .inl (upd (fun _ => 0) 0 1)))]) hP hD [0, 1] [2, 3, 4] rfl rfl (by decide) (by decide) hk1 hFc hP1 hD1
          generalize H1 = H at hP hS ⊢
          have hP : va_P G.1 vwCl [(a1, .inr (1, [.long 0, .int 1000, .int (-1), .int (-1), .int 0, .ref a13, .ref a14, .ref a15, .ref a16, .ref a17, .ref a18, .long 0, .ref a19])), (a17, .inr (6, [.int 8, .int 5, .ref a20, .int 0])), (a20, .inl (G.2 0, 40, .inl (fun _ => 0))), (a0, .inr (11, [.ref a1, .ref a2, .ref a3, .ref a4, .ref a5, .ref a6, .ref a7, .ref a8, .ref a9, .ref a10, .int 0, .int 0, .int (-1), .ref a11, .int 0, .ref a12, .int (-1)])), (a12, .inl (G.2 0, 5, .inl (upd (fun _ => 0) 0 1)))] H := hP
          have hD : va_D A [(a1, .inr (1, [.long 0, .int 1000, .int (-1), .int (-1), .int 0, .ref a13, .ref a14, .ref a15, .ref a16, .ref a17, .ref a18, .long 0, .ref a19])), (a17, .inr (6, [.int 8, .int 5, .ref a20, .int 0])), (a20, .inl (G.2 0, 40, .inl (fun _ => 0))), (a0, .inr (11, [.ref a1, .ref a2, .ref a3, .ref a4, .ref a5, .ref a6, .ref a7, .ref a8, .ref a9, .ref a10, .int 0, .int 0, .int (-1), .ref a11, .int 0, .ref a12, .int (-1)])), (a12, .inl (G.2 0, 5, .inl (upd (fun _ => 0) 0 1)))] := hD
          have hP := hP.sub (ws' := []) [] rfl
          have hD := hD.sub (ws' := []) [] (by decide) rfl
          exact W.iret (v := (-1)) hx hb hr (fun t ht hW => ⟨⟨(-1), [], rfl, Or.inr (Or.inr (Or.inl (⟨i_4, i_5, i_9, rfl, rfl⟩))), by rw [ht]; exact hP, hD⟩, hS.F ht⟩) hS.2.2 dX11_spot_26
        ·
          exact absurd c_14 (by decide)
      ·
        have hP := g5_same hP hk1
        generalize H1 = H at hP hS ⊢
        refine lv_if_eq (tgt := 21) hx hb dX11_spot_11 (by decide) (fun c_15 => ?_) (fun c_15 => ?_)
        ·
          refine lv_aload_n hx hb dX11_spot_21 rfl (lv_at hl 0 rfl) ?_
          refine lv_iconst (v := (-1)) hx hb dX11_spot_22 (by decide) ?_
          have hPc := hP.sub (ws' := [(a0, .inr (11, [.ref a1, .ref a2, .ref a3, .ref a4, .ref a5, .ref a6, .ref a7, .ref a8, .ref a9, .ref a10, .int 0, .int 0, .int (-1), .ref a11, .int 0, .ref a12, .int 0])), (a12, .inl (G.2 0, 5, .inl (fun _ => 0)))]) [0, 1] rfl
          have hDc := hD.sub (ws' := [(a0, .inr (11, [.ref a1, .ref a2, .ref a3, .ref a4, .ref a5, .ref a6, .ref a7, .ref a8, .ref a9, .ref a10, .int 0, .int 0, .int (-1), .ref a11, .int 0, .ref a12, .int 0])), (a12, .inl (G.2 0, 5, .inl (fun _ => 0)))]) [0, 1] (by decide) rfl
          have hFc := va_free (wc := [(a0, .inr (11, [.ref a1, .ref a2, .ref a3, .ref a4, .ref a5, .ref a6, .ref a7, .ref a8, .ref a9, .ref a10, .int 0, .int 0, .int (-1), .ref a11, .int 0, .ref a12, .int 0])), (a12, .inl (G.2 0, 5, .inl (fun _ => 0)))]) hD hS hA [0, 1] rfl
          refine va_calli (va_runV (As := [.int (-1)]) (rest := []) ⟨hx, hb, hml, hown, hts⟩ (kX11_refuse l G a0 a1 a2 a3 a4 a5 a6 a7 a8 a9 a10 a11 a12 H.size) (cwV 1 hts gV_X11_104 rfl rfl rfl hv_X11_refuse ⟨Nat.le_of_ble_eq_true rfl, Nat.le_of_ble_eq_true rfl⟩) (g5_preV hPc hK hDc hN hT hS hFc (ci := 11) (q0 := 0) rfl rfl) rfl rfl hl.1 rfl (lv_room (Nat.le_of_ble_eq_true rfl)) dX11_spot_23 ⟨Nat.le_of_ble_eq_true rfl, Nat.le_of_ble_eq_true rfl⟩) hS (fun q _ h => hFc q h) hFc (fun r u t H1 locs ht hvm hw hB hz1 hk1 hS => ?_)
          obtain ⟨hP1, hD1⟩ := hB
          rw [ht] at hP1
          obtain ⟨rfl, rfl⟩ := hw
          obtain ⟨hP, hD⟩ := va_join (wr := [(a1, .inr (1, [.long 0, .int 1000, .int (-1), .int (-1), .int 0, .ref a13, .ref a14, .ref a15, .ref a16, .ref a17, .ref a18, .long 0, .ref a19])), (a17, .inr (6, [.int 8, .int 5, .ref a20, .int 0])), (a20, .inl (G.2 0, 40, .inl (fun _ => 0)))]) (w1 := [(a0, .inr (11, [.ref a1, .ref a2, .ref a3, .ref a4, .ref a5, .ref a6, .ref a7, .ref a8, .ref a9, .ref a10, .int 0, .int 0, .int (-1), .ref a11, .int 0, .ref a12, .int (-1)])), (a12, .inl (G.2 0, 5, .inl (upd (fun _ => 0) 0 1)))]) hP hD [0, 1] [2, 3, 4] rfl rfl (by decide) (by decide) hk1 hFc hP1 hD1
          generalize H1 = H at hP hS ⊢
          have hP : va_P G.1 vwCl [(a1, .inr (1, [.long 0, .int 1000, .int (-1), .int (-1), .int 0, .ref a13, .ref a14, .ref a15, .ref a16, .ref a17, .ref a18, .long 0, .ref a19])), (a17, .inr (6, [.int 8, .int 5, .ref a20, .int 0])), (a20, .inl (G.2 0, 40, .inl (fun _ => 0))), (a0, .inr (11, [.ref a1, .ref a2, .ref a3, .ref a4, .ref a5, .ref a6, .ref a7, .ref a8, .ref a9, .ref a10, .int 0, .int 0, .int (-1), .ref a11, .int 0, .ref a12, .int (-1)])), (a12, .inl (G.2 0, 5, .inl (upd (fun _ => 0) 0 1)))] H := hP
          have hD : va_D A [(a1, .inr (1, [.long 0, .int 1000, .int (-1), .int (-1), .int 0, .ref a13, .ref a14, .ref a15, .ref a16, .ref a17, .ref a18, .long 0, .ref a19])), (a17, .inr (6, [.int 8, .int 5, .ref a20, .int 0])), (a20, .inl (G.2 0, 40, .inl (fun _ => 0))), (a0, .inr (11, [.ref a1, .ref a2, .ref a3, .ref a4, .ref a5, .ref a6, .ref a7, .ref a8, .ref a9, .ref a10, .int 0, .int 0, .int (-1), .ref a11, .int 0, .ref a12, .int (-1)])), (a12, .inl (G.2 0, 5, .inl (upd (fun _ => 0) 0 1)))] := hD
          have hP := hP.sub (ws' := []) [] rfl
          have hD := hD.sub (ws' := []) [] (by decide) rfl
          exact W.iret (v := (-1)) hx hb hr (fun t ht hW => ⟨⟨(-1), [], rfl, Or.inr (Or.inr (Or.inr (Or.inl (⟨i_4, i_5, i_10, i_11, rfl, rfl⟩)))), by rw [ht]; exact hP, hD⟩, hS.F ht⟩) hS.2.2 dX11_spot_26
        ·
          exact absurd c_15 (by decide)
      ·
        have hP := g5_same hP hk1
        generalize H1 = H at hP hS ⊢
        refine lv_if_eq (tgt := 21) hx hb dX11_spot_11 (by decide) (fun c_16 => ?_) (fun c_16 => ?_)
        ·
          exact absurd c_16 (by decide)
        ·
          refine lv_iload_n hx hb dX11_spot_14 rfl (lv_at hl 3 rfl) ?_
          have hPc := hP.sub (ws' := []) [] rfl
          have hDc := hD.sub (ws' := []) [] (by decide) rfl
          have hFc := va_free (wc := []) hD hS hA [] rfl
          refine va_calli (va_runS (As := [.int n2]) (rest := []) ⟨hx, hb, hml, hown, hts⟩ (kX11_isHour_2 l G H.size n2) (va_cwS 1 hts gS_X11_127 rfl rfl rfl hs_X11_isHour ⟨Nat.le_of_ble_eq_true rfl, Nat.le_of_ble_eq_true rfl⟩) (g5_preS hPc hK hDc hN hT hS hFc) rfl rfl hl.1 rfl (lv_room (Nat.le_of_ble_eq_true rfl)) dX11_spot_15 ⟨Nat.le_of_ble_eq_true rfl, Nat.le_of_ble_eq_true rfl⟩) hS (fun q _ h => hFc q h) hFc (fun r u t H1 locs ht hvm hw hB hz1 hk1 hS => ?_)
          obtain ⟨hP1, hD1⟩ := hB
          rw [ht] at hP1
          rcases hw with ⟨i_17, rfl, rfl⟩ | ⟨i_18, i_19, rfl, rfl⟩ | ⟨i_20, i_21, rfl, rfl⟩
          ·
            have hP := g5_same hP hk1
            generalize H1 = H at hP hS ⊢
            refine lv_if_ne (tgt := 27) hx hb dX11_spot_18 (by decide) (fun c_22 => ?_) (fun c_22 => ?_)
            ·
              exact absurd c_22 (by decide)
            ·
              refine lv_aload_n hx hb dX11_spot_21 rfl (lv_at hl 0 rfl) ?_
              refine lv_iconst (v := (-1)) hx hb dX11_spot_22 (by decide) ?_
              have hPc := hP.sub (ws' := [(a0, .inr (11, [.ref a1, .ref a2, .ref a3, .ref a4, .ref a5, .ref a6, .ref a7, .ref a8, .ref a9, .ref a10, .int 0, .int 0, .int (-1), .ref a11, .int 0, .ref a12, .int 0])), (a12, .inl (G.2 0, 5, .inl (fun _ => 0)))]) [0, 1] rfl
              have hDc := hD.sub (ws' := [(a0, .inr (11, [.ref a1, .ref a2, .ref a3, .ref a4, .ref a5, .ref a6, .ref a7, .ref a8, .ref a9, .ref a10, .int 0, .int 0, .int (-1), .ref a11, .int 0, .ref a12, .int 0])), (a12, .inl (G.2 0, 5, .inl (fun _ => 0)))]) [0, 1] (by decide) rfl
              have hFc := va_free (wc := [(a0, .inr (11, [.ref a1, .ref a2, .ref a3, .ref a4, .ref a5, .ref a6, .ref a7, .ref a8, .ref a9, .ref a10, .int 0, .int 0, .int (-1), .ref a11, .int 0, .ref a12, .int 0])), (a12, .inl (G.2 0, 5, .inl (fun _ => 0)))]) hD hS hA [0, 1] rfl
              refine va_calli (va_runV (As := [.int (-1)]) (rest := []) ⟨hx, hb, hml, hown, hts⟩ (kX11_refuse l G a0 a1 a2 a3 a4 a5 a6 a7 a8 a9 a10 a11 a12 H.size) (cwV 1 hts gV_X11_104 rfl rfl rfl hv_X11_refuse ⟨Nat.le_of_ble_eq_true rfl, Nat.le_of_ble_eq_true rfl⟩) (g5_preV hPc hK hDc hN hT hS hFc (ci := 11) (q0 := 0) rfl rfl) rfl rfl hl.1 rfl (lv_room (Nat.le_of_ble_eq_true rfl)) dX11_spot_23 ⟨Nat.le_of_ble_eq_true rfl, Nat.le_of_ble_eq_true rfl⟩) hS (fun q _ h => hFc q h) hFc (fun r u t H1 locs ht hvm hw hB hz1 hk1 hS => ?_)
              obtain ⟨hP1, hD1⟩ := hB
              rw [ht] at hP1
              obtain ⟨rfl, rfl⟩ := hw
              obtain ⟨hP, hD⟩ := va_join (wr := [(a1, .inr (1, [.long 0, .int 1000, .int (-1), .int (-1), .int 0, .ref a13, .ref a14, .ref a15, .ref a16, .ref a17, .ref a18, .long 0, .ref a19])), (a17, .inr (6, [.int 8, .int 5, .ref a20, .int 0])), (a20, .inl (G.2 0, 40, .inl (fun _ => 0)))]) (w1 := [(a0, .inr (11, [.ref a1, .ref a2, .ref a3, .ref a4, .ref a5, .ref a6, .ref a7, .ref a8, .ref a9, .ref a10, .int 0, .int 0, .int (-1), .ref a11, .int 0, .ref a12, .int (-1)])), (a12, .inl (G.2 0, 5, .inl (upd (fun _ => 0) 0 1)))]) hP hD [0, 1] [2, 3, 4] rfl rfl (by decide) (by decide) hk1 hFc hP1 hD1
              generalize H1 = H at hP hS ⊢
              have hP : va_P G.1 vwCl [(a1, .inr (1, [.long 0, .int 1000, .int (-1), .int (-1), .int 0, .ref a13, .ref a14, .ref a15, .ref a16, .ref a17, .ref a18, .long 0, .ref a19])), (a17, .inr (6, [.int 8, .int 5, .ref a20, .int 0])), (a20, .inl (G.2 0, 40, .inl (fun _ => 0))), (a0, .inr (11, [.ref a1, .ref a2, .ref a3, .ref a4, .ref a5, .ref a6, .ref a7, .ref a8, .ref a9, .ref a10, .int 0, .int 0, .int (-1), .ref a11, .int 0, .ref a12, .int (-1)])), (a12, .inl (G.2 0, 5, .inl (upd (fun _ => 0) 0 1)))] H := hP
              have hD : va_D A [(a1, .inr (1, [.long 0, .int 1000, .int (-1), .int (-1), .int 0, .ref a13, .ref a14, .ref a15, .ref a16, .ref a17, .ref a18, .long 0, .ref a19])), (a17, .inr (6, [.int 8, .int 5, .ref a20, .int 0])), (a20, .inl (G.2 0, 40, .inl (fun _ => 0))), (a0, .inr (11, [.ref a1, .ref a2, .ref a3, .ref a4, .ref a5, .ref a6, .ref a7, .ref a8, .ref a9, .ref a10, .int 0, .int 0, .int (-1), .ref a11, .int 0, .ref a12, .int (-1)])), (a12, .inl (G.2 0, 5, .inl (upd (fun _ => 0) 0 1)))] := hD
              have hP := hP.sub (ws' := []) [] rfl
              have hD := hD.sub (ws' := []) [] (by decide) rfl
              exact W.iret (v := (-1)) hx hb hr (fun t ht hW => ⟨⟨(-1), [], rfl, Or.inr (Or.inr (Or.inr (Or.inr (Or.inl (⟨i_4, i_5, i_12, i_13, i_17, rfl, rfl⟩))))), by rw [ht]; exact hP, hD⟩, hS.F ht⟩) hS.2.2 dX11_spot_26
          ·
            have hP := g5_same hP hk1
            generalize H1 = H at hP hS ⊢
            refine lv_if_ne (tgt := 27) hx hb dX11_spot_18 (by decide) (fun c_23 => ?_) (fun c_23 => ?_)
            ·
              exact absurd c_23 (by decide)
            ·
              refine lv_aload_n hx hb dX11_spot_21 rfl (lv_at hl 0 rfl) ?_
              refine lv_iconst (v := (-1)) hx hb dX11_spot_22 (by decide) ?_
              have hPc := hP.sub (ws' := [(a0, .inr (11, [.ref a1, .ref a2, .ref a3, .ref a4, .ref a5, .ref a6, .ref a7, .ref a8, .ref a9, .ref a10, .int 0, .int 0, .int (-1), .ref a11, .int 0, .ref a12, .int 0])), (a12, .inl (G.2 0, 5, .inl (fun _ => 0)))]) [0, 1] rfl
              have hDc := hD.sub (ws' := [(a0, .inr (11, [.ref a1, .ref a2, .ref a3, .ref a4, .ref a5, .ref a6, .ref a7, .ref a8, .ref a9, .ref a10, .int 0, .int 0, .int (-1), .ref a11, .int 0, .ref a12, .int 0])), (a12, .inl (G.2 0, 5, .inl (fun _ => 0)))]) [0, 1] (by decide) rfl
              have hFc := va_free (wc := [(a0, .inr (11, [.ref a1, .ref a2, .ref a3, .ref a4, .ref a5, .ref a6, .ref a7, .ref a8, .ref a9, .ref a10, .int 0, .int 0, .int (-1), .ref a11, .int 0, .ref a12, .int 0])), (a12, .inl (G.2 0, 5, .inl (fun _ => 0)))]) hD hS hA [0, 1] rfl
              refine va_calli (va_runV (As := [.int (-1)]) (rest := []) ⟨hx, hb, hml, hown, hts⟩ (kX11_refuse l G a0 a1 a2 a3 a4 a5 a6 a7 a8 a9 a10 a11 a12 H.size) (cwV 1 hts gV_X11_104 rfl rfl rfl hv_X11_refuse ⟨Nat.le_of_ble_eq_true rfl, Nat.le_of_ble_eq_true rfl⟩) (g5_preV hPc hK hDc hN hT hS hFc (ci := 11) (q0 := 0) rfl rfl) rfl rfl hl.1 rfl (lv_room (Nat.le_of_ble_eq_true rfl)) dX11_spot_23 ⟨Nat.le_of_ble_eq_true rfl, Nat.le_of_ble_eq_true rfl⟩) hS (fun q _ h => hFc q h) hFc (fun r u t H1 locs ht hvm hw hB hz1 hk1 hS => ?_)
              obtain ⟨hP1, hD1⟩ := hB
              rw [ht] at hP1
              obtain ⟨rfl, rfl⟩ := hw
              obtain ⟨hP, hD⟩ := va_join (wr := [(a1, .inr (1, [.long 0, .int 1000, .int (-1), .int (-1), .int 0, .ref a13, .ref a14, .ref a15, .ref a16, .ref a17, .ref a18, .long 0, .ref a19])), (a17, .inr (6, [.int 8, .int 5, .ref a20, .int 0])), (a20, .inl (G.2 0, 40, .inl (fun _ => 0)))]) (w1 := [(a0, .inr (11, [.ref a1, .ref a2, .ref a3, .ref a4, .ref a5, .ref a6, .ref a7, .ref a8, .ref a9, .ref a10, .int 0, .int 0, .int (-1), .ref a11, .int 0, .ref a12, .int (-1)])), (a12, .inl (G.2 0, 5, .inl (upd (fun _ => 0) 0 1)))]) hP hD [0, 1] [2, 3, 4] rfl rfl (by decide) (by decide) hk1 hFc hP1 hD1
              generalize H1 = H at hP hS ⊢
              have hP : va_P G.1 vwCl [(a1, .inr (1, [.long 0, .int 1000, .int (-1), .int (-1), .int 0, .ref a13, .ref a14, .ref a15, .ref a16, .ref a17, .ref a18, .long 0, .ref a19])), (a17, .inr (6, [.int 8, .int 5, .ref a20, .int 0])), (a20, .inl (G.2 0, 40, .inl (fun _ => 0))), (a0, .inr (11, [.ref a1, .ref a2, .ref a3, .ref a4, .ref a5, .ref a6, .ref a7, .ref a8, .ref a9, .ref a10, .int 0, .int 0, .int (-1), .ref a11, .int 0, .ref a12, .int (-1)])), (a12, .inl (G.2 0, 5, .inl (upd (fun _ => 0) 0 1)))] H := hP
              have hD : va_D A [(a1, .inr (1, [.long 0, .int 1000, .int (-1), .int (-1), .int 0, .ref a13, .ref a14, .ref a15, .ref a16, .ref a17, .ref a18, .long 0, .ref a19])), (a17, .inr (6, [.int 8, .int 5, .ref a20, .int 0])), (a20, .inl (G.2 0, 40, .inl (fun _ => 0))), (a0, .inr (11, [.ref a1, .ref a2, .ref a3, .ref a4, .ref a5, .ref a6, .ref a7, .ref a8, .ref a9, .ref a10, .int 0, .int 0, .int (-1), .ref a11, .int 0, .ref a12, .int (-1)])), (a12, .inl (G.2 0, 5, .inl (upd (fun _ => 0) 0 1)))] := hD
              have hP := hP.sub (ws' := []) [] rfl
              have hD := hD.sub (ws' := []) [] (by decide) rfl
              exact W.iret (v := (-1)) hx hb hr (fun t ht hW => ⟨⟨(-1), [], rfl, Or.inr (Or.inr (Or.inr (Or.inr (Or.inr (Or.inl (⟨i_4, i_5, i_12, i_13, i_18, i_19, rfl, rfl⟩)))))), by rw [ht]; exact hP, hD⟩, hS.F ht⟩) hS.2.2 dX11_spot_26
          ·
            have hP := g5_same hP hk1
            generalize H1 = H at hP hS ⊢
            refine lv_if_ne (tgt := 27) hx hb dX11_spot_18 (by decide) (fun c_24 => ?_) (fun c_24 => ?_)
            ·
              refine lv_aload_n hx hb dX11_spot_27 rfl (lv_at hl 0 rfl) ?_
              refine va_get (D := G.1) (ci := 11) (v := .ref a1) (C := RX11) (T := TX11) (N := 17) hx hb hts inG_X11 hown hK hP 0 rfl rfl 0 (by decide) (hts _ fl_X11_12) (fun _ h9 => h9) rfl dX11_spot_28 ?_
              refine lv_iload_n hx hb dX11_spot_31 rfl (lv_at hl 1 rfl) ?_
              have hPc := hP.sub (ws' := [(a1, .inr (1, [.long 0, .int 1000, .int (-1), .int (-1), .int 0, .ref a13, .ref a14, .ref a15, .ref a16, .ref a17, .ref a18, .long 0, .ref a19])), (a17, .inr (6, [.int 8, .int 5, .ref a20, .int 0]))]) [2, 3] rfl
              have hDc := hD.sub (ws' := [(a1, .inr (1, [.long 0, .int 1000, .int (-1), .int (-1), .int 0, .ref a13, .ref a14, .ref a15, .ref a16, .ref a17, .ref a18, .long 0, .ref a19])), (a17, .inr (6, [.int 8, .int 5, .ref a20, .int 0]))]) [2, 3] (by decide) rfl
              have hFc := va_free (wc := [(a1, .inr (1, [.long 0, .int 1000, .int (-1), .int (-1), .int 0, .ref a13, .ref a14, .ref a15, .ref a16, .ref a17, .ref a18, .long 0, .ref a19])), (a17, .inr (6, [.int 8, .int 5, .ref a20, .int 0]))]) hD hS hA [2, 3] rfl
              refine va_calli (va_runV (As := [.int n0]) (rest := []) ⟨hx, hb, hml, hown, hts⟩ (kX1_canHang l G a1 a13 a14 a15 a16 a17 a18 a19 a20 H.size n0 ⟨by omega, by omega⟩) (cwV 1 hts gV_X11_133 rfl rfl rfl hv_X1_canHang ⟨Nat.le_of_ble_eq_true rfl, Nat.le_of_ble_eq_true rfl⟩) (g5_preV hPc hK hDc hN hT hS hFc (ci := 1) (q0 := 0) rfl rfl) rfl rfl hl.1 rfl (lv_room (Nat.le_of_ble_eq_true rfl)) dX11_spot_32 ⟨Nat.le_of_ble_eq_true rfl, Nat.le_of_ble_eq_true rfl⟩) hS (fun q _ h => hFc q h) hFc (fun r u t H1 locs ht hvm hw hB hz1 hk1 hS => ?_)
              obtain ⟨hP1, hD1⟩ := hB
              rw [ht] at hP1
              obtain ⟨rfl, rfl⟩ := hw
              obtain ⟨hP, hD⟩ := va_join (wr := [(a0, .inr (11, [.ref a1, .ref a2, .ref a3, .ref a4, .ref a5, .ref a6, .ref a7, .ref a8, .ref a9, .ref a10, .int 0, .int 0, .int (-1), .ref a11, .int 0, .ref a12, .int 0])), (a12, .inl (G.2 0, 5, .inl (fun _ => 0))), (a20, .inl (G.2 0, 40, .inl (fun _ => 0)))]) (w1 := [(a1, .inr (1, [.long 0, .int 1000, .int (-1), .int (-1), .int 0, .ref a13, .ref a14, .ref a15, .ref a16, .ref a17, .ref a18, .long 0, .ref a19])), (a17, .inr (6, [.int 8, .int 5, .ref a20, .int 0]))]) hP hD [2, 3] [0, 1, 4] rfl rfl (by decide) (by decide) hk1 hFc hP1 hD1
              generalize H1 = H at hP hS ⊢
              have hP : va_P G.1 vwCl [(a0, .inr (11, [.ref a1, .ref a2, .ref a3, .ref a4, .ref a5, .ref a6, .ref a7, .ref a8, .ref a9, .ref a10, .int 0, .int 0, .int (-1), .ref a11, .int 0, .ref a12, .int 0])), (a12, .inl (G.2 0, 5, .inl (fun _ => 0))), (a20, .inl (G.2 0, 40, .inl (fun _ => 0))), (a1, .inr (1, [.long 0, .int 1000, .int (-1), .int (-1), .int 0, .ref a13, .ref a14, .ref a15, .ref a16, .ref a17, .ref a18, .long 0, .ref a19])), (a17, .inr (6, [.int 8, .int 5, .ref a20, .int 0]))] H := hP
              have hD : va_D A [(a0, .inr (11, [.ref a1, .ref a2, .ref a3, .ref a4, .ref a5, .ref a6, .ref a7, .ref a8, .ref a9, .ref a10, .int 0, .int 0, .int (-1), .ref a11, .int 0, .ref a12, .int 0])), (a12, .inl (G.2 0, 5, .inl (fun _ => 0))), (a20, .inl (G.2 0, 40, .inl (fun _ => 0))), (a1, .inr (1, [.long 0, .int 1000, .int (-1), .int (-1), .int 0, .ref a13, .ref a14, .ref a15, .ref a16, .ref a17, .ref a18, .long 0, .ref a19])), (a17, .inr (6, [.int 8, .int 5, .ref a20, .int 0]))] := hD
              refine lv_if_ne (tgt := 45) hx hb dX11_spot_35 (by decide) (fun c_25 => ?_) (fun c_25 => ?_)
              ·
                refine lv_aload_n hx hb dX11_spot_45 rfl (lv_at hl 0 rfl) ?_
                refine va_get (D := G.1) (ci := 11) (v := .ref a1) (C := RX11) (T := TX11) (N := 17) hx hb hts inG_X11 hown hK hP 0 rfl rfl 0 (by decide) (hts _ fl_X11_12) (fun _ h9 => h9) rfl dX11_spot_46 ?_
                refine va_get (D := G.1) (ci := 1) (v := .ref a17) (C := RX1) (T := TX1) (N := 13) hx hb hts inG_X1 hown hK hP 3 rfl rfl 9 (by decide) (hts _ fl_X11_306) (fun _ h9 => h9) rfl dX11_spot_49 ?_
                have hPc := hP.sub (ws' := [(a17, .inr (6, [.int 8, .int 5, .ref a20, .int 0]))]) [4] rfl
                have hDc := hD.sub (ws' := [(a17, .inr (6, [.int 8, .int 5, .ref a20, .int 0]))]) [4] (by decide) rfl
                have hFc := va_free (wc := [(a17, .inr (6, [.int 8, .int 5, .ref a20, .int 0]))]) hD hS hA [4] rfl
                refine va_calli (va_runV (As := []) (rest := []) ⟨hx, hb, hml, hown, hts⟩ (kX6_isFull_4 l G a17 a20 H.size) (cwV 0 hts gV_X11_140 rfl rfl rfl hv_X6_isFull ⟨Nat.le_of_ble_eq_true rfl, Nat.le_of_ble_eq_true rfl⟩) (g5_preV hPc hK hDc hN hT hS hFc (ci := 6) (q0 := 0) rfl rfl) rfl rfl hl.1 rfl (lv_room (Nat.le_of_ble_eq_true rfl)) dX11_spot_52 ⟨Nat.le_of_ble_eq_true rfl, Nat.le_of_ble_eq_true rfl⟩) hS (fun q _ h => hFc q h) hFc (fun r u t H1 locs ht hvm hw hB hz1 hk1 hS => ?_)
                obtain ⟨hP1, hD1⟩ := hB
                rw [ht] at hP1
                obtain ⟨rfl, rfl⟩ := hw
                obtain ⟨hP, hD⟩ := va_join (wr := [(a0, .inr (11, [.ref a1, .ref a2, .ref a3, .ref a4, .ref a5, .ref a6, .ref a7, .ref a8, .ref a9, .ref a10, .int 0, .int 0, .int (-1), .ref a11, .int 0, .ref a12, .int 0])), (a12, .inl (G.2 0, 5, .inl (fun _ => 0))), (a20, .inl (G.2 0, 40, .inl (fun _ => 0))), (a1, .inr (1, [.long 0, .int 1000, .int (-1), .int (-1), .int 0, .ref a13, .ref a14, .ref a15, .ref a16, .ref a17, .ref a18, .long 0, .ref a19]))]) (w1 := [(a17, .inr (6, [.int 8, .int 5, .ref a20, .int 0]))]) hP hD [4] [0, 1, 2, 3] rfl rfl (by decide) (by decide) hk1 hFc hP1 hD1
                generalize H1 = H at hP hS ⊢
                have hP : va_P G.1 vwCl [(a0, .inr (11, [.ref a1, .ref a2, .ref a3, .ref a4, .ref a5, .ref a6, .ref a7, .ref a8, .ref a9, .ref a10, .int 0, .int 0, .int (-1), .ref a11, .int 0, .ref a12, .int 0])), (a12, .inl (G.2 0, 5, .inl (fun _ => 0))), (a20, .inl (G.2 0, 40, .inl (fun _ => 0))), (a1, .inr (1, [.long 0, .int 1000, .int (-1), .int (-1), .int 0, .ref a13, .ref a14, .ref a15, .ref a16, .ref a17, .ref a18, .long 0, .ref a19])), (a17, .inr (6, [.int 8, .int 5, .ref a20, .int 0]))] H := hP
                have hD : va_D A [(a0, .inr (11, [.ref a1, .ref a2, .ref a3, .ref a4, .ref a5, .ref a6, .ref a7, .ref a8, .ref a9, .ref a10, .int 0, .int 0, .int (-1), .ref a11, .int 0, .ref a12, .int 0])), (a12, .inl (G.2 0, 5, .inl (fun _ => 0))), (a20, .inl (G.2 0, 40, .inl (fun _ => 0))), (a1, .inr (1, [.long 0, .int 1000, .int (-1), .int (-1), .int 0, .ref a13, .ref a14, .ref a15, .ref a16, .ref a17, .ref a18, .long 0, .ref a19])), (a17, .inr (6, [.int 8, .int 5, .ref a20, .int 0]))] := hD
                refine lv_if_eq (tgt := 65) hx hb dX11_spot_55 (by decide) (fun c_26 => ?_) (fun c_26 => ?_)
                ·
                  refine lv_aload_n hx hb dX11_spot_65 rfl (lv_at hl 0 rfl) ?_
                  refine va_get (D := G.1) (ci := 11) (v := .ref a1) (C := RX11) (T := TX11) (N := 17) hx hb hts inG_X11 hown hK hP 0 rfl rfl 0 (by decide) (hts _ fl_X11_12) (fun _ h9 => h9) rfl dX11_spot_66 ?_
                  refine va_get (D := G.1) (ci := 1) (v := .ref a17) (C := RX1) (T := TX1) (N := 13) hx hb hts inG_X1 hown hK hP 3 rfl rfl 9 (by decide) (hts _ fl_X11_306) (fun _ h9 => h9) rfl dX11_spot_69 ?_
                  refine lv_iconst (v := 0) hx hb dX11_spot_72 (by decide) ?_
                  have hPc := hP.sub (ws' := [(a17, .inr (6, [.int 8, .int 5, .ref a20, .int 0])), (a20, .inl (G.2 0, 40, .inl (fun _ => 0)))]) [4, 2] rfl
                  have hDc := hD.sub (ws' := [(a17, .inr (6, [.int 8, .int 5, .ref a20, .int 0])), (a20, .inl (G.2 0, 40, .inl (fun _ => 0)))]) [4, 2] (by decide) rfl
                  have hFc := va_free (wc := [(a17, .inr (6, [.int 8, .int 5, .ref a20, .int 0])), (a20, .inl (G.2 0, 40, .inl (fun _ => 0)))]) hD hS hA [4, 2] rfl
                  refine va_calli (va_runV (As := [.int 0]) (rest := []) ⟨hx, hb, hml, hown, hts⟩ (kX6_open_4 l G a17 a20 H.size) (cwV 1 hts gV_X11_146 rfl rfl rfl hv_X6_open ⟨Nat.le_of_ble_eq_true rfl, Nat.le_of_ble_eq_true rfl⟩) (g5_preV hPc hK hDc hN hT hS hFc (ci := 6) (q0 := 0) rfl rfl) rfl rfl hl.1 rfl (lv_room (Nat.le_of_ble_eq_true rfl)) dX11_spot_73 ⟨Nat.le_of_ble_eq_true rfl, Nat.le_of_ble_eq_true rfl⟩) hS (fun q _ h => hFc q h) hFc (fun r u t H1 locs ht hvm hw hB hz1 hk1 hS => ?_)
                  obtain ⟨hP1, hD1⟩ := hB
                  rw [ht] at hP1
                  obtain ⟨rfl, rfl⟩ := hw
                  obtain ⟨hP, hD⟩ := va_join (wr := [(a0, .inr (11, [.ref a1, .ref a2, .ref a3, .ref a4, .ref a5, .ref a6, .ref a7, .ref a8, .ref a9, .ref a10, .int 0, .int 0, .int (-1), .ref a11, .int 0, .ref a12, .int 0])), (a12, .inl (G.2 0, 5, .inl (fun _ => 0))), (a1, .inr (1, [.long 0, .int 1000, .int (-1), .int (-1), .int 0, .ref a13, .ref a14, .ref a15, .ref a16, .ref a17, .ref a18, .long 0, .ref a19]))]) (w1 := [(a20, .inl (G.2 0, 40, .inl (upd (upd (upd (upd (upd (fun _ => 0) 0 0) 1 0) 2 0) 3 0) 4 0))), (a17, .inr (6, [.int 8, .int 5, .ref a20, .int 1]))]) hP hD [4, 2] [0, 1, 3] rfl rfl (by decide) (by decide) hk1 hFc hP1 hD1
                  generalize H1 = H at hP hS ⊢
                  have hP : va_P G.1 vwCl [(a0, .inr (11, [.ref a1, .ref a2, .ref a3, .ref a4, .ref a5, .ref a6, .ref a7, .ref a8, .ref a9, .ref a10, .int 0, .int 0, .int (-1), .ref a11, .int 0, .ref a12, .int 0])), (a12, .inl (G.2 0, 5, .inl (fun _ => 0))), (a1, .inr (1, [.long 0, .int 1000, .int (-1), .int (-1), .int 0, .ref a13, .ref a14, .ref a15, .ref a16, .ref a17, .ref a18, .long 0, .ref a19])), (a20, .inl (G.2 0, 40, .inl (upd (upd (upd (upd (upd (fun _ => 0) 0 0) 1 0) 2 0) 3 0) 4 0))), (a17, .inr (6, [.int 8, .int 5, .ref a20, .int 1]))] H := hP
                  have hD : va_D A [(a0, .inr (11, [.ref a1, .ref a2, .ref a3, .ref a4, .ref a5, .ref a6, .ref a7, .ref a8, .ref a9, .ref a10, .int 0, .int 0, .int (-1), .ref a11, .int 0, .ref a12, .int 0])), (a12, .inl (G.2 0, 5, .inl (fun _ => 0))), (a1, .inr (1, [.long 0, .int 1000, .int (-1), .int (-1), .int 0, .ref a13, .ref a14, .ref a15, .ref a16, .ref a17, .ref a18, .long 0, .ref a19])), (a20, .inl (G.2 0, 40, .inl (upd (upd (upd (upd (upd (fun _ => 0) 0 0) 1 0) 2 0) 3 0) 4 0))), (a17, .inr (6, [.int 8, .int 5, .ref a20, .int 1]))] := hD
                  refine lv_istore (lv' := [(4, .int 0), (0, .ref a0), (1, .int n0), (2, .int n1), (3, .int n2)]) hx hb dX11_spot_76 hl (by decide) rfl (fun ls hl => ?_)
                  refine lv_aload_n hx hb dX11_spot_78 rfl (lv_at hl 1 rfl) ?_
                  refine va_get (D := G.1) (ci := 11) (v := .ref a1) (C := RX11) (T := TX11) (N := 17) hx hb hts inG_X11 hown hK hP 0 rfl rfl 0 (by decide) (hts _ fl_X11_12) (fun _ h9 => h9) rfl dX11_spot_79 ?_
                  refine va_get (D := G.1) (ci := 1) (v := .ref a17) (C := RX1) (T := TX1) (N := 13) hx hb hts inG_X1 hown hK hP 2 rfl rfl 9 (by decide) (hts _ fl_X11_306) (fun _ h9 => h9) rfl dX11_spot_82 ?_
                  refine lv_iload hx hb dX11_spot_85 (lv_at hl 0 rfl) ?_
                  refine lv_iconst (v := 0) hx hb dX11_spot_87 (by decide) ?_
                  refine lv_iload_n hx hb dX11_spot_88 rfl (lv_at hl 2 rfl) ?_
                  have hPc := hP.sub (ws' := [(a17, .inr (6, [.int 8, .int 5, .ref a20, .int 1])), (a20, .inl (G.2 0, 40, .inl (upd (upd (upd (upd (upd (fun _ => 0) 0 0) 1 0) 2 0) 3 0) 4 0)))]) [4, 3] rfl
                  have hDc := hD.sub (ws' := [(a17, .inr (6, [.int 8, .int 5, .ref a20, .int 1])), (a20, .inl (G.2 0, 40, .inl (upd (upd (upd (upd (upd (fun _ => 0) 0 0) 1 0) 2 0) 3 0) 4 0)))]) [4, 3] (by decide) rfl
                  have hFc := va_free (wc := [(a17, .inr (6, [.int 8, .int 5, .ref a20, .int 1])), (a20, .inl (G.2 0, 40, .inl (upd (upd (upd (upd (upd (fun _ => 0) 0 0) 1 0) 2 0) 3 0) 4 0)))]) hD hS hA [4, 3] rfl
                  refine va_callv (va_runV (As := [.int 0, .int 0, .int n0]) (rest := []) ⟨hx, hb, hml, hown, hts⟩ (kX6_set_48 l G a17 a20 H.size n0 (upd (upd (upd (upd (upd (fun _ => 0) 0 0) 1 0) 2 0) 3 0) 4 0) ⟨by omega, by omega⟩) (cwV 3 hts gV_X11_149 rfl rfl rfl hv_X6_set ⟨Nat.le_of_ble_eq_true rfl, Nat.le_of_ble_eq_true rfl⟩) (g5_preV hPc hK hDc hN hT hS hFc (ci := 6) (q0 := 0) rfl rfl) rfl rfl hl.1 rfl (lv_room (Nat.le_of_ble_eq_true rfl)) dX11_spot_89 ⟨Nat.le_of_ble_eq_true rfl, Nat.le_of_ble_eq_true rfl⟩) hS (fun q _ h => hFc q h) hFc (fun u t H1 locs ht hvm hw hB hz1 hk1 hS => ?_)
                  obtain ⟨hP1, hD1⟩ := hB
                  rw [ht] at hP1
                  obtain rfl := hw
                  obtain ⟨hP, hD⟩ := va_join (wr := [(a0, .inr (11, [.ref a1, .ref a2, .ref a3, .ref a4, .ref a5, .ref a6, .ref a7, .ref a8, .ref a9, .ref a10, .int 0, .int 0, .int (-1), .ref a11, .int 0, .ref a12, .int 0])), (a12, .inl (G.2 0, 5, .inl (fun _ => 0))), (a1, .inr (1, [.long 0, .int 1000, .int (-1), .int (-1), .int 0, .ref a13, .ref a14, .ref a15, .ref a16, .ref a17, .ref a18, .long 0, .ref a19]))]) (w1 := [(a20, .inl (G.2 0, 40, .inl (upd (upd (upd (upd (upd (upd (fun _ => 0) 0 0) 1 0) 2 0) 3 0) 4 0) 0 n0))), (a17, .inr (6, [.int 8, .int 5, .ref a20, .int 1]))]) hP hD [4, 3] [0, 1, 2] rfl rfl (by decide) (by decide) hk1 hFc hP1 hD1
                  generalize H1 = H at hP hS ⊢
                  have hP : va_P G.1 vwCl [(a0, .inr (11, [.ref a1, .ref a2, .ref a3, .ref a4, .ref a5, .ref a6, .ref a7, .ref a8, .ref a9, .ref a10, .int 0, .int 0, .int (-1), .ref a11, .int 0, .ref a12, .int 0])), (a12, .inl (G.2 0, 5, .inl (fun _ => 0))), (a1, .inr (1, [.long 0, .int 1000, .int (-1), .int (-1), .int 0, .ref a13, .ref a14, .ref a15, .ref a16, .ref a17, .ref a18, .long 0, .ref a19])), (a20, .inl (G.2 0, 40, .inl (upd (upd (upd (upd (upd (upd (fun _ => 0) 0 0) 1 0) 2 0) 3 0) 4 0) 0 n0))), (a17, .inr (6, [.int 8, .int 5, .ref a20, .int 1]))] H := hP
                  have hD : va_D A [(a0, .inr (11, [.ref a1, .ref a2, .ref a3, .ref a4, .ref a5, .ref a6, .ref a7, .ref a8, .ref a9, .ref a10, .int 0, .int 0, .int (-1), .ref a11, .int 0, .ref a12, .int 0])), (a12, .inl (G.2 0, 5, .inl (fun _ => 0))), (a1, .inr (1, [.long 0, .int 1000, .int (-1), .int (-1), .int 0, .ref a13, .ref a14, .ref a15, .ref a16, .ref a17, .ref a18, .long 0, .ref a19])), (a20, .inl (G.2 0, 40, .inl (upd (upd (upd (upd (upd (upd (fun _ => 0) 0 0) 1 0) 2 0) 3 0) 4 0) 0 n0))), (a17, .inr (6, [.int 8, .int 5, .ref a20, .int 1]))] := hD
                  refine lv_aload_n hx hb dX11_spot_92 rfl (lv_at hl 1 rfl) ?_
                  refine va_get (D := G.1) (ci := 11) (v := .ref a1) (C := RX11) (T := TX11) (N := 17) hx hb hts inG_X11 hown hK hP 0 rfl rfl 0 (by decide) (hts _ fl_X11_12) (fun _ h9 => h9) rfl dX11_spot_93 ?_
                  refine va_get (D := G.1) (ci := 1) (v := .ref a17) (C := RX1) (T := TX1) (N := 13) hx hb hts inG_X1 hown hK hP 2 rfl rfl 9 (by decide) (hts _ fl_X11_306) (fun _ h9 => h9) rfl dX11_spot_96 ?_
                  refine lv_iload hx hb dX11_spot_99 (lv_at hl 0 rfl) ?_
                  refine lv_iconst (v := 1) hx hb dX11_spot_101 (by decide) ?_
                  refine lv_iload_n hx hb dX11_spot_102 rfl (lv_at hl 3 rfl) ?_
                  have hPc := hP.sub (ws' := [(a17, .inr (6, [.int 8, .int 5, .ref a20, .int 1])), (a20, .inl (G.2 0, 40, .inl (upd (upd (upd (upd (upd (upd (fun _ => 0) 0 0) 1 0) 2 0) 3 0) 4 0) 0 n0)))]) [4, 3] rfl
                  have hDc := hD.sub (ws' := [(a17, .inr (6, [.int 8, .int 5, .ref a20, .int 1])), (a20, .inl (G.2 0, 40, .inl (upd (upd (upd (upd (upd (upd (fun _ => 0) 0 0) 1 0) 2 0) 3 0) 4 0) 0 n0)))]) [4, 3] (by decide) rfl
                  have hFc := va_free (wc := [(a17, .inr (6, [.int 8, .int 5, .ref a20, .int 1])), (a20, .inl (G.2 0, 40, .inl (upd (upd (upd (upd (upd (upd (fun _ => 0) 0 0) 1 0) 2 0) 3 0) 4 0) 0 n0)))]) hD hS hA [4, 3] rfl
                  refine va_callv (va_runV (As := [.int 0, .int 1, .int n1]) (rest := []) ⟨hx, hb, hml, hown, hts⟩ (kX6_set_49 l G a17 a20 H.size n1 (upd (upd (upd (upd (upd (upd (fun _ => 0) 0 0) 1 0) 2 0) 3 0) 4 0) 0 n0) ⟨by omega, by omega⟩) (cwV 3 hts gV_X11_149 rfl rfl rfl hv_X6_set ⟨Nat.le_of_ble_eq_true rfl, Nat.le_of_ble_eq_true rfl⟩) (g5_preV hPc hK hDc hN hT hS hFc (ci := 6) (q0 := 0) rfl rfl) rfl rfl hl.1 rfl (lv_room (Nat.le_of_ble_eq_true rfl)) dX11_spot_103 ⟨Nat.le_of_ble_eq_true rfl, Nat.le_of_ble_eq_true rfl⟩) hS (fun q _ h => hFc q h) hFc (fun u t H1 locs ht hvm hw hB hz1 hk1 hS => ?_)
                  obtain ⟨hP1, hD1⟩ := hB
                  rw [ht] at hP1
                  obtain rfl := hw
                  obtain ⟨hP, hD⟩ := va_join (wr := [(a0, .inr (11, [.ref a1, .ref a2, .ref a3, .ref a4, .ref a5, .ref a6, .ref a7, .ref a8, .ref a9, .ref a10, .int 0, .int 0, .int (-1), .ref a11, .int 0, .ref a12, .int 0])), (a12, .inl (G.2 0, 5, .inl (fun _ => 0))), (a1, .inr (1, [.long 0, .int 1000, .int (-1), .int (-1), .int 0, .ref a13, .ref a14, .ref a15, .ref a16, .ref a17, .ref a18, .long 0, .ref a19]))]) (w1 := [(a20, .inl (G.2 0, 40, .inl (upd (upd (upd (upd (upd (upd (upd (fun _ => 0) 0 0) 1 0) 2 0) 3 0) 4 0) 0 n0) 1 n1))), (a17, .inr (6, [.int 8, .int 5, .ref a20, .int 1]))]) hP hD [4, 3] [0, 1, 2] rfl rfl (by decide) (by decide) hk1 hFc hP1 hD1
                  generalize H1 = H at hP hS ⊢
                  have hP : va_P G.1 vwCl [(a0, .inr (11, [.ref a1, .ref a2, .ref a3, .ref a4, .ref a5, .ref a6, .ref a7, .ref a8, .ref a9, .ref a10, .int 0, .int 0, .int (-1), .ref a11, .int 0, .ref a12, .int 0])), (a12, .inl (G.2 0, 5, .inl (fun _ => 0))), (a1, .inr (1, [.long 0, .int 1000, .int (-1), .int (-1), .int 0, .ref a13, .ref a14, .ref a15, .ref a16, .ref a17, .ref a18, .long 0, .ref a19])), (a20, .inl (G.2 0, 40, .inl (upd (upd (upd (upd (upd (upd (upd (fun _ => 0) 0 0) 1 0) 2 0) 3 0) 4 0) 0 n0) 1 n1))), (a17, .inr (6, [.int 8, .int 5, .ref a20, .int 1]))] H := hP
                  have hD : va_D A [(a0, .inr (11, [.ref a1, .ref a2, .ref a3, .ref a4, .ref a5, .ref a6, .ref a7, .ref a8, .ref a9, .ref a10, .int 0, .int 0, .int (-1), .ref a11, .int 0, .ref a12, .int 0])), (a12, .inl (G.2 0, 5, .inl (fun _ => 0))), (a1, .inr (1, [.long 0, .int 1000, .int (-1), .int (-1), .int 0, .ref a13, .ref a14, .ref a15, .ref a16, .ref a17, .ref a18, .long 0, .ref a19])), (a20, .inl (G.2 0, 40, .inl (upd (upd (upd (upd (upd (upd (upd (fun _ => 0) 0 0) 1 0) 2 0) 3 0) 4 0) 0 n0) 1 n1))), (a17, .inr (6, [.int 8, .int 5, .ref a20, .int 1]))] := hD
                  refine lv_aload_n hx hb dX11_spot_106 rfl (lv_at hl 1 rfl) ?_
                  refine va_get (D := G.1) (ci := 11) (v := .ref a1) (C := RX11) (T := TX11) (N := 17) hx hb hts inG_X11 hown hK hP 0 rfl rfl 0 (by decide) (hts _ fl_X11_12) (fun _ h9 => h9) rfl dX11_spot_107 ?_
                  refine va_get (D := G.1) (ci := 1) (v := .ref a17) (C := RX1) (T := TX1) (N := 13) hx hb hts inG_X1 hown hK hP 2 rfl rfl 9 (by decide) (hts _ fl_X11_306) (fun _ h9 => h9) rfl dX11_spot_110 ?_
                  refine lv_iload hx hb dX11_spot_113 (lv_at hl 0 rfl) ?_
                  refine lv_iconst (v := 2) hx hb dX11_spot_115 (by decide) ?_
                  refine lv_iload_n hx hb dX11_spot_116 rfl (lv_at hl 4 rfl) ?_
                  have hPc := hP.sub (ws' := [(a17, .inr (6, [.int 8, .int 5, .ref a20, .int 1])), (a20, .inl (G.2 0, 40, .inl (upd (upd (upd (upd (upd (upd (upd (fun _ => 0) 0 0) 1 0) 2 0) 3 0) 4 0) 0 n0) 1 n1)))]) [4, 3] rfl
                  have hDc := hD.sub (ws' := [(a17, .inr (6, [.int 8, .int 5, .ref a20, .int 1])), (a20, .inl (G.2 0, 40, .inl (upd (upd (upd (upd (upd (upd (upd (fun _ => 0) 0 0) 1 0) 2 0) 3 0) 4 0) 0 n0) 1 n1)))]) [4, 3] (by decide) rfl
                  have hFc := va_free (wc := [(a17, .inr (6, [.int 8, .int 5, .ref a20, .int 1])), (a20, .inl (G.2 0, 40, .inl (upd (upd (upd (upd (upd (upd (upd (fun _ => 0) 0 0) 1 0) 2 0) 3 0) 4 0) 0 n0) 1 n1)))]) hD hS hA [4, 3] rfl
                  refine va_callv (va_runV (As := [.int 0, .int 2, .int n2]) (rest := []) ⟨hx, hb, hml, hown, hts⟩ (kX6_set_50 l G a17 a20 H.size n2 (upd (upd (upd (upd (upd (upd (upd (fun _ => 0) 0 0) 1 0) 2 0) 3 0) 4 0) 0 n0) 1 n1) ⟨by omega, by omega⟩) (cwV 3 hts gV_X11_149 rfl rfl rfl hv_X6_set ⟨Nat.le_of_ble_eq_true rfl, Nat.le_of_ble_eq_true rfl⟩) (g5_preV hPc hK hDc hN hT hS hFc (ci := 6) (q0 := 0) rfl rfl) rfl rfl hl.1 rfl (lv_room (Nat.le_of_ble_eq_true rfl)) dX11_spot_117 ⟨Nat.le_of_ble_eq_true rfl, Nat.le_of_ble_eq_true rfl⟩) hS (fun q _ h => hFc q h) hFc (fun u t H1 locs ht hvm hw hB hz1 hk1 hS => ?_)
                  obtain ⟨hP1, hD1⟩ := hB
                  rw [ht] at hP1
                  obtain rfl := hw
                  obtain ⟨hP, hD⟩ := va_join (wr := [(a0, .inr (11, [.ref a1, .ref a2, .ref a3, .ref a4, .ref a5, .ref a6, .ref a7, .ref a8, .ref a9, .ref a10, .int 0, .int 0, .int (-1), .ref a11, .int 0, .ref a12, .int 0])), (a12, .inl (G.2 0, 5, .inl (fun _ => 0))), (a1, .inr (1, [.long 0, .int 1000, .int (-1), .int (-1), .int 0, .ref a13, .ref a14, .ref a15, .ref a16, .ref a17, .ref a18, .long 0, .ref a19]))]) (w1 := [(a20, .inl (G.2 0, 40, .inl (upd (upd (upd (upd (upd (upd (upd (upd (fun _ => 0) 0 0) 1 0) 2 0) 3 0) 4 0) 0 n0) 1 n1) 2 n2))), (a17, .inr (6, [.int 8, .int 5, .ref a20, .int 1]))]) hP hD [4, 3] [0, 1, 2] rfl rfl (by decide) (by decide) hk1 hFc hP1 hD1
                  generalize H1 = H at hP hS ⊢
                  have hP : va_P G.1 vwCl [(a0, .inr (11, [.ref a1, .ref a2, .ref a3, .ref a4, .ref a5, .ref a6, .ref a7, .ref a8, .ref a9, .ref a10, .int 0, .int 0, .int (-1), .ref a11, .int 0, .ref a12, .int 0])), (a12, .inl (G.2 0, 5, .inl (fun _ => 0))), (a1, .inr (1, [.long 0, .int 1000, .int (-1), .int (-1), .int 0, .ref a13, .ref a14, .ref a15, .ref a16, .ref a17, .ref a18, .long 0, .ref a19])), (a20, .inl (G.2 0, 40, .inl (upd (upd (upd (upd (upd (upd (upd (upd (fun _ => 0) 0 0) 1 0) 2 0) 3 0) 4 0) 0 n0) 1 n1) 2 n2))), (a17, .inr (6, [.int 8, .int 5, .ref a20, .int 1]))] H := hP
                  have hD : va_D A [(a0, .inr (11, [.ref a1, .ref a2, .ref a3, .ref a4, .ref a5, .ref a6, .ref a7, .ref a8, .ref a9, .ref a10, .int 0, .int 0, .int (-1), .ref a11, .int 0, .ref a12, .int 0])), (a12, .inl (G.2 0, 5, .inl (fun _ => 0))), (a1, .inr (1, [.long 0, .int 1000, .int (-1), .int (-1), .int 0, .ref a13, .ref a14, .ref a15, .ref a16, .ref a17, .ref a18, .long 0, .ref a19])), (a20, .inl (G.2 0, 40, .inl (upd (upd (upd (upd (upd (upd (upd (upd (fun _ => 0) 0 0) 1 0) 2 0) 3 0) 4 0) 0 n0) 1 n1) 2 n2))), (a17, .inr (6, [.int 8, .int 5, .ref a20, .int 1]))] := hD
                  refine lv_aload_n hx hb dX11_spot_120 rfl (lv_at hl 1 rfl) ?_
                  refine lv_iload hx hb dX11_spot_121 (lv_at hl 0 rfl) ?_
                  have hPc := hP.sub (ws' := [(a0, .inr (11, [.ref a1, .ref a2, .ref a3, .ref a4, .ref a5, .ref a6, .ref a7, .ref a8, .ref a9, .ref a10, .int 0, .int 0, .int (-1), .ref a11, .int 0, .ref a12, .int 0]))]) [0] rfl
                  have hDc := hD.sub (ws' := [(a0, .inr (11, [.ref a1, .ref a2, .ref a3, .ref a4, .ref a5, .ref a6, .ref a7, .ref a8, .ref a9, .ref a10, .int 0, .int 0, .int (-1), .ref a11, .int 0, .ref a12, .int 0]))]) [0] (by decide) rfl
                  have hFc := va_free (wc := [(a0, .inr (11, [.ref a1, .ref a2, .ref a3, .ref a4, .ref a5, .ref a6, .ref a7, .ref a8, .ref a9, .ref a10, .int 0, .int 0, .int (-1), .ref a11, .int 0, .ref a12, .int 0]))]) hD hS hA [0] rfl
                  refine va_calli (va_runV (As := [.int 0]) (rest := []) ⟨hx, hb, hml, hown, hts⟩ (kX11_done_2 l G a0 a1 a2 a3 a4 a5 a6 a7 a8 a9 a10 a11 a12 H.size) (cwV 1 hts gV_X11_121 rfl rfl rfl hv_X11_done ⟨Nat.le_of_ble_eq_true rfl, Nat.le_of_ble_eq_true rfl⟩) (g5_preV hPc hK hDc hN hT hS hFc (ci := 11) (q0 := 0) rfl rfl) rfl rfl hl.1 rfl (lv_room (Nat.le_of_ble_eq_true rfl)) dX11_spot_123 ⟨Nat.le_of_ble_eq_true rfl, Nat.le_of_ble_eq_true rfl⟩) hS (fun q _ h => hFc q h) hFc (fun r u t H1 locs ht hvm hw hB hz1 hk1 hS => ?_)
                  obtain ⟨hP1, hD1⟩ := hB
                  rw [ht] at hP1
                  obtain ⟨rfl, rfl⟩ := hw
                  obtain ⟨hP, hD⟩ := va_join (wr := [(a12, .inl (G.2 0, 5, .inl (fun _ => 0))), (a1, .inr (1, [.long 0, .int 1000, .int (-1), .int (-1), .int 0, .ref a13, .ref a14, .ref a15, .ref a16, .ref a17, .ref a18, .long 0, .ref a19])), (a20, .inl (G.2 0, 40, .inl (upd (upd (upd (upd (upd (upd (upd (upd (fun _ => 0) 0 0) 1 0) 2 0) 3 0) 4 0) 0 n0) 1 n1) 2 n2))), (a17, .inr (6, [.int 8, .int 5, .ref a20, .int 1]))]) (w1 := [(a0, .inr (11, [.ref a1, .ref a2, .ref a3, .ref a4, .ref a5, .ref a6, .ref a7, .ref a8, .ref a9, .ref a10, .int 0, .int 0, .int (-1), .ref a11, .int 0, .ref a12, .int 0]))]) hP hD [0] [1, 2, 3, 4] rfl rfl (by decide) (by decide) hk1 hFc hP1 hD1
                  generalize H1 = H at hP hS ⊢
                  have hP : va_P G.1 vwCl [(a12, .inl (G.2 0, 5, .inl (fun _ => 0))), (a1, .inr (1, [.long 0, .int 1000, .int (-1), .int (-1), .int 0, .ref a13, .ref a14, .ref a15, .ref a16, .ref a17, .ref a18, .long 0, .ref a19])), (a20, .inl (G.2 0, 40, .inl (upd (upd (upd (upd (upd (upd (upd (upd (fun _ => 0) 0 0) 1 0) 2 0) 3 0) 4 0) 0 n0) 1 n1) 2 n2))), (a17, .inr (6, [.int 8, .int 5, .ref a20, .int 1])), (a0, .inr (11, [.ref a1, .ref a2, .ref a3, .ref a4, .ref a5, .ref a6, .ref a7, .ref a8, .ref a9, .ref a10, .int 0, .int 0, .int (-1), .ref a11, .int 0, .ref a12, .int 0]))] H := hP
                  have hD : va_D A [(a12, .inl (G.2 0, 5, .inl (fun _ => 0))), (a1, .inr (1, [.long 0, .int 1000, .int (-1), .int (-1), .int 0, .ref a13, .ref a14, .ref a15, .ref a16, .ref a17, .ref a18, .long 0, .ref a19])), (a20, .inl (G.2 0, 40, .inl (upd (upd (upd (upd (upd (upd (upd (upd (fun _ => 0) 0 0) 1 0) 2 0) 3 0) 4 0) 0 n0) 1 n1) 2 n2))), (a17, .inr (6, [.int 8, .int 5, .ref a20, .int 1])), (a0, .inr (11, [.ref a1, .ref a2, .ref a3, .ref a4, .ref a5, .ref a6, .ref a7, .ref a8, .ref a9, .ref a10, .int 0, .int 0, .int (-1), .ref a11, .int 0, .ref a12, .int 0]))] := hD
                  have hP := hP.sub (ws' := []) [] rfl
                  have hD := hD.sub (ws' := []) [] (by decide) rfl
                  exact W.iret (v := 0) hx hb hr (fun t ht hW => ⟨⟨0, [], rfl, Or.inr (Or.inr (Or.inr (Or.inr (Or.inr (Or.inr (⟨i_4, i_5, i_12, i_13, i_20, i_21, rfl, rfl⟩)))))), by rw [ht]; exact hP, hD⟩, hS.F ht⟩) hS.2.2 dX11_spot_126
                ·
                  exact absurd c_26 (by decide)
              ·
                exact absurd c_25 (by decide)
            ·
              exact absurd c_24 (by decide)
theorem fl_X11_309 : Cond.fieldLink RX11 309 "LateGlass$House" "wishes" "LLateGlass$Table;" ∈ tblG := tg 187 (by decide +kernel) (by decide +kernel)
set_option maxHeartbeats 4000000 in
set_option maxRecDepth 100000 in
theorem kX6_isFull_5 (l : Launch) (G : g5_G) (a0 a1 : Nat) (sz : Nat) : Met l yX6_isFull (wsG yX6_isFull cX6_isFull 1 (some .boolean)) ({ frames := 0, cells := 0, slots := 0, locals := 0 }) (va_Pc [.ref a0] (g5_P G [(a0, .inr (6, [.int 6, .int 6, .ref a1, .int 0]))] sz)) (va_Qi (fun (r : Int32) (u : va_W) => ((r = 0) ∧ (u = [(a0, .inr (6, [.int 6, .int 6, .ref a1, .int 0]))]))) (g5_B G (va_A [(a0, .inr (6, [.int 6, .int 6, .ref a1, .int 0]))] sz)) (va_A [(a0, .inr (6, [.int 6, .int 6, .ref a1, .int 0]))] sz)) 0 0 (va_A [(a0, .inr (6, [.int 6, .int 6, .ref a1, .int 0]))] sz) := by
  refine Met.ofW (cc := cX6_isFull) (maxL := 1) (ret := (some .boolean)) (by decide) rfl ?_
  intro p e s m args below meth c s₁ B hml hv
  obtain ⟨rfl, hsz, hP, hK, hD0, hN, hT⟩ := hv
  have hx := B.exec
  have hb := B.bytes
  have hr := B.returns
  have hts : ∀ w ∈ tblG, w.before _ s = true := fun w h => atoms_spec (ws := (wsG yX6_isFull cX6_isFull 1 (some .boolean))) B.pre w (List.mem_cons_of_mem _ h)
  have hown : s.vm.findClass RX6 = some m.cls := findClass_of_methodNamed B.named
  have hlocks := B.notSynchronized
  subst hsz
  have hD := hD0.self (sz := s.heap.size)
  generalize hAe : va_A [(a0, .inr (6, [.int 6, .int 6, .ref a1, .int 0]))] s.heap.size = A at hD hT ⊢
  have hA : ∀ q : Nat, s.heap.size ≤ q → A q := fun q h => by rw [← hAe]; exact Or.inr h
  have hS : va_S A s.heap s.heap [] := va_S.rf
  have hP : va_P G.1 vwCl [(a0, .inr (6, [.int 6, .int 6, .ref a1, .int 0]))] s.heap := hP
  have hl := lv_entry ([.ref a0]) (n := 1) (Nat.le_of_ble_eq_true rfl)
  rw [lg_entry_eq]
  generalize (lg_sl ([.ref a0]) ++ List.replicate (1 - (lg_sl ([.ref a0])).length) Slot.unset).toArray = ls at hl ⊢
  have hl : lv_has ls 1 [(0, .ref a0)] := hl
  refine lv_aload_n hx hb dX6_isFull_0 rfl (lv_at hl 0 rfl) ?_
  refine va_get (D := G.1) (ci := 6) (v := .int 0) (C := RX6) (T := TX6) (N := 4) hx hb hts inG_X6 hown hK hP 0 rfl rfl 3 (by decide) (hts _ fl_X6_9) (fun _ h9 => h9) rfl dX6_isFull_1 ?_
  refine lv_aload_n hx hb dX6_isFull_4 rfl (lv_at hl 0 rfl) ?_
  refine va_get (D := G.1) (ci := 6) (v := .int 6) (C := RX6) (T := TX6) (N := 4) hx hb hts inG_X6 hown hK hP 0 rfl rfl 0 (by decide) (hts _ fl_X6_15) (fun _ h9 => h9) rfl dX6_isFull_5 ?_
  refine lv_icmp_lt (tgt := 15) hx hb dX6_isFull_8 (by decide) (fun c_1 => ?_) (fun c_1 => ?_)
  ·
    refine lv_iconst (v := 0) hx hb dX6_isFull_15 (by decide) ?_
    exact W.zret (v := 0) hx hb hr rfl (fun t ht hW => ⟨⟨0, [(a0, .inr (6, [.int 6, .int 6, .ref a1, .int 0]))], rfl, ⟨rfl, rfl⟩, by rw [ht]; exact hP, hD⟩, hS.F ht⟩) hS.2.2 dX6_isFull_16
  ·
    exact absurd c_1 (by decide)
set_option maxHeartbeats 4000000 in
set_option maxRecDepth 100000 in
theorem kX6_has_8 (l : Launch) (G : g5_G) (a0 a1 : Nat) (sz : Nat) : Met l yX6_has (wsG yX6_has cX6_has 2 (some .boolean)) ({ frames := 0, cells := 0, slots := 0, locals := 0 }) (va_Pc [.ref a0, .int 0] (g5_P G [(a0, .inr (6, [.int 6, .int 6, .ref a1, .int 1]))] sz)) (va_Qi (fun (r : Int32) (u : va_W) => ((r = 1) ∧ (u = [(a0, .inr (6, [.int 6, .int 6, .ref a1, .int 1]))]))) (g5_B G (va_A [(a0, .inr (6, [.int 6, .int 6, .ref a1, .int 1]))] sz)) (va_A [(a0, .inr (6, [.int 6, .int 6, .ref a1, .int 1]))] sz)) 0 0 (va_A [(a0, .inr (6, [.int 6, .int 6, .ref a1, .int 1]))] sz) := by
  refine Met.ofW (cc := cX6_has) (maxL := 2) (ret := (some .boolean)) (by decide) rfl ?_
  intro p e s m args below meth c s₁ B hml hv
  obtain ⟨rfl, hsz, hP, hK, hD0, hN, hT⟩ := hv
  have hx := B.exec
  have hb := B.bytes
  have hr := B.returns
  have hts : ∀ w ∈ tblG, w.before _ s = true := fun w h => atoms_spec (ws := (wsG yX6_has cX6_has 2 (some .boolean))) B.pre w (List.mem_cons_of_mem _ h)
  have hown : s.vm.findClass RX6 = some m.cls := findClass_of_methodNamed B.named
  have hlocks := B.notSynchronized
  subst hsz
  have hD := hD0.self (sz := s.heap.size)
  generalize hAe : va_A [(a0, .inr (6, [.int 6, .int 6, .ref a1, .int 1]))] s.heap.size = A at hD hT ⊢
  have hA : ∀ q : Nat, s.heap.size ≤ q → A q := fun q h => by rw [← hAe]; exact Or.inr h
  have hS : va_S A s.heap s.heap [] := va_S.rf
  have hP : va_P G.1 vwCl [(a0, .inr (6, [.int 6, .int 6, .ref a1, .int 1]))] s.heap := hP
  have hl := lv_entry ([.ref a0, .int 0]) (n := 2) (Nat.le_of_ble_eq_true rfl)
  rw [lg_entry_eq]
  generalize (lg_sl ([.ref a0, .int 0]) ++ List.replicate (2 - (lg_sl ([.ref a0, .int 0])).length) Slot.unset).toArray = ls at hl ⊢
  have hl : lv_has ls 2 [(0, .ref a0), (1, .int 0)] := hl
  refine lv_iload_n hx hb dX6_has_0 rfl (lv_at hl 1 rfl) ?_
  refine lv_if_lt (tgt := 16) hx hb dX6_has_1 (by decide) (fun c_1 => ?_) (fun c_1 => ?_)
  ·
    exact absurd c_1 (by decide)
  ·
    refine lv_iload_n hx hb dX6_has_4 rfl (lv_at hl 1 rfl) ?_
    refine lv_aload_n hx hb dX6_has_5 rfl (lv_at hl 0 rfl) ?_
    refine va_get (D := G.1) (ci := 6) (v := .int 1) (C := RX6) (T := TX6) (N := 4) hx hb hts inG_X6 hown hK hP 0 rfl rfl 3 (by decide) (hts _ fl_X6_9) (fun _ h9 => h9) rfl dX6_has_6 ?_
    refine lv_icmp_ge (tgt := 16) hx hb dX6_has_9 (by decide) (fun c_2 => ?_) (fun c_2 => ?_)
    ·
      exact absurd c_2 (by decide)
    ·
      refine lv_iconst (v := 1) hx hb dX6_has_12 (by decide) ?_
      refine lv_goto (tgt := 17) hx hb dX6_has_13 (by decide) ?_
      exact W.zret (v := 1) hx hb hr rfl (fun t ht hW => ⟨⟨1, [(a0, .inr (6, [.int 6, .int 6, .ref a1, .int 1]))], rfl, ⟨rfl, rfl⟩, by rw [ht]; exact hP, hD⟩, hS.F ht⟩) hS.2.2 dX6_has_17
set_option maxHeartbeats 4000000 in
set_option maxRecDepth 100000 in
theorem kX6_set_51 (l : Launch) (G : g5_G) (a0 a1 : Nat) (sz : Nat) : Met l yX6_set (wsG yX6_set cX6_set 4 none) ({ frames := 1, cells := 0, slots := 0, locals := 21 }) (va_Pc [.ref a0, .int 0, .int 0, .int 0] (g5_P G [(a0, .inr (6, [.int 6, .int 6, .ref a1, .int 1])), (a1, .inl (G.2 0, 36, .inl (fun _ => 0)))] sz)) (va_Qv (fun (u : va_W) => ((u = [(a1, .inl (G.2 0, 36, .inl (upd (fun _ => 0) 0 0))), (a0, .inr (6, [.int 6, .int 6, .ref a1, .int 1]))]))) (g5_B G (va_A [(a0, .inr (6, [.int 6, .int 6, .ref a1, .int 1])), (a1, .inl (G.2 0, 36, .inl (fun _ => 0)))] sz)) (va_A [(a0, .inr (6, [.int 6, .int 6, .ref a1, .int 1])), (a1, .inl (G.2 0, 36, .inl (fun _ => 0)))] sz)) 0 0 (va_A [(a0, .inr (6, [.int 6, .int 6, .ref a1, .int 1])), (a1, .inl (G.2 0, 36, .inl (fun _ => 0)))] sz) := by
  refine Met.ofW (cc := cX6_set) (maxL := 4) (ret := none) (by decide) rfl ?_
  intro p e s m args below meth c s₁ B hml hv
  obtain ⟨rfl, hsz, hP, hK, hD0, hN, hT⟩ := hv
  have hx := B.exec
  have hb := B.bytes
  have hr := B.returns
  have hts : ∀ w ∈ tblG, w.before _ s = true := fun w h => atoms_spec (ws := (wsG yX6_set cX6_set 4 none)) B.pre w (List.mem_cons_of_mem _ h)
  have hown : s.vm.findClass RX6 = some m.cls := findClass_of_methodNamed B.named
  have hlocks := B.notSynchronized
  subst hsz
  have hD := hD0.self (sz := s.heap.size)
  generalize hAe : va_A [(a0, .inr (6, [.int 6, .int 6, .ref a1, .int 1])), (a1, .inl (G.2 0, 36, .inl (fun _ => 0)))] s.heap.size = A at hD hT ⊢
  have hA : ∀ q : Nat, s.heap.size ≤ q → A q := fun q h => by rw [← hAe]; exact Or.inr h
  have hS : va_S A s.heap s.heap [] := va_S.rf
  have hP : va_P G.1 vwCl [(a0, .inr (6, [.int 6, .int 6, .ref a1, .int 1])), (a1, .inl (G.2 0, 36, .inl (fun _ => 0)))] s.heap := hP
  have hl := lv_entry ([.ref a0, .int 0, .int 0, .int 0]) (n := 4) (Nat.le_of_ble_eq_true rfl)
  rw [lg_entry_eq]
  generalize (lg_sl ([.ref a0, .int 0, .int 0, .int 0]) ++ List.replicate (4 - (lg_sl ([.ref a0, .int 0, .int 0, .int 0])).length) Slot.unset).toArray = ls at hl ⊢
  have hl : lv_has ls 4 [(0, .ref a0), (1, .int 0), (2, .int 0), (3, .int 0)] := hl
  refine lv_aload_n hx hb dX6_set_0 rfl (lv_at hl 0 rfl) ?_
  refine lv_iload_n hx hb dX6_set_1 rfl (lv_at hl 1 rfl) ?_
  have hPc := hP.sub (ws' := [(a0, .inr (6, [.int 6, .int 6, .ref a1, .int 1]))]) [0] rfl
  have hDc := hD.sub (ws' := [(a0, .inr (6, [.int 6, .int 6, .ref a1, .int 1]))]) [0] (by decide) rfl
  have hFc := va_free (wc := [(a0, .inr (6, [.int 6, .int 6, .ref a1, .int 1]))]) hD hS hA [0] rfl
  refine va_calli (va_runV (As := [.int 0]) (rest := []) ⟨hx, hb, hml, hown, hts⟩ (kX6_has_8 l G a0 a1 s.heap.size) (cwV 1 hts gV_X6_25 rfl rfl rfl hv_X6_has ⟨Nat.le_of_ble_eq_true rfl, Nat.le_of_ble_eq_true rfl⟩) (g5_preV hPc hK hDc hN hT hS hFc (ci := 6) (q0 := 0) rfl rfl) rfl rfl hl.1 rfl (lv_room (Nat.le_of_ble_eq_true rfl)) dX6_set_2 ⟨Nat.le_of_ble_eq_true rfl, Nat.le_of_ble_eq_true rfl⟩) hS (fun q _ h => hFc q h) hFc (fun r u t H1 locs ht hvm hw hB hz1 hk1 hS => ?_)
  obtain ⟨hP1, hD1⟩ := hB
  rw [ht] at hP1
  obtain ⟨rfl, rfl⟩ := hw
  obtain ⟨hP, hD⟩ := va_join (wr := [(a1, .inl (G.2 0, 36, .inl (fun _ => 0)))]) (w1 := [(a0, .inr (6, [.int 6, .int 6, .ref a1, .int 1]))]) hP hD [0] [1] rfl rfl (by decide) (by decide) hk1 hFc hP1 hD1
  generalize H1 = H at hP hS ⊢
  have hP : va_P G.1 vwCl [(a1, .inl (G.2 0, 36, .inl (fun _ => 0))), (a0, .inr (6, [.int 6, .int 6, .ref a1, .int 1]))] H := hP
  have hD : va_D A [(a1, .inl (G.2 0, 36, .inl (fun _ => 0))), (a0, .inr (6, [.int 6, .int 6, .ref a1, .int 1]))] := hD
  refine lv_if_eq (tgt := 34) hx hb dX6_set_5 (by decide) (fun c_1 => ?_) (fun c_1 => ?_)
  ·
    exact absurd c_1 (by decide)
  ·
    refine lv_iload_n hx hb dX6_set_8 rfl (lv_at hl 2 rfl) ?_
    refine lv_if_lt (tgt := 34) hx hb dX6_set_9 (by decide) (fun c_2 => ?_) (fun c_2 => ?_)
    ·
      exact absurd c_2 (by decide)
    ·
      refine lv_iload_n hx hb dX6_set_12 rfl (lv_at hl 2 rfl) ?_
      refine lv_aload_n hx hb dX6_set_13 rfl (lv_at hl 0 rfl) ?_
      refine va_get (D := G.1) (ci := 6) (v := .int 6) (C := RX6) (T := TX6) (N := 4) hx hb hts inG_X6 hown hK hP 1 rfl rfl 1 (by decide) (hts _ fl_X6_18) (fun _ h9 => h9) rfl dX6_set_14 ?_
      refine lv_icmp_ge (tgt := 34) hx hb dX6_set_17 (by decide) (fun c_3 => ?_) (fun c_3 => ?_)
      ·
        exact absurd c_3 (by decide)
      ·
        refine lv_aload_n hx hb dX6_set_20 rfl (lv_at hl 0 rfl) ?_
        refine va_get (D := G.1) (ci := 6) (v := .ref a1) (C := RX6) (T := TX6) (N := 4) hx hb hts inG_X6 hown hK hP 1 rfl rfl 2 (by decide) (hts _ fl_X6_21) (fun _ h9 => h9) rfl dX6_set_21 ?_
        refine lv_iload_n hx hb dX6_set_24 rfl (lv_at hl 1 rfl) ?_
        refine lv_aload_n hx hb dX6_set_25 rfl (lv_at hl 0 rfl) ?_
        refine va_get (D := G.1) (ci := 6) (v := .int 6) (C := RX6) (T := TX6) (N := 4) hx hb hts inG_X6 hown hK hP 1 rfl rfl 1 (by decide) (hts _ fl_X6_18) (fun _ h9 => h9) rfl dX6_set_26 ?_
        refine lv_imul hx hb dX6_set_29 ?_
        refine g5_ti (v := 0) (by decide) ?_
        refine lv_iload_n hx hb dX6_set_30 rfl (lv_at hl 2 rfl) ?_
        refine lv_iadd hx hb dX6_set_31 ?_
        refine g5_ti (v := 0) (by decide) ?_
        refine lv_iload_n hx hb dX6_set_32 rfl (lv_at hl 3 rfl) ?_
        refine va_iast hx hb hK hP hD hS 0 0 rfl rfl (i := 0) (x := 0) (by unfold vp_in; decide) dX6_set_33 (fun H locs hP hD hS => ?_)
        have hP : va_P G.1 vwCl [(a1, .inl (G.2 0, 36, .inl (upd (fun _ => 0) 0 0))), (a0, .inr (6, [.int 6, .int 6, .ref a1, .int 1]))] H := hP
        have hD : va_D A [(a1, .inl (G.2 0, 36, .inl (upd (fun _ => 0) 0 0))), (a0, .inr (6, [.int 6, .int 6, .ref a1, .int 1]))] := hD
        exact W.vret hx hb hr (fun t ht hW => ⟨⟨[(a1, .inl (G.2 0, 36, .inl (upd (fun _ => 0) 0 0))), (a0, .inr (6, [.int 6, .int 6, .ref a1, .int 1]))], rfl, rfl, by rw [ht]; exact hP, hD⟩, hS.F ht⟩) hS.2.2 dX6_set_34
set_option maxHeartbeats 4000000 in
set_option maxRecDepth 100000 in
theorem kX6_set_52 (l : Launch) (G : g5_G) (a0 a1 : Nat) (sz : Nat) : Met l yX6_set (wsG yX6_set cX6_set 4 none) ({ frames := 1, cells := 0, slots := 0, locals := 21 }) (va_Pc [.ref a0, .int 0, .int 1, .int 0] (g5_P G [(a0, .inr (6, [.int 6, .int 6, .ref a1, .int 1])), (a1, .inl (G.2 0, 36, .inl (upd (fun _ => 0) 0 0)))] sz)) (va_Qv (fun (u : va_W) => ((u = [(a1, .inl (G.2 0, 36, .inl (upd (upd (fun _ => 0) 0 0) 1 0))), (a0, .inr (6, [.int 6, .int 6, .ref a1, .int 1]))]))) (g5_B G (va_A [(a0, .inr (6, [.int 6, .int 6, .ref a1, .int 1])), (a1, .inl (G.2 0, 36, .inl (upd (fun _ => 0) 0 0)))] sz)) (va_A [(a0, .inr (6, [.int 6, .int 6, .ref a1, .int 1])), (a1, .inl (G.2 0, 36, .inl (upd (fun _ => 0) 0 0)))] sz)) 0 0 (va_A [(a0, .inr (6, [.int 6, .int 6, .ref a1, .int 1])), (a1, .inl (G.2 0, 36, .inl (upd (fun _ => 0) 0 0)))] sz) := by
  refine Met.ofW (cc := cX6_set) (maxL := 4) (ret := none) (by decide) rfl ?_
  intro p e s m args below meth c s₁ B hml hv
  obtain ⟨rfl, hsz, hP, hK, hD0, hN, hT⟩ := hv
  have hx := B.exec
  have hb := B.bytes
  have hr := B.returns
  have hts : ∀ w ∈ tblG, w.before _ s = true := fun w h => atoms_spec (ws := (wsG yX6_set cX6_set 4 none)) B.pre w (List.mem_cons_of_mem _ h)
  have hown : s.vm.findClass RX6 = some m.cls := findClass_of_methodNamed B.named
  have hlocks := B.notSynchronized
  subst hsz
  have hD := hD0.self (sz := s.heap.size)
  generalize hAe : va_A [(a0, .inr (6, [.int 6, .int 6, .ref a1, .int 1])), (a1, .inl (G.2 0, 36, .inl (upd (fun _ => 0) 0 0)))] s.heap.size = A at hD hT ⊢
  have hA : ∀ q : Nat, s.heap.size ≤ q → A q := fun q h => by rw [← hAe]; exact Or.inr h
  have hS : va_S A s.heap s.heap [] := va_S.rf
  have hP : va_P G.1 vwCl [(a0, .inr (6, [.int 6, .int 6, .ref a1, .int 1])), (a1, .inl (G.2 0, 36, .inl (upd (fun _ => 0) 0 0)))] s.heap := hP
  have hl := lv_entry ([.ref a0, .int 0, .int 1, .int 0]) (n := 4) (Nat.le_of_ble_eq_true rfl)
  rw [lg_entry_eq]
  generalize (lg_sl ([.ref a0, .int 0, .int 1, .int 0]) ++ List.replicate (4 - (lg_sl ([.ref a0, .int 0, .int 1, .int 0])).length) Slot.unset).toArray = ls at hl ⊢
  have hl : lv_has ls 4 [(0, .ref a0), (1, .int 0), (2, .int 1), (3, .int 0)] := hl
  refine lv_aload_n hx hb dX6_set_0 rfl (lv_at hl 0 rfl) ?_
  refine lv_iload_n hx hb dX6_set_1 rfl (lv_at hl 1 rfl) ?_
  have hPc := hP.sub (ws' := [(a0, .inr (6, [.int 6, .int 6, .ref a1, .int 1]))]) [0] rfl
  have hDc := hD.sub (ws' := [(a0, .inr (6, [.int 6, .int 6, .ref a1, .int 1]))]) [0] (by decide) rfl
  have hFc := va_free (wc := [(a0, .inr (6, [.int 6, .int 6, .ref a1, .int 1]))]) hD hS hA [0] rfl
  refine va_calli (va_runV (As := [.int 0]) (rest := []) ⟨hx, hb, hml, hown, hts⟩ (kX6_has_8 l G a0 a1 s.heap.size) (cwV 1 hts gV_X6_25 rfl rfl rfl hv_X6_has ⟨Nat.le_of_ble_eq_true rfl, Nat.le_of_ble_eq_true rfl⟩) (g5_preV hPc hK hDc hN hT hS hFc (ci := 6) (q0 := 0) rfl rfl) rfl rfl hl.1 rfl (lv_room (Nat.le_of_ble_eq_true rfl)) dX6_set_2 ⟨Nat.le_of_ble_eq_true rfl, Nat.le_of_ble_eq_true rfl⟩) hS (fun q _ h => hFc q h) hFc (fun r u t H1 locs ht hvm hw hB hz1 hk1 hS => ?_)
  obtain ⟨hP1, hD1⟩ := hB
  rw [ht] at hP1
  obtain ⟨rfl, rfl⟩ := hw
  obtain ⟨hP, hD⟩ := va_join (wr := [(a1, .inl (G.2 0, 36, .inl (upd (fun _ => 0) 0 0)))]) (w1 := [(a0, .inr (6, [.int 6, .int 6, .ref a1, .int 1]))]) hP hD [0] [1] rfl rfl (by decide) (by decide) hk1 hFc hP1 hD1
  generalize H1 = H at hP hS ⊢
  have hP : va_P G.1 vwCl [(a1, .inl (G.2 0, 36, .inl (upd (fun _ => 0) 0 0))), (a0, .inr (6, [.int 6, .int 6, .ref a1, .int 1]))] H := hP
  have hD : va_D A [(a1, .inl (G.2 0, 36, .inl (upd (fun _ => 0) 0 0))), (a0, .inr (6, [.int 6, .int 6, .ref a1, .int 1]))] := hD
  refine lv_if_eq (tgt := 34) hx hb dX6_set_5 (by decide) (fun c_1 => ?_) (fun c_1 => ?_)
  ·
    exact absurd c_1 (by decide)
  ·
    refine lv_iload_n hx hb dX6_set_8 rfl (lv_at hl 2 rfl) ?_
    refine lv_if_lt (tgt := 34) hx hb dX6_set_9 (by decide) (fun c_2 => ?_) (fun c_2 => ?_)
    ·
      exact absurd c_2 (by decide)
    ·
      refine lv_iload_n hx hb dX6_set_12 rfl (lv_at hl 2 rfl) ?_
      refine lv_aload_n hx hb dX6_set_13 rfl (lv_at hl 0 rfl) ?_
      refine va_get (D := G.1) (ci := 6) (v := .int 6) (C := RX6) (T := TX6) (N := 4) hx hb hts inG_X6 hown hK hP 1 rfl rfl 1 (by decide) (hts _ fl_X6_18) (fun _ h9 => h9) rfl dX6_set_14 ?_
      refine lv_icmp_ge (tgt := 34) hx hb dX6_set_17 (by decide) (fun c_3 => ?_) (fun c_3 => ?_)
      ·
        exact absurd c_3 (by decide)
      ·
        refine lv_aload_n hx hb dX6_set_20 rfl (lv_at hl 0 rfl) ?_
        refine va_get (D := G.1) (ci := 6) (v := .ref a1) (C := RX6) (T := TX6) (N := 4) hx hb hts inG_X6 hown hK hP 1 rfl rfl 2 (by decide) (hts _ fl_X6_21) (fun _ h9 => h9) rfl dX6_set_21 ?_
        refine lv_iload_n hx hb dX6_set_24 rfl (lv_at hl 1 rfl) ?_
        refine lv_aload_n hx hb dX6_set_25 rfl (lv_at hl 0 rfl) ?_
        refine va_get (D := G.1) (ci := 6) (v := .int 6) (C := RX6) (T := TX6) (N := 4) hx hb hts inG_X6 hown hK hP 1 rfl rfl 1 (by decide) (hts _ fl_X6_18) (fun _ h9 => h9) rfl dX6_set_26 ?_
        refine lv_imul hx hb dX6_set_29 ?_
        refine g5_ti (v := 0) (by decide) ?_
        refine lv_iload_n hx hb dX6_set_30 rfl (lv_at hl 2 rfl) ?_
        refine lv_iadd hx hb dX6_set_31 ?_
        refine g5_ti (v := 1) (by decide) ?_
        refine lv_iload_n hx hb dX6_set_32 rfl (lv_at hl 3 rfl) ?_
        refine va_iast hx hb hK hP hD hS 0 0 rfl rfl (i := 1) (x := 0) (by unfold vp_in; decide) dX6_set_33 (fun H locs hP hD hS => ?_)
        have hP : va_P G.1 vwCl [(a1, .inl (G.2 0, 36, .inl (upd (upd (fun _ => 0) 0 0) 1 0))), (a0, .inr (6, [.int 6, .int 6, .ref a1, .int 1]))] H := hP
        have hD : va_D A [(a1, .inl (G.2 0, 36, .inl (upd (upd (fun _ => 0) 0 0) 1 0))), (a0, .inr (6, [.int 6, .int 6, .ref a1, .int 1]))] := hD
        exact W.vret hx hb hr (fun t ht hW => ⟨⟨[(a1, .inl (G.2 0, 36, .inl (upd (upd (fun _ => 0) 0 0) 1 0))), (a0, .inr (6, [.int 6, .int 6, .ref a1, .int 1]))], rfl, rfl, by rw [ht]; exact hP, hD⟩, hS.F ht⟩) hS.2.2 dX6_set_34
set_option maxHeartbeats 4000000 in
set_option maxRecDepth 100000 in
theorem kX6_set_53 (l : Launch) (G : g5_G) (a0 a1 : Nat) (sz : Nat) : Met l yX6_set (wsG yX6_set cX6_set 4 none) ({ frames := 1, cells := 0, slots := 0, locals := 21 }) (va_Pc [.ref a0, .int 0, .int 2, .int 0] (g5_P G [(a0, .inr (6, [.int 6, .int 6, .ref a1, .int 1])), (a1, .inl (G.2 0, 36, .inl (upd (upd (fun _ => 0) 0 0) 1 0)))] sz)) (va_Qv (fun (u : va_W) => ((u = [(a1, .inl (G.2 0, 36, .inl (upd (upd (upd (fun _ => 0) 0 0) 1 0) 2 0))), (a0, .inr (6, [.int 6, .int 6, .ref a1, .int 1]))]))) (g5_B G (va_A [(a0, .inr (6, [.int 6, .int 6, .ref a1, .int 1])), (a1, .inl (G.2 0, 36, .inl (upd (upd (fun _ => 0) 0 0) 1 0)))] sz)) (va_A [(a0, .inr (6, [.int 6, .int 6, .ref a1, .int 1])), (a1, .inl (G.2 0, 36, .inl (upd (upd (fun _ => 0) 0 0) 1 0)))] sz)) 0 0 (va_A [(a0, .inr (6, [.int 6, .int 6, .ref a1, .int 1])), (a1, .inl (G.2 0, 36, .inl (upd (upd (fun _ => 0) 0 0) 1 0)))] sz) := by
  refine Met.ofW (cc := cX6_set) (maxL := 4) (ret := none) (by decide) rfl ?_
  intro p e s m args below meth c s₁ B hml hv
  obtain ⟨rfl, hsz, hP, hK, hD0, hN, hT⟩ := hv
  have hx := B.exec
  have hb := B.bytes
  have hr := B.returns
  have hts : ∀ w ∈ tblG, w.before _ s = true := fun w h => atoms_spec (ws := (wsG yX6_set cX6_set 4 none)) B.pre w (List.mem_cons_of_mem _ h)
  have hown : s.vm.findClass RX6 = some m.cls := findClass_of_methodNamed B.named
  have hlocks := B.notSynchronized
  subst hsz
  have hD := hD0.self (sz := s.heap.size)
  generalize hAe : va_A [(a0, .inr (6, [.int 6, .int 6, .ref a1, .int 1])), (a1, .inl (G.2 0, 36, .inl (upd (upd (fun _ => 0) 0 0) 1 0)))] s.heap.size = A at hD hT ⊢
  have hA : ∀ q : Nat, s.heap.size ≤ q → A q := fun q h => by rw [← hAe]; exact Or.inr h
  have hS : va_S A s.heap s.heap [] := va_S.rf
  have hP : va_P G.1 vwCl [(a0, .inr (6, [.int 6, .int 6, .ref a1, .int 1])), (a1, .inl (G.2 0, 36, .inl (upd (upd (fun _ => 0) 0 0) 1 0)))] s.heap := hP
  have hl := lv_entry ([.ref a0, .int 0, .int 2, .int 0]) (n := 4) (Nat.le_of_ble_eq_true rfl)
  rw [lg_entry_eq]
  generalize (lg_sl ([.ref a0, .int 0, .int 2, .int 0]) ++ List.replicate (4 - (lg_sl ([.ref a0, .int 0, .int 2, .int 0])).length) Slot.unset).toArray = ls at hl ⊢
  have hl : lv_has ls 4 [(0, .ref a0), (1, .int 0), (2, .int 2), (3, .int 0)] := hl
  refine lv_aload_n hx hb dX6_set_0 rfl (lv_at hl 0 rfl) ?_
  refine lv_iload_n hx hb dX6_set_1 rfl (lv_at hl 1 rfl) ?_
  have hPc := hP.sub (ws' := [(a0, .inr (6, [.int 6, .int 6, .ref a1, .int 1]))]) [0] rfl
  have hDc := hD.sub (ws' := [(a0, .inr (6, [.int 6, .int 6, .ref a1, .int 1]))]) [0] (by decide) rfl
  have hFc := va_free (wc := [(a0, .inr (6, [.int 6, .int 6, .ref a1, .int 1]))]) hD hS hA [0] rfl
  refine va_calli (va_runV (As := [.int 0]) (rest := []) ⟨hx, hb, hml, hown, hts⟩ (kX6_has_8 l G a0 a1 s.heap.size) (cwV 1 hts gV_X6_25 rfl rfl rfl hv_X6_has ⟨Nat.le_of_ble_eq_true rfl, Nat.le_of_ble_eq_true rfl⟩) (g5_preV hPc hK hDc hN hT hS hFc (ci := 6) (q0 := 0) rfl rfl) rfl rfl hl.1 rfl (lv_room (Nat.le_of_ble_eq_true rfl)) dX6_set_2 ⟨Nat.le_of_ble_eq_true rfl, Nat.le_of_ble_eq_true rfl⟩) hS (fun q _ h => hFc q h) hFc (fun r u t H1 locs ht hvm hw hB hz1 hk1 hS => ?_)
  obtain ⟨hP1, hD1⟩ := hB
  rw [ht] at hP1
  obtain ⟨rfl, rfl⟩ := hw
  obtain ⟨hP, hD⟩ := va_join (wr := [(a1, .inl (G.2 0, 36, .inl (upd (upd (fun _ => 0) 0 0) 1 0)))]) (w1 := [(a0, .inr (6, [.int 6, .int 6, .ref a1, .int 1]))]) hP hD [0] [1] rfl rfl (by decide) (by decide) hk1 hFc hP1 hD1
  generalize H1 = H at hP hS ⊢
  have hP : va_P G.1 vwCl [(a1, .inl (G.2 0, 36, .inl (upd (upd (fun _ => 0) 0 0) 1 0))), (a0, .inr (6, [.int 6, .int 6, .ref a1, .int 1]))] H := hP
  have hD : va_D A [(a1, .inl (G.2 0, 36, .inl (upd (upd (fun _ => 0) 0 0) 1 0))), (a0, .inr (6, [.int 6, .int 6, .ref a1, .int 1]))] := hD
  refine lv_if_eq (tgt := 34) hx hb dX6_set_5 (by decide) (fun c_1 => ?_) (fun c_1 => ?_)
  ·
    exact absurd c_1 (by decide)
  ·
    refine lv_iload_n hx hb dX6_set_8 rfl (lv_at hl 2 rfl) ?_
    refine lv_if_lt (tgt := 34) hx hb dX6_set_9 (by decide) (fun c_2 => ?_) (fun c_2 => ?_)
    ·
      exact absurd c_2 (by decide)
    ·
      refine lv_iload_n hx hb dX6_set_12 rfl (lv_at hl 2 rfl) ?_
      refine lv_aload_n hx hb dX6_set_13 rfl (lv_at hl 0 rfl) ?_
      refine va_get (D := G.1) (ci := 6) (v := .int 6) (C := RX6) (T := TX6) (N := 4) hx hb hts inG_X6 hown hK hP 1 rfl rfl 1 (by decide) (hts _ fl_X6_18) (fun _ h9 => h9) rfl dX6_set_14 ?_
      refine lv_icmp_ge (tgt := 34) hx hb dX6_set_17 (by decide) (fun c_3 => ?_) (fun c_3 => ?_)
      ·
        exact absurd c_3 (by decide)
      ·
        refine lv_aload_n hx hb dX6_set_20 rfl (lv_at hl 0 rfl) ?_
        refine va_get (D := G.1) (ci := 6) (v := .ref a1) (C := RX6) (T := TX6) (N := 4) hx hb hts inG_X6 hown hK hP 1 rfl rfl 2 (by decide) (hts _ fl_X6_21) (fun _ h9 => h9) rfl dX6_set_21 ?_
        refine lv_iload_n hx hb dX6_set_24 rfl (lv_at hl 1 rfl) ?_
        refine lv_aload_n hx hb dX6_set_25 rfl (lv_at hl 0 rfl) ?_
        refine va_get (D := G.1) (ci := 6) (v := .int 6) (C := RX6) (T := TX6) (N := 4) hx hb hts inG_X6 hown hK hP 1 rfl rfl 1 (by decide) (hts _ fl_X6_18) (fun _ h9 => h9) rfl dX6_set_26 ?_
        refine lv_imul hx hb dX6_set_29 ?_
        refine g5_ti (v := 0) (by decide) ?_
        refine lv_iload_n hx hb dX6_set_30 rfl (lv_at hl 2 rfl) ?_
        refine lv_iadd hx hb dX6_set_31 ?_
        refine g5_ti (v := 2) (by decide) ?_
        refine lv_iload_n hx hb dX6_set_32 rfl (lv_at hl 3 rfl) ?_
        refine va_iast hx hb hK hP hD hS 0 0 rfl rfl (i := 2) (x := 0) (by unfold vp_in; decide) dX6_set_33 (fun H locs hP hD hS => ?_)
        have hP : va_P G.1 vwCl [(a1, .inl (G.2 0, 36, .inl (upd (upd (upd (fun _ => 0) 0 0) 1 0) 2 0))), (a0, .inr (6, [.int 6, .int 6, .ref a1, .int 1]))] H := hP
        have hD : va_D A [(a1, .inl (G.2 0, 36, .inl (upd (upd (upd (fun _ => 0) 0 0) 1 0) 2 0))), (a0, .inr (6, [.int 6, .int 6, .ref a1, .int 1]))] := hD
        exact W.vret hx hb hr (fun t ht hW => ⟨⟨[(a1, .inl (G.2 0, 36, .inl (upd (upd (upd (fun _ => 0) 0 0) 1 0) 2 0))), (a0, .inr (6, [.int 6, .int 6, .ref a1, .int 1]))], rfl, rfl, by rw [ht]; exact hP, hD⟩, hS.F ht⟩) hS.2.2 dX6_set_34
set_option maxHeartbeats 4000000 in
set_option maxRecDepth 100000 in
theorem kX6_set_54 (l : Launch) (G : g5_G) (a0 a1 : Nat) (sz : Nat) : Met l yX6_set (wsG yX6_set cX6_set 4 none) ({ frames := 1, cells := 0, slots := 0, locals := 21 }) (va_Pc [.ref a0, .int 0, .int 3, .int 0] (g5_P G [(a0, .inr (6, [.int 6, .int 6, .ref a1, .int 1])), (a1, .inl (G.2 0, 36, .inl (upd (upd (upd (fun _ => 0) 0 0) 1 0) 2 0)))] sz)) (va_Qv (fun (u : va_W) => ((u = [(a1, .inl (G.2 0, 36, .inl (upd (upd (upd (upd (fun _ => 0) 0 0) 1 0) 2 0) 3 0))), (a0, .inr (6, [.int 6, .int 6, .ref a1, .int 1]))]))) (g5_B G (va_A [(a0, .inr (6, [.int 6, .int 6, .ref a1, .int 1])), (a1, .inl (G.2 0, 36, .inl (upd (upd (upd (fun _ => 0) 0 0) 1 0) 2 0)))] sz)) (va_A [(a0, .inr (6, [.int 6, .int 6, .ref a1, .int 1])), (a1, .inl (G.2 0, 36, .inl (upd (upd (upd (fun _ => 0) 0 0) 1 0) 2 0)))] sz)) 0 0 (va_A [(a0, .inr (6, [.int 6, .int 6, .ref a1, .int 1])), (a1, .inl (G.2 0, 36, .inl (upd (upd (upd (fun _ => 0) 0 0) 1 0) 2 0)))] sz) := by
  refine Met.ofW (cc := cX6_set) (maxL := 4) (ret := none) (by decide) rfl ?_
  intro p e s m args below meth c s₁ B hml hv
  obtain ⟨rfl, hsz, hP, hK, hD0, hN, hT⟩ := hv
  have hx := B.exec
  have hb := B.bytes
  have hr := B.returns
  have hts : ∀ w ∈ tblG, w.before _ s = true := fun w h => atoms_spec (ws := (wsG yX6_set cX6_set 4 none)) B.pre w (List.mem_cons_of_mem _ h)
  have hown : s.vm.findClass RX6 = some m.cls := findClass_of_methodNamed B.named
  have hlocks := B.notSynchronized
  subst hsz
  have hD := hD0.self (sz := s.heap.size)
  generalize hAe : va_A [(a0, .inr (6, [.int 6, .int 6, .ref a1, .int 1])), (a1, .inl (G.2 0, 36, .inl (upd (upd (upd (fun _ => 0) 0 0) 1 0) 2 0)))] s.heap.size = A at hD hT ⊢
  have hA : ∀ q : Nat, s.heap.size ≤ q → A q := fun q h => by rw [← hAe]; exact Or.inr h
  have hS : va_S A s.heap s.heap [] := va_S.rf
  have hP : va_P G.1 vwCl [(a0, .inr (6, [.int 6, .int 6, .ref a1, .int 1])), (a1, .inl (G.2 0, 36, .inl (upd (upd (upd (fun _ => 0) 0 0) 1 0) 2 0)))] s.heap := hP
  have hl := lv_entry ([.ref a0, .int 0, .int 3, .int 0]) (n := 4) (Nat.le_of_ble_eq_true rfl)
  rw [lg_entry_eq]
  generalize (lg_sl ([.ref a0, .int 0, .int 3, .int 0]) ++ List.replicate (4 - (lg_sl ([.ref a0, .int 0, .int 3, .int 0])).length) Slot.unset).toArray = ls at hl ⊢
  have hl : lv_has ls 4 [(0, .ref a0), (1, .int 0), (2, .int 3), (3, .int 0)] := hl
  refine lv_aload_n hx hb dX6_set_0 rfl (lv_at hl 0 rfl) ?_
  refine lv_iload_n hx hb dX6_set_1 rfl (lv_at hl 1 rfl) ?_
  have hPc := hP.sub (ws' := [(a0, .inr (6, [.int 6, .int 6, .ref a1, .int 1]))]) [0] rfl
  have hDc := hD.sub (ws' := [(a0, .inr (6, [.int 6, .int 6, .ref a1, .int 1]))]) [0] (by decide) rfl
  have hFc := va_free (wc := [(a0, .inr (6, [.int 6, .int 6, .ref a1, .int 1]))]) hD hS hA [0] rfl
  refine va_calli (va_runV (As := [.int 0]) (rest := []) ⟨hx, hb, hml, hown, hts⟩ (kX6_has_8 l G a0 a1 s.heap.size) (cwV 1 hts gV_X6_25 rfl rfl rfl hv_X6_has ⟨Nat.le_of_ble_eq_true rfl, Nat.le_of_ble_eq_true rfl⟩) (g5_preV hPc hK hDc hN hT hS hFc (ci := 6) (q0 := 0) rfl rfl) rfl rfl hl.1 rfl (lv_room (Nat.le_of_ble_eq_true rfl)) dX6_set_2 ⟨Nat.le_of_ble_eq_true rfl, Nat.le_of_ble_eq_true rfl⟩) hS (fun q _ h => hFc q h) hFc (fun r u t H1 locs ht hvm hw hB hz1 hk1 hS => ?_)
  obtain ⟨hP1, hD1⟩ := hB
  rw [ht] at hP1
  obtain ⟨rfl, rfl⟩ := hw
  obtain ⟨hP, hD⟩ := va_join (wr := [(a1, .inl (G.2 0, 36, .inl (upd (upd (upd (fun _ => 0) 0 0) 1 0) 2 0)))]) (w1 := [(a0, .inr (6, [.int 6, .int 6, .ref a1, .int 1]))]) hP hD [0] [1] rfl rfl (by decide) (by decide) hk1 hFc hP1 hD1
  generalize H1 = H at hP hS ⊢
  have hP : va_P G.1 vwCl [(a1, .inl (G.2 0, 36, .inl (upd (upd (upd (fun _ => 0) 0 0) 1 0) 2 0))), (a0, .inr (6, [.int 6, .int 6, .ref a1, .int 1]))] H := hP
  have hD : va_D A [(a1, .inl (G.2 0, 36, .inl (upd (upd (upd (fun _ => 0) 0 0) 1 0) 2 0))), (a0, .inr (6, [.int 6, .int 6, .ref a1, .int 1]))] := hD
  refine lv_if_eq (tgt := 34) hx hb dX6_set_5 (by decide) (fun c_1 => ?_) (fun c_1 => ?_)
  ·
    exact absurd c_1 (by decide)
  ·
    refine lv_iload_n hx hb dX6_set_8 rfl (lv_at hl 2 rfl) ?_
    refine lv_if_lt (tgt := 34) hx hb dX6_set_9 (by decide) (fun c_2 => ?_) (fun c_2 => ?_)
    ·
      exact absurd c_2 (by decide)
    ·
      refine lv_iload_n hx hb dX6_set_12 rfl (lv_at hl 2 rfl) ?_
      refine lv_aload_n hx hb dX6_set_13 rfl (lv_at hl 0 rfl) ?_
      refine va_get (D := G.1) (ci := 6) (v := .int 6) (C := RX6) (T := TX6) (N := 4) hx hb hts inG_X6 hown hK hP 1 rfl rfl 1 (by decide) (hts _ fl_X6_18) (fun _ h9 => h9) rfl dX6_set_14 ?_
      refine lv_icmp_ge (tgt := 34) hx hb dX6_set_17 (by decide) (fun c_3 => ?_) (fun c_3 => ?_)
      ·
        exact absurd c_3 (by decide)
      ·
        refine lv_aload_n hx hb dX6_set_20 rfl (lv_at hl 0 rfl) ?_
        refine va_get (D := G.1) (ci := 6) (v := .ref a1) (C := RX6) (T := TX6) (N := 4) hx hb hts inG_X6 hown hK hP 1 rfl rfl 2 (by decide) (hts _ fl_X6_21) (fun _ h9 => h9) rfl dX6_set_21 ?_
        refine lv_iload_n hx hb dX6_set_24 rfl (lv_at hl 1 rfl) ?_
        refine lv_aload_n hx hb dX6_set_25 rfl (lv_at hl 0 rfl) ?_
        refine va_get (D := G.1) (ci := 6) (v := .int 6) (C := RX6) (T := TX6) (N := 4) hx hb hts inG_X6 hown hK hP 1 rfl rfl 1 (by decide) (hts _ fl_X6_18) (fun _ h9 => h9) rfl dX6_set_26 ?_
        refine lv_imul hx hb dX6_set_29 ?_
        refine g5_ti (v := 0) (by decide) ?_
        refine lv_iload_n hx hb dX6_set_30 rfl (lv_at hl 2 rfl) ?_
        refine lv_iadd hx hb dX6_set_31 ?_
        refine g5_ti (v := 3) (by decide) ?_
        refine lv_iload_n hx hb dX6_set_32 rfl (lv_at hl 3 rfl) ?_
        refine va_iast hx hb hK hP hD hS 0 0 rfl rfl (i := 3) (x := 0) (by unfold vp_in; decide) dX6_set_33 (fun H locs hP hD hS => ?_)
        have hP : va_P G.1 vwCl [(a1, .inl (G.2 0, 36, .inl (upd (upd (upd (upd (fun _ => 0) 0 0) 1 0) 2 0) 3 0))), (a0, .inr (6, [.int 6, .int 6, .ref a1, .int 1]))] H := hP
        have hD : va_D A [(a1, .inl (G.2 0, 36, .inl (upd (upd (upd (upd (fun _ => 0) 0 0) 1 0) 2 0) 3 0))), (a0, .inr (6, [.int 6, .int 6, .ref a1, .int 1]))] := hD
        exact W.vret hx hb hr (fun t ht hW => ⟨⟨[(a1, .inl (G.2 0, 36, .inl (upd (upd (upd (upd (fun _ => 0) 0 0) 1 0) 2 0) 3 0))), (a0, .inr (6, [.int 6, .int 6, .ref a1, .int 1]))], rfl, rfl, by rw [ht]; exact hP, hD⟩, hS.F ht⟩) hS.2.2 dX6_set_34
set_option maxHeartbeats 4000000 in
set_option maxRecDepth 100000 in
theorem kX6_set_55 (l : Launch) (G : g5_G) (a0 a1 : Nat) (sz : Nat) (f0 : Nat → Int32) : Met l yX6_set (wsG yX6_set cX6_set 4 none) ({ frames := 1, cells := 0, slots := 0, locals := 21 }) (va_Pc [.ref a0, .int 0, .int 4, .int 0] (g5_P G [(a0, .inr (6, [.int 6, .int 6, .ref a1, .int 1])), (a1, .inl (G.2 0, 36, .inl f0))] sz)) (va_Qv (fun (u : va_W) => ((u = [(a1, .inl (G.2 0, 36, .inl (upd f0 4 0))), (a0, .inr (6, [.int 6, .int 6, .ref a1, .int 1]))]))) (g5_B G (va_A [(a0, .inr (6, [.int 6, .int 6, .ref a1, .int 1])), (a1, .inl (G.2 0, 36, .inl f0))] sz)) (va_A [(a0, .inr (6, [.int 6, .int 6, .ref a1, .int 1])), (a1, .inl (G.2 0, 36, .inl f0))] sz)) 0 0 (va_A [(a0, .inr (6, [.int 6, .int 6, .ref a1, .int 1])), (a1, .inl (G.2 0, 36, .inl f0))] sz) := by
  refine Met.ofW (cc := cX6_set) (maxL := 4) (ret := none) (by decide) rfl ?_
  intro p e s m args below meth c s₁ B hml hv
  obtain ⟨rfl, hsz, hP, hK, hD0, hN, hT⟩ := hv
  have hx := B.exec
  have hb := B.bytes
  have hr := B.returns
  have hts : ∀ w ∈ tblG, w.before _ s = true := fun w h => atoms_spec (ws := (wsG yX6_set cX6_set 4 none)) B.pre w (List.mem_cons_of_mem _ h)
  have hown : s.vm.findClass RX6 = some m.cls := findClass_of_methodNamed B.named
  have hlocks := B.notSynchronized
  subst hsz
  have hD := hD0.self (sz := s.heap.size)
  generalize hAe : va_A [(a0, .inr (6, [.int 6, .int 6, .ref a1, .int 1])), (a1, .inl (G.2 0, 36, .inl f0))] s.heap.size = A at hD hT ⊢
  have hA : ∀ q : Nat, s.heap.size ≤ q → A q := fun q h => by rw [← hAe]; exact Or.inr h
  have hS : va_S A s.heap s.heap [] := va_S.rf
  have hP : va_P G.1 vwCl [(a0, .inr (6, [.int 6, .int 6, .ref a1, .int 1])), (a1, .inl (G.2 0, 36, .inl f0))] s.heap := hP
  have hl := lv_entry ([.ref a0, .int 0, .int 4, .int 0]) (n := 4) (Nat.le_of_ble_eq_true rfl)
  rw [lg_entry_eq]
  generalize (lg_sl ([.ref a0, .int 0, .int 4, .int 0]) ++ List.replicate (4 - (lg_sl ([.ref a0, .int 0, .int 4, .int 0])).length) Slot.unset).toArray = ls at hl ⊢
  have hl : lv_has ls 4 [(0, .ref a0), (1, .int 0), (2, .int 4), (3, .int 0)] := hl
  refine lv_aload_n hx hb dX6_set_0 rfl (lv_at hl 0 rfl) ?_
  refine lv_iload_n hx hb dX6_set_1 rfl (lv_at hl 1 rfl) ?_
  have hPc := hP.sub (ws' := [(a0, .inr (6, [.int 6, .int 6, .ref a1, .int 1]))]) [0] rfl
  have hDc := hD.sub (ws' := [(a0, .inr (6, [.int 6, .int 6, .ref a1, .int 1]))]) [0] (by decide) rfl
  have hFc := va_free (wc := [(a0, .inr (6, [.int 6, .int 6, .ref a1, .int 1]))]) hD hS hA [0] rfl
  refine va_calli (va_runV (As := [.int 0]) (rest := []) ⟨hx, hb, hml, hown, hts⟩ (kX6_has_8 l G a0 a1 s.heap.size) (cwV 1 hts gV_X6_25 rfl rfl rfl hv_X6_has ⟨Nat.le_of_ble_eq_true rfl, Nat.le_of_ble_eq_true rfl⟩) (g5_preV hPc hK hDc hN hT hS hFc (ci := 6) (q0 := 0) rfl rfl) rfl rfl hl.1 rfl (lv_room (Nat.le_of_ble_eq_true rfl)) dX6_set_2 ⟨Nat.le_of_ble_eq_true rfl, Nat.le_of_ble_eq_true rfl⟩) hS (fun q _ h => hFc q h) hFc (fun r u t H1 locs ht hvm hw hB hz1 hk1 hS => ?_)
  obtain ⟨hP1, hD1⟩ := hB
  rw [ht] at hP1
  obtain ⟨rfl, rfl⟩ := hw
  obtain ⟨hP, hD⟩ := va_join (wr := [(a1, .inl (G.2 0, 36, .inl f0))]) (w1 := [(a0, .inr (6, [.int 6, .int 6, .ref a1, .int 1]))]) hP hD [0] [1] rfl rfl (by decide) (by decide) hk1 hFc hP1 hD1
  generalize H1 = H at hP hS ⊢
  have hP : va_P G.1 vwCl [(a1, .inl (G.2 0, 36, .inl f0)), (a0, .inr (6, [.int 6, .int 6, .ref a1, .int 1]))] H := hP
  have hD : va_D A [(a1, .inl (G.2 0, 36, .inl f0)), (a0, .inr (6, [.int 6, .int 6, .ref a1, .int 1]))] := hD
  refine lv_if_eq (tgt := 34) hx hb dX6_set_5 (by decide) (fun c_1 => ?_) (fun c_1 => ?_)
  ·
    exact absurd c_1 (by decide)
  ·
    refine lv_iload_n hx hb dX6_set_8 rfl (lv_at hl 2 rfl) ?_
    refine lv_if_lt (tgt := 34) hx hb dX6_set_9 (by decide) (fun c_2 => ?_) (fun c_2 => ?_)
    ·
      exact absurd c_2 (by decide)
    ·
      refine lv_iload_n hx hb dX6_set_12 rfl (lv_at hl 2 rfl) ?_
      refine lv_aload_n hx hb dX6_set_13 rfl (lv_at hl 0 rfl) ?_
      refine va_get (D := G.1) (ci := 6) (v := .int 6) (C := RX6) (T := TX6) (N := 4) hx hb hts inG_X6 hown hK hP 1 rfl rfl 1 (by decide) (hts _ fl_X6_18) (fun _ h9 => h9) rfl dX6_set_14 ?_
      refine lv_icmp_ge (tgt := 34) hx hb dX6_set_17 (by decide) (fun c_3 => ?_) (fun c_3 => ?_)
      ·
        exact absurd c_3 (by decide)
      ·
        refine lv_aload_n hx hb dX6_set_20 rfl (lv_at hl 0 rfl) ?_
        refine va_get (D := G.1) (ci := 6) (v := .ref a1) (C := RX6) (T := TX6) (N := 4) hx hb hts inG_X6 hown hK hP 1 rfl rfl 2 (by decide) (hts _ fl_X6_21) (fun _ h9 => h9) rfl dX6_set_21 ?_
        refine lv_iload_n hx hb dX6_set_24 rfl (lv_at hl 1 rfl) ?_
        refine lv_aload_n hx hb dX6_set_25 rfl (lv_at hl 0 rfl) ?_
        refine va_get (D := G.1) (ci := 6) (v := .int 6) (C := RX6) (T := TX6) (N := 4) hx hb hts inG_X6 hown hK hP 1 rfl rfl 1 (by decide) (hts _ fl_X6_18) (fun _ h9 => h9) rfl dX6_set_26 ?_
        refine lv_imul hx hb dX6_set_29 ?_
        refine g5_ti (v := 0) (by decide) ?_
        refine lv_iload_n hx hb dX6_set_30 rfl (lv_at hl 2 rfl) ?_
        refine lv_iadd hx hb dX6_set_31 ?_
        refine g5_ti (v := 4) (by decide) ?_
        refine lv_iload_n hx hb dX6_set_32 rfl (lv_at hl 3 rfl) ?_
        refine va_iast hx hb hK hP hD hS 0 0 rfl rfl (i := 4) (x := 0) (by unfold vp_in; decide) dX6_set_33 (fun H locs hP hD hS => ?_)
        have hP : va_P G.1 vwCl [(a1, .inl (G.2 0, 36, .inl (upd f0 4 0))), (a0, .inr (6, [.int 6, .int 6, .ref a1, .int 1]))] H := hP
        have hD : va_D A [(a1, .inl (G.2 0, 36, .inl (upd f0 4 0))), (a0, .inr (6, [.int 6, .int 6, .ref a1, .int 1]))] := hD
        exact W.vret hx hb hr (fun t ht hW => ⟨⟨[(a1, .inl (G.2 0, 36, .inl (upd f0 4 0))), (a0, .inr (6, [.int 6, .int 6, .ref a1, .int 1]))], rfl, rfl, by rw [ht]; exact hP, hD⟩, hS.F ht⟩) hS.2.2 dX6_set_34
set_option maxHeartbeats 4000000 in
set_option maxRecDepth 100000 in
theorem kX6_set_56 (l : Launch) (G : g5_G) (a0 a1 : Nat) (sz : Nat) (f0 : Nat → Int32) : Met l yX6_set (wsG yX6_set cX6_set 4 none) ({ frames := 1, cells := 0, slots := 0, locals := 21 }) (va_Pc [.ref a0, .int 0, .int 5, .int 0] (g5_P G [(a0, .inr (6, [.int 6, .int 6, .ref a1, .int 1])), (a1, .inl (G.2 0, 36, .inl f0))] sz)) (va_Qv (fun (u : va_W) => ((u = [(a1, .inl (G.2 0, 36, .inl (upd f0 5 0))), (a0, .inr (6, [.int 6, .int 6, .ref a1, .int 1]))]))) (g5_B G (va_A [(a0, .inr (6, [.int 6, .int 6, .ref a1, .int 1])), (a1, .inl (G.2 0, 36, .inl f0))] sz)) (va_A [(a0, .inr (6, [.int 6, .int 6, .ref a1, .int 1])), (a1, .inl (G.2 0, 36, .inl f0))] sz)) 0 0 (va_A [(a0, .inr (6, [.int 6, .int 6, .ref a1, .int 1])), (a1, .inl (G.2 0, 36, .inl f0))] sz) := by
  refine Met.ofW (cc := cX6_set) (maxL := 4) (ret := none) (by decide) rfl ?_
  intro p e s m args below meth c s₁ B hml hv
  obtain ⟨rfl, hsz, hP, hK, hD0, hN, hT⟩ := hv
  have hx := B.exec
  have hb := B.bytes
  have hr := B.returns
  have hts : ∀ w ∈ tblG, w.before _ s = true := fun w h => atoms_spec (ws := (wsG yX6_set cX6_set 4 none)) B.pre w (List.mem_cons_of_mem _ h)
  have hown : s.vm.findClass RX6 = some m.cls := findClass_of_methodNamed B.named
  have hlocks := B.notSynchronized
  subst hsz
  have hD := hD0.self (sz := s.heap.size)
  generalize hAe : va_A [(a0, .inr (6, [.int 6, .int 6, .ref a1, .int 1])), (a1, .inl (G.2 0, 36, .inl f0))] s.heap.size = A at hD hT ⊢
  have hA : ∀ q : Nat, s.heap.size ≤ q → A q := fun q h => by rw [← hAe]; exact Or.inr h
  have hS : va_S A s.heap s.heap [] := va_S.rf
  have hP : va_P G.1 vwCl [(a0, .inr (6, [.int 6, .int 6, .ref a1, .int 1])), (a1, .inl (G.2 0, 36, .inl f0))] s.heap := hP
  have hl := lv_entry ([.ref a0, .int 0, .int 5, .int 0]) (n := 4) (Nat.le_of_ble_eq_true rfl)
  rw [lg_entry_eq]
  generalize (lg_sl ([.ref a0, .int 0, .int 5, .int 0]) ++ List.replicate (4 - (lg_sl ([.ref a0, .int 0, .int 5, .int 0])).length) Slot.unset).toArray = ls at hl ⊢
  have hl : lv_has ls 4 [(0, .ref a0), (1, .int 0), (2, .int 5), (3, .int 0)] := hl
  refine lv_aload_n hx hb dX6_set_0 rfl (lv_at hl 0 rfl) ?_
  refine lv_iload_n hx hb dX6_set_1 rfl (lv_at hl 1 rfl) ?_
  have hPc := hP.sub (ws' := [(a0, .inr (6, [.int 6, .int 6, .ref a1, .int 1]))]) [0] rfl
  have hDc := hD.sub (ws' := [(a0, .inr (6, [.int 6, .int 6, .ref a1, .int 1]))]) [0] (by decide) rfl
  have hFc := va_free (wc := [(a0, .inr (6, [.int 6, .int 6, .ref a1, .int 1]))]) hD hS hA [0] rfl
  refine va_calli (va_runV (As := [.int 0]) (rest := []) ⟨hx, hb, hml, hown, hts⟩ (kX6_has_8 l G a0 a1 s.heap.size) (cwV 1 hts gV_X6_25 rfl rfl rfl hv_X6_has ⟨Nat.le_of_ble_eq_true rfl, Nat.le_of_ble_eq_true rfl⟩) (g5_preV hPc hK hDc hN hT hS hFc (ci := 6) (q0 := 0) rfl rfl) rfl rfl hl.1 rfl (lv_room (Nat.le_of_ble_eq_true rfl)) dX6_set_2 ⟨Nat.le_of_ble_eq_true rfl, Nat.le_of_ble_eq_true rfl⟩) hS (fun q _ h => hFc q h) hFc (fun r u t H1 locs ht hvm hw hB hz1 hk1 hS => ?_)
  obtain ⟨hP1, hD1⟩ := hB
  rw [ht] at hP1
  obtain ⟨rfl, rfl⟩ := hw
  obtain ⟨hP, hD⟩ := va_join (wr := [(a1, .inl (G.2 0, 36, .inl f0))]) (w1 := [(a0, .inr (6, [.int 6, .int 6, .ref a1, .int 1]))]) hP hD [0] [1] rfl rfl (by decide) (by decide) hk1 hFc hP1 hD1
  generalize H1 = H at hP hS ⊢
  have hP : va_P G.1 vwCl [(a1, .inl (G.2 0, 36, .inl f0)), (a0, .inr (6, [.int 6, .int 6, .ref a1, .int 1]))] H := hP
  have hD : va_D A [(a1, .inl (G.2 0, 36, .inl f0)), (a0, .inr (6, [.int 6, .int 6, .ref a1, .int 1]))] := hD
  refine lv_if_eq (tgt := 34) hx hb dX6_set_5 (by decide) (fun c_1 => ?_) (fun c_1 => ?_)
  ·
    exact absurd c_1 (by decide)
  ·
    refine lv_iload_n hx hb dX6_set_8 rfl (lv_at hl 2 rfl) ?_
    refine lv_if_lt (tgt := 34) hx hb dX6_set_9 (by decide) (fun c_2 => ?_) (fun c_2 => ?_)
    ·
      exact absurd c_2 (by decide)
    ·
      refine lv_iload_n hx hb dX6_set_12 rfl (lv_at hl 2 rfl) ?_
      refine lv_aload_n hx hb dX6_set_13 rfl (lv_at hl 0 rfl) ?_
      refine va_get (D := G.1) (ci := 6) (v := .int 6) (C := RX6) (T := TX6) (N := 4) hx hb hts inG_X6 hown hK hP 1 rfl rfl 1 (by decide) (hts _ fl_X6_18) (fun _ h9 => h9) rfl dX6_set_14 ?_
      refine lv_icmp_ge (tgt := 34) hx hb dX6_set_17 (by decide) (fun c_3 => ?_) (fun c_3 => ?_)
      ·
        exact absurd c_3 (by decide)
      ·
        refine lv_aload_n hx hb dX6_set_20 rfl (lv_at hl 0 rfl) ?_
        refine va_get (D := G.1) (ci := 6) (v := .ref a1) (C := RX6) (T := TX6) (N := 4) hx hb hts inG_X6 hown hK hP 1 rfl rfl 2 (by decide) (hts _ fl_X6_21) (fun _ h9 => h9) rfl dX6_set_21 ?_
        refine lv_iload_n hx hb dX6_set_24 rfl (lv_at hl 1 rfl) ?_
        refine lv_aload_n hx hb dX6_set_25 rfl (lv_at hl 0 rfl) ?_
        refine va_get (D := G.1) (ci := 6) (v := .int 6) (C := RX6) (T := TX6) (N := 4) hx hb hts inG_X6 hown hK hP 1 rfl rfl 1 (by decide) (hts _ fl_X6_18) (fun _ h9 => h9) rfl dX6_set_26 ?_
        refine lv_imul hx hb dX6_set_29 ?_
        refine g5_ti (v := 0) (by decide) ?_
        refine lv_iload_n hx hb dX6_set_30 rfl (lv_at hl 2 rfl) ?_
        refine lv_iadd hx hb dX6_set_31 ?_
        refine g5_ti (v := 5) (by decide) ?_
        refine lv_iload_n hx hb dX6_set_32 rfl (lv_at hl 3 rfl) ?_
        refine va_iast hx hb hK hP hD hS 0 0 rfl rfl (i := 5) (x := 0) (by unfold vp_in; decide) dX6_set_33 (fun H locs hP hD hS => ?_)
        have hP : va_P G.1 vwCl [(a1, .inl (G.2 0, 36, .inl (upd f0 5 0))), (a0, .inr (6, [.int 6, .int 6, .ref a1, .int 1]))] H := hP
        have hD : va_D A [(a1, .inl (G.2 0, 36, .inl (upd f0 5 0))), (a0, .inr (6, [.int 6, .int 6, .ref a1, .int 1]))] := hD
        exact W.vret hx hb hr (fun t ht hW => ⟨⟨[(a1, .inl (G.2 0, 36, .inl (upd f0 5 0))), (a0, .inr (6, [.int 6, .int 6, .ref a1, .int 1]))], rfl, rfl, by rw [ht]; exact hP, hD⟩, hS.F ht⟩) hS.2.2 dX6_set_34
set_option maxHeartbeats 4000000 in
set_option maxRecDepth 100000 in
theorem kX6_open_5 (l : Launch) (G : g5_G) (a0 a1 : Nat) (sz : Nat) : Met l yX6_open (wsG yX6_open cX6_open 4 (some .int)) ({ frames := 2, cells := 0, slots := 0, locals := 44 }) (va_Pc [.ref a0, .int 0] (g5_P G [(a0, .inr (6, [.int 6, .int 6, .ref a1, .int 0])), (a1, .inl (G.2 0, 36, .inl (fun _ => 0)))] sz)) (va_Qi (fun (r : Int32) (u : va_W) => ((r = 0) ∧ (u = [(a1, .inl (G.2 0, 36, .inl (upd (upd (upd (upd (upd (upd (fun _ => 0) 0 0) 1 0) 2 0) 3 0) 4 0) 5 0))), (a0, .inr (6, [.int 6, .int 6, .ref a1, .int 1]))]))) (g5_B G (va_A [(a0, .inr (6, [.int 6, .int 6, .ref a1, .int 0])), (a1, .inl (G.2 0, 36, .inl (fun _ => 0)))] sz)) (va_A [(a0, .inr (6, [.int 6, .int 6, .ref a1, .int 0])), (a1, .inl (G.2 0, 36, .inl (fun _ => 0)))] sz)) 0 0 (va_A [(a0, .inr (6, [.int 6, .int 6, .ref a1, .int 0])), (a1, .inl (G.2 0, 36, .inl (fun _ => 0)))] sz) := by
  refine Met.ofW (cc := cX6_open) (maxL := 4) (ret := (some .int)) (by decide) rfl ?_
  intro p e s m args below meth c s₁ B hml hv
  obtain ⟨rfl, hsz, hP, hK, hD0, hN, hT⟩ := hv
  have hx := B.exec
  have hb := B.bytes
  have hr := B.returns
  have hts : ∀ w ∈ tblG, w.before _ s = true := fun w h => atoms_spec (ws := (wsG yX6_open cX6_open 4 (some .int))) B.pre w (List.mem_cons_of_mem _ h)
  have hown : s.vm.findClass RX6 = some m.cls := findClass_of_methodNamed B.named
  have hlocks := B.notSynchronized
  subst hsz
  have hD := hD0.self (sz := s.heap.size)
  generalize hAe : va_A [(a0, .inr (6, [.int 6, .int 6, .ref a1, .int 0])), (a1, .inl (G.2 0, 36, .inl (fun _ => 0)))] s.heap.size = A at hD hT ⊢
  have hA : ∀ q : Nat, s.heap.size ≤ q → A q := fun q h => by rw [← hAe]; exact Or.inr h
  have hS : va_S A s.heap s.heap [] := va_S.rf
  have hP : va_P G.1 vwCl [(a0, .inr (6, [.int 6, .int 6, .ref a1, .int 0])), (a1, .inl (G.2 0, 36, .inl (fun _ => 0)))] s.heap := hP
  have hl := lv_entry ([.ref a0, .int 0]) (n := 4) (Nat.le_of_ble_eq_true rfl)
  rw [lg_entry_eq]
  generalize (lg_sl ([.ref a0, .int 0]) ++ List.replicate (4 - (lg_sl ([.ref a0, .int 0])).length) Slot.unset).toArray = ls at hl ⊢
  have hl : lv_has ls 4 [(0, .ref a0), (1, .int 0)] := hl
  refine lv_aload_n hx hb dX6_open_0 rfl (lv_at hl 0 rfl) ?_
  have hPc := hP.sub (ws' := [(a0, .inr (6, [.int 6, .int 6, .ref a1, .int 0]))]) [0] rfl
  have hDc := hD.sub (ws' := [(a0, .inr (6, [.int 6, .int 6, .ref a1, .int 0]))]) [0] (by decide) rfl
  have hFc := va_free (wc := [(a0, .inr (6, [.int 6, .int 6, .ref a1, .int 0]))]) hD hS hA [0] rfl
  refine va_calli (va_runV (As := []) (rest := []) ⟨hx, hb, hml, hown, hts⟩ (kX6_isFull_5 l G a0 a1 s.heap.size) (cwV 0 hts gV_X6_33 rfl rfl rfl hv_X6_isFull ⟨Nat.le_of_ble_eq_true rfl, Nat.le_of_ble_eq_true rfl⟩) (g5_preV hPc hK hDc hN hT hS hFc (ci := 6) (q0 := 0) rfl rfl) rfl rfl hl.1 rfl (lv_room (Nat.le_of_ble_eq_true rfl)) dX6_open_1 ⟨Nat.le_of_ble_eq_true rfl, Nat.le_of_ble_eq_true rfl⟩) hS (fun q _ h => hFc q h) hFc (fun r u t H1 locs ht hvm hw hB hz1 hk1 hS => ?_)
  obtain ⟨hP1, hD1⟩ := hB
  rw [ht] at hP1
  obtain ⟨rfl, rfl⟩ := hw
  obtain ⟨hP, hD⟩ := va_join (wr := [(a1, .inl (G.2 0, 36, .inl (fun _ => 0)))]) (w1 := [(a0, .inr (6, [.int 6, .int 6, .ref a1, .int 0]))]) hP hD [0] [1] rfl rfl (by decide) (by decide) hk1 hFc hP1 hD1
  generalize H1 = H at hP hS ⊢
  have hP : va_P G.1 vwCl [(a1, .inl (G.2 0, 36, .inl (fun _ => 0))), (a0, .inr (6, [.int 6, .int 6, .ref a1, .int 0]))] H := hP
  have hD : va_D A [(a1, .inl (G.2 0, 36, .inl (fun _ => 0))), (a0, .inr (6, [.int 6, .int 6, .ref a1, .int 0]))] := hD
  refine lv_if_eq (tgt := 9) hx hb dX6_open_4 (by decide) (fun c_1 => ?_) (fun c_1 => ?_)
  ·
    refine lv_aload_n hx hb dX6_open_9 rfl (lv_at hl 0 rfl) ?_
    refine va_get (D := G.1) (ci := 6) (v := .int 0) (C := RX6) (T := TX6) (N := 4) hx hb hts inG_X6 hown hK hP 1 rfl rfl 3 (by decide) (hts _ fl_X6_9) (fun _ h9 => h9) rfl dX6_open_10 ?_
    refine lv_istore_n (lv' := [(2, .int 0), (0, .ref a0), (1, .int 0)]) hx hb dX6_open_13 rfl hl (by decide) rfl (fun ls hl => ?_)
    refine lv_aload_n hx hb dX6_open_14 rfl (lv_at hl 1 rfl) ?_
    refine lv_dup hx hb dX6_open_15 rfl ?_
    refine va_get (D := G.1) (ci := 6) (v := .int 0) (C := RX6) (T := TX6) (N := 4) hx hb hts inG_X6 hown hK hP 1 rfl rfl 3 (by decide) (hts _ fl_X6_9) (fun _ h9 => h9) rfl dX6_open_16 ?_
    refine lv_iconst (v := 1) hx hb dX6_open_19 (by decide) ?_
    refine lv_iadd hx hb dX6_open_20 ?_
    refine g5_ti (v := 1) (by decide) ?_
    refine va_put (D := G.1) (ci := 6) (v := .int 1) (ty := .int) (C := RX6) (T := TX6) (N := 4) hx hb hts inG_X6 tyX6 tyX6_ok nmX6 hown hK hP hD hS 1 rfl rfl 3 (by decide) (hts _ fl_X6_9) (fun _ h9 => h9) rfl (by decide +kernel) rfl rfl (Nat.le_of_ble_eq_true rfl) dX6_open_21 (fun H locs hP hD hS => ?_)
    have hP : va_P G.1 vwCl [(a1, .inl (G.2 0, 36, .inl (fun _ => 0))), (a0, .inr (6, [.int 6, .int 6, .ref a1, .int 1]))] H := hP
    have hD : va_D A [(a1, .inl (G.2 0, 36, .inl (fun _ => 0))), (a0, .inr (6, [.int 6, .int 6, .ref a1, .int 1]))] := hD
    refine lv_iconst (v := 0) hx hb dX6_open_24 (by decide) ?_
    refine lv_istore_n (lv' := [(3, .int 0), (2, .int 0), (0, .ref a0), (1, .int 0)]) hx hb dX6_open_25 rfl hl (by decide) rfl (fun ls hl => ?_)
    refine lv_iload_n hx hb dX6_open_26 rfl (lv_at hl 0 rfl) ?_
    refine lv_aload_n hx hb dX6_open_27 rfl (lv_at hl 2 rfl) ?_
    refine va_get (D := G.1) (ci := 6) (v := .int 6) (C := RX6) (T := TX6) (N := 4) hx hb hts inG_X6 hown hK hP 1 rfl rfl 1 (by decide) (hts _ fl_X6_18) (fun _ h9 => h9) rfl dX6_open_28 ?_
    refine lv_icmp_ge (tgt := 47) hx hb dX6_open_31 (by decide) (fun c_2 => ?_) (fun c_2 => ?_)
    ·
      exact absurd c_2 (by decide)
    ·
      refine lv_aload_n hx hb dX6_open_34 rfl (lv_at hl 2 rfl) ?_
      refine lv_iload_n hx hb dX6_open_35 rfl (lv_at hl 1 rfl) ?_
      refine lv_iload_n hx hb dX6_open_36 rfl (lv_at hl 0 rfl) ?_
      refine lv_iload_n hx hb dX6_open_37 rfl (lv_at hl 3 rfl) ?_
      have hPc := hP.sub (ws' := [(a0, .inr (6, [.int 6, .int 6, .ref a1, .int 1])), (a1, .inl (G.2 0, 36, .inl (fun _ => 0)))]) [1, 0] rfl
      have hDc := hD.sub (ws' := [(a0, .inr (6, [.int 6, .int 6, .ref a1, .int 1])), (a1, .inl (G.2 0, 36, .inl (fun _ => 0)))]) [1, 0] (by decide) rfl
      have hFc := va_free (wc := [(a0, .inr (6, [.int 6, .int 6, .ref a1, .int 1])), (a1, .inl (G.2 0, 36, .inl (fun _ => 0)))]) hD hS hA [1, 0] rfl
      refine va_callv (va_runV (As := [.int 0, .int 0, .int 0]) (rest := []) ⟨hx, hb, hml, hown, hts⟩ (kX6_set_51 l G a0 a1 H.size) (cwV 3 hts gV_X6_29 rfl rfl rfl hv_X6_set ⟨Nat.le_of_ble_eq_true rfl, Nat.le_of_ble_eq_true rfl⟩) (g5_preV hPc hK hDc hN hT hS hFc (ci := 6) (q0 := 0) rfl rfl) rfl rfl hl.1 rfl (lv_room (Nat.le_of_ble_eq_true rfl)) dX6_open_38 ⟨Nat.le_of_ble_eq_true rfl, Nat.le_of_ble_eq_true rfl⟩) hS (fun q _ h => hFc q h) hFc (fun u t H1 locs ht hvm hw hB hz1 hk1 hS => ?_)
      obtain ⟨hP1, hD1⟩ := hB
      rw [ht] at hP1
      obtain rfl := hw
      obtain ⟨hP, hD⟩ := va_join (wr := []) (w1 := [(a1, .inl (G.2 0, 36, .inl (upd (fun _ => 0) 0 0))), (a0, .inr (6, [.int 6, .int 6, .ref a1, .int 1]))]) hP hD [1, 0] [] rfl rfl (by decide) (by decide) hk1 hFc hP1 hD1
      generalize H1 = H at hP hS ⊢
      have hP : va_P G.1 vwCl [(a1, .inl (G.2 0, 36, .inl (upd (fun _ => 0) 0 0))), (a0, .inr (6, [.int 6, .int 6, .ref a1, .int 1]))] H := hP
      have hD : va_D A [(a1, .inl (G.2 0, 36, .inl (upd (fun _ => 0) 0 0))), (a0, .inr (6, [.int 6, .int 6, .ref a1, .int 1]))] := hD
      refine lv_iinc (v := 1) (lv' := [(3, .int 1), (2, .int 0), (0, .ref a0), (1, .int 0)]) hx hb dX6_open_41 hl (k := 0) rfl (by decide) (by decide) rfl (fun ls hl => ?_)
      refine lv_goto (tgt := 26) hx hb dX6_open_44 (by decide) ?_
      refine lv_iload_n hx hb dX6_open_26 rfl (lv_at hl 0 rfl) ?_
      refine lv_aload_n hx hb dX6_open_27 rfl (lv_at hl 2 rfl) ?_
      refine va_get (D := G.1) (ci := 6) (v := .int 6) (C := RX6) (T := TX6) (N := 4) hx hb hts inG_X6 hown hK hP 1 rfl rfl 1 (by decide) (hts _ fl_X6_18) (fun _ h9 => h9) rfl dX6_open_28 ?_
      refine lv_icmp_ge (tgt := 47) hx hb dX6_open_31 (by decide) (fun c_3 => ?_) (fun c_3 => ?_)
      ·
        exact absurd c_3 (by decide)
      ·
        refine lv_aload_n hx hb dX6_open_34 rfl (lv_at hl 2 rfl) ?_
        refine lv_iload_n hx hb dX6_open_35 rfl (lv_at hl 1 rfl) ?_
        refine lv_iload_n hx hb dX6_open_36 rfl (lv_at hl 0 rfl) ?_
        refine lv_iload_n hx hb dX6_open_37 rfl (lv_at hl 3 rfl) ?_
        have hPc := hP.sub (ws' := [(a0, .inr (6, [.int 6, .int 6, .ref a1, .int 1])), (a1, .inl (G.2 0, 36, .inl (upd (fun _ => 0) 0 0)))]) [1, 0] rfl
        have hDc := hD.sub (ws' := [(a0, .inr (6, [.int 6, .int 6, .ref a1, .int 1])), (a1, .inl (G.2 0, 36, .inl (upd (fun _ => 0) 0 0)))]) [1, 0] (by decide) rfl
        have hFc := va_free (wc := [(a0, .inr (6, [.int 6, .int 6, .ref a1, .int 1])), (a1, .inl (G.2 0, 36, .inl (upd (fun _ => 0) 0 0)))]) hD hS hA [1, 0] rfl
        refine va_callv (va_runV (As := [.int 0, .int 1, .int 0]) (rest := []) ⟨hx, hb, hml, hown, hts⟩ (kX6_set_52 l G a0 a1 H.size) (cwV 3 hts gV_X6_29 rfl rfl rfl hv_X6_set ⟨Nat.le_of_ble_eq_true rfl, Nat.le_of_ble_eq_true rfl⟩) (g5_preV hPc hK hDc hN hT hS hFc (ci := 6) (q0 := 0) rfl rfl) rfl rfl hl.1 rfl (lv_room (Nat.le_of_ble_eq_true rfl)) dX6_open_38 ⟨Nat.le_of_ble_eq_true rfl, Nat.le_of_ble_eq_true rfl⟩) hS (fun q _ h => hFc q h) hFc (fun u t H1 locs ht hvm hw hB hz1 hk1 hS => ?_)
        obtain ⟨hP1, hD1⟩ := hB
        rw [ht] at hP1
        obtain rfl := hw
        obtain ⟨hP, hD⟩ := va_join (wr := []) (w1 := [(a1, .inl (G.2 0, 36, .inl (upd (upd (fun _ => 0) 0 0) 1 0))), (a0, .inr (6, [.int 6, .int 6, .ref a1, .int 1]))]) hP hD [1, 0] [] rfl rfl (by decide) (by decide) hk1 hFc hP1 hD1
        generalize H1 = H at hP hS ⊢
        have hP : va_P G.1 vwCl [(a1, .inl (G.2 0, 36, .inl (upd (upd (fun _ => 0) 0 0) 1 0))), (a0, .inr (6, [.int 6, .int 6, .ref a1, .int 1]))] H := hP
        have hD : va_D A [(a1, .inl (G.2 0, 36, .inl (upd (upd (fun _ => 0) 0 0) 1 0))), (a0, .inr (6, [.int 6, .int 6, .ref a1, .int 1]))] := hD
        refine lv_iinc (v := 2) (lv' := [(3, .int 2), (2, .int 0), (0, .ref a0), (1, .int 0)]) hx hb dX6_open_41 hl (k := 0) rfl (by decide) (by decide) rfl (fun ls hl => ?_)
        refine lv_goto (tgt := 26) hx hb dX6_open_44 (by decide) ?_
        refine lv_iload_n hx hb dX6_open_26 rfl (lv_at hl 0 rfl) ?_
        refine lv_aload_n hx hb dX6_open_27 rfl (lv_at hl 2 rfl) ?_
        refine va_get (D := G.1) (ci := 6) (v := .int 6) (C := RX6) (T := TX6) (N := 4) hx hb hts inG_X6 hown hK hP 1 rfl rfl 1 (by decide) (hts _ fl_X6_18) (fun _ h9 => h9) rfl dX6_open_28 ?_
        refine lv_icmp_ge (tgt := 47) hx hb dX6_open_31 (by decide) (fun c_4 => ?_) (fun c_4 => ?_)
        ·
          exact absurd c_4 (by decide)
        ·
          refine lv_aload_n hx hb dX6_open_34 rfl (lv_at hl 2 rfl) ?_
          refine lv_iload_n hx hb dX6_open_35 rfl (lv_at hl 1 rfl) ?_
          refine lv_iload_n hx hb dX6_open_36 rfl (lv_at hl 0 rfl) ?_
          refine lv_iload_n hx hb dX6_open_37 rfl (lv_at hl 3 rfl) ?_
          have hPc := hP.sub (ws' := [(a0, .inr (6, [.int 6, .int 6, .ref a1, .int 1])), (a1, .inl (G.2 0, 36, .inl (upd (upd (fun _ => 0) 0 0) 1 0)))]) [1, 0] rfl
          have hDc := hD.sub (ws' := [(a0, .inr (6, [.int 6, .int 6, .ref a1, .int 1])), (a1, .inl (G.2 0, 36, .inl (upd (upd (fun _ => 0) 0 0) 1 0)))]) [1, 0] (by decide) rfl
          have hFc := va_free (wc := [(a0, .inr (6, [.int 6, .int 6, .ref a1, .int 1])), (a1, .inl (G.2 0, 36, .inl (upd (upd (fun _ => 0) 0 0) 1 0)))]) hD hS hA [1, 0] rfl
          refine va_callv (va_runV (As := [.int 0, .int 2, .int 0]) (rest := []) ⟨hx, hb, hml, hown, hts⟩ (kX6_set_53 l G a0 a1 H.size) (cwV 3 hts gV_X6_29 rfl rfl rfl hv_X6_set ⟨Nat.le_of_ble_eq_true rfl, Nat.le_of_ble_eq_true rfl⟩) (g5_preV hPc hK hDc hN hT hS hFc (ci := 6) (q0 := 0) rfl rfl) rfl rfl hl.1 rfl (lv_room (Nat.le_of_ble_eq_true rfl)) dX6_open_38 ⟨Nat.le_of_ble_eq_true rfl, Nat.le_of_ble_eq_true rfl⟩) hS (fun q _ h => hFc q h) hFc (fun u t H1 locs ht hvm hw hB hz1 hk1 hS => ?_)
          obtain ⟨hP1, hD1⟩ := hB
          rw [ht] at hP1
          obtain rfl := hw
          obtain ⟨hP, hD⟩ := va_join (wr := []) (w1 := [(a1, .inl (G.2 0, 36, .inl (upd (upd (upd (fun _ => 0) 0 0) 1 0) 2 0))), (a0, .inr (6, [.int 6, .int 6, .ref a1, .int 1]))]) hP hD [1, 0] [] rfl rfl (by decide) (by decide) hk1 hFc hP1 hD1
          generalize H1 = H at hP hS ⊢
          have hP : va_P G.1 vwCl [(a1, .inl (G.2 0, 36, .inl (upd (upd (upd (fun _ => 0) 0 0) 1 0) 2 0))), (a0, .inr (6, [.int 6, .int 6, .ref a1, .int 1]))] H := hP
          have hD : va_D A [(a1, .inl (G.2 0, 36, .inl (upd (upd (upd (fun _ => 0) 0 0) 1 0) 2 0))), (a0, .inr (6, [.int 6, .int 6, .ref a1, .int 1]))] := hD
          refine lv_iinc (v := 3) (lv' := [(3, .int 3), (2, .int 0), (0, .ref a0), (1, .int 0)]) hx hb dX6_open_41 hl (k := 0) rfl (by decide) (by decide) rfl (fun ls hl => ?_)
          refine lv_goto (tgt := 26) hx hb dX6_open_44 (by decide) ?_
          refine lv_iload_n hx hb dX6_open_26 rfl (lv_at hl 0 rfl) ?_
          refine lv_aload_n hx hb dX6_open_27 rfl (lv_at hl 2 rfl) ?_
          refine va_get (D := G.1) (ci := 6) (v := .int 6) (C := RX6) (T := TX6) (N := 4) hx hb hts inG_X6 hown hK hP 1 rfl rfl 1 (by decide) (hts _ fl_X6_18) (fun _ h9 => h9) rfl dX6_open_28 ?_
          refine lv_icmp_ge (tgt := 47) hx hb dX6_open_31 (by decide) (fun c_5 => ?_) (fun c_5 => ?_)
          ·
            exact absurd c_5 (by decide)
          ·
            refine lv_aload_n hx hb dX6_open_34 rfl (lv_at hl 2 rfl) ?_
            refine lv_iload_n hx hb dX6_open_35 rfl (lv_at hl 1 rfl) ?_
            refine lv_iload_n hx hb dX6_open_36 rfl (lv_at hl 0 rfl) ?_
            refine lv_iload_n hx hb dX6_open_37 rfl (lv_at hl 3 rfl) ?_
            have hPc := hP.sub (ws' := [(a0, .inr (6, [.int 6, .int 6, .ref a1, .int 1])), (a1, .inl (G.2 0, 36, .inl (upd (upd (upd (fun _ => 0) 0 0) 1 0) 2 0)))]) [1, 0] rfl
            have hDc := hD.sub (ws' := [(a0, .inr (6, [.int 6, .int 6, .ref a1, .int 1])), (a1, .inl (G.2 0, 36, .inl (upd (upd (upd (fun _ => 0) 0 0) 1 0) 2 0)))]) [1, 0] (by decide) rfl
            have hFc := va_free (wc := [(a0, .inr (6, [.int 6, .int 6, .ref a1, .int 1])), (a1, .inl (G.2 0, 36, .inl (upd (upd (upd (fun _ => 0) 0 0) 1 0) 2 0)))]) hD hS hA [1, 0] rfl
            refine va_callv (va_runV (As := [.int 0, .int 3, .int 0]) (rest := []) ⟨hx, hb, hml, hown, hts⟩ (kX6_set_54 l G a0 a1 H.size) (cwV 3 hts gV_X6_29 rfl rfl rfl hv_X6_set ⟨Nat.le_of_ble_eq_true rfl, Nat.le_of_ble_eq_true rfl⟩) (g5_preV hPc hK hDc hN hT hS hFc (ci := 6) (q0 := 0) rfl rfl) rfl rfl hl.1 rfl (lv_room (Nat.le_of_ble_eq_true rfl)) dX6_open_38 ⟨Nat.le_of_ble_eq_true rfl, Nat.le_of_ble_eq_true rfl⟩) hS (fun q _ h => hFc q h) hFc (fun u t H1 locs ht hvm hw hB hz1 hk1 hS => ?_)
            obtain ⟨hP1, hD1⟩ := hB
            rw [ht] at hP1
            obtain rfl := hw
            obtain ⟨hP, hD⟩ := va_join (wr := []) (w1 := [(a1, .inl (G.2 0, 36, .inl (upd (upd (upd (upd (fun _ => 0) 0 0) 1 0) 2 0) 3 0))), (a0, .inr (6, [.int 6, .int 6, .ref a1, .int 1]))]) hP hD [1, 0] [] rfl rfl (by decide) (by decide) hk1 hFc hP1 hD1
            generalize H1 = H at hP hS ⊢
            have hP : va_P G.1 vwCl [(a1, .inl (G.2 0, 36, .inl (upd (upd (upd (upd (fun _ => 0) 0 0) 1 0) 2 0) 3 0))), (a0, .inr (6, [.int 6, .int 6, .ref a1, .int 1]))] H := hP
            have hD : va_D A [(a1, .inl (G.2 0, 36, .inl (upd (upd (upd (upd (fun _ => 0) 0 0) 1 0) 2 0) 3 0))), (a0, .inr (6, [.int 6, .int 6, .ref a1, .int 1]))] := hD
            refine lv_iinc (v := 4) (lv' := [(3, .int 4), (2, .int 0), (0, .ref a0), (1, .int 0)]) hx hb dX6_open_41 hl (k := 0) rfl (by decide) (by decide) rfl (fun ls hl => ?_)
            refine lv_goto (tgt := 26) hx hb dX6_open_44 (by decide) ?_
            refine lv_iload_n hx hb dX6_open_26 rfl (lv_at hl 0 rfl) ?_
            refine lv_aload_n hx hb dX6_open_27 rfl (lv_at hl 2 rfl) ?_
            refine va_get (D := G.1) (ci := 6) (v := .int 6) (C := RX6) (T := TX6) (N := 4) hx hb hts inG_X6 hown hK hP 1 rfl rfl 1 (by decide) (hts _ fl_X6_18) (fun _ h9 => h9) rfl dX6_open_28 ?_
            refine lv_icmp_ge (tgt := 47) hx hb dX6_open_31 (by decide) (fun c_6 => ?_) (fun c_6 => ?_)
            ·
              exact absurd c_6 (by decide)
            ·
              refine lv_aload_n hx hb dX6_open_34 rfl (lv_at hl 2 rfl) ?_
              refine lv_iload_n hx hb dX6_open_35 rfl (lv_at hl 1 rfl) ?_
              refine lv_iload_n hx hb dX6_open_36 rfl (lv_at hl 0 rfl) ?_
              refine lv_iload_n hx hb dX6_open_37 rfl (lv_at hl 3 rfl) ?_
              have hPc := hP.sub (ws' := [(a0, .inr (6, [.int 6, .int 6, .ref a1, .int 1])), (a1, .inl (G.2 0, 36, .inl (upd (upd (upd (upd (fun _ => 0) 0 0) 1 0) 2 0) 3 0)))]) [1, 0] rfl
              have hDc := hD.sub (ws' := [(a0, .inr (6, [.int 6, .int 6, .ref a1, .int 1])), (a1, .inl (G.2 0, 36, .inl (upd (upd (upd (upd (fun _ => 0) 0 0) 1 0) 2 0) 3 0)))]) [1, 0] (by decide) rfl
              have hFc := va_free (wc := [(a0, .inr (6, [.int 6, .int 6, .ref a1, .int 1])), (a1, .inl (G.2 0, 36, .inl (upd (upd (upd (upd (fun _ => 0) 0 0) 1 0) 2 0) 3 0)))]) hD hS hA [1, 0] rfl
              refine va_callv (va_runV (As := [.int 0, .int 4, .int 0]) (rest := []) ⟨hx, hb, hml, hown, hts⟩ (kX6_set_55 l G a0 a1 H.size (upd (upd (upd (upd (fun _ => 0) 0 0) 1 0) 2 0) 3 0)) (cwV 3 hts gV_X6_29 rfl rfl rfl hv_X6_set ⟨Nat.le_of_ble_eq_true rfl, Nat.le_of_ble_eq_true rfl⟩) (g5_preV hPc hK hDc hN hT hS hFc (ci := 6) (q0 := 0) rfl rfl) rfl rfl hl.1 rfl (lv_room (Nat.le_of_ble_eq_true rfl)) dX6_open_38 ⟨Nat.le_of_ble_eq_true rfl, Nat.le_of_ble_eq_true rfl⟩) hS (fun q _ h => hFc q h) hFc (fun u t H1 locs ht hvm hw hB hz1 hk1 hS => ?_)
              obtain ⟨hP1, hD1⟩ := hB
              rw [ht] at hP1
              obtain rfl := hw
              obtain ⟨hP, hD⟩ := va_join (wr := []) (w1 := [(a1, .inl (G.2 0, 36, .inl (upd (upd (upd (upd (upd (fun _ => 0) 0 0) 1 0) 2 0) 3 0) 4 0))), (a0, .inr (6, [.int 6, .int 6, .ref a1, .int 1]))]) hP hD [1, 0] [] rfl rfl (by decide) (by decide) hk1 hFc hP1 hD1
              generalize H1 = H at hP hS ⊢
              have hP : va_P G.1 vwCl [(a1, .inl (G.2 0, 36, .inl (upd (upd (upd (upd (upd (fun _ => 0) 0 0) 1 0) 2 0) 3 0) 4 0))), (a0, .inr (6, [.int 6, .int 6, .ref a1, .int 1]))] H := hP
              have hD : va_D A [(a1, .inl (G.2 0, 36, .inl (upd (upd (upd (upd (upd (fun _ => 0) 0 0) 1 0) 2 0) 3 0) 4 0))), (a0, .inr (6, [.int 6, .int 6, .ref a1, .int 1]))] := hD
              refine lv_iinc (v := 5) (lv' := [(3, .int 5), (2, .int 0), (0, .ref a0), (1, .int 0)]) hx hb dX6_open_41 hl (k := 0) rfl (by decide) (by decide) rfl (fun ls hl => ?_)
              refine lv_goto (tgt := 26) hx hb dX6_open_44 (by decide) ?_
              refine lv_iload_n hx hb dX6_open_26 rfl (lv_at hl 0 rfl) ?_
              refine lv_aload_n hx hb dX6_open_27 rfl (lv_at hl 2 rfl) ?_
              refine va_get (D := G.1) (ci := 6) (v := .int 6) (C := RX6) (T := TX6) (N := 4) hx hb hts inG_X6 hown hK hP 1 rfl rfl 1 (by decide) (hts _ fl_X6_18) (fun _ h9 => h9) rfl dX6_open_28 ?_
              refine lv_icmp_ge (tgt := 47) hx hb dX6_open_31 (by decide) (fun c_7 => ?_) (fun c_7 => ?_)
              ·
                exact absurd c_7 (by decide)
              ·
                refine lv_aload_n hx hb dX6_open_34 rfl (lv_at hl 2 rfl) ?_
                refine lv_iload_n hx hb dX6_open_35 rfl (lv_at hl 1 rfl) ?_
                refine lv_iload_n hx hb dX6_open_36 rfl (lv_at hl 0 rfl) ?_
                refine lv_iload_n hx hb dX6_open_37 rfl (lv_at hl 3 rfl) ?_
                have hPc := hP.sub (ws' := [(a0, .inr (6, [.int 6, .int 6, .ref a1, .int 1])), (a1, .inl (G.2 0, 36, .inl (upd (upd (upd (upd (upd (fun _ => 0) 0 0) 1 0) 2 0) 3 0) 4 0)))]) [1, 0] rfl
                have hDc := hD.sub (ws' := [(a0, .inr (6, [.int 6, .int 6, .ref a1, .int 1])), (a1, .inl (G.2 0, 36, .inl (upd (upd (upd (upd (upd (fun _ => 0) 0 0) 1 0) 2 0) 3 0) 4 0)))]) [1, 0] (by decide) rfl
                have hFc := va_free (wc := [(a0, .inr (6, [.int 6, .int 6, .ref a1, .int 1])), (a1, .inl (G.2 0, 36, .inl (upd (upd (upd (upd (upd (fun _ => 0) 0 0) 1 0) 2 0) 3 0) 4 0)))]) hD hS hA [1, 0] rfl
                refine va_callv (va_runV (As := [.int 0, .int 5, .int 0]) (rest := []) ⟨hx, hb, hml, hown, hts⟩ (kX6_set_56 l G a0 a1 H.size (upd (upd (upd (upd (upd (fun _ => 0) 0 0) 1 0) 2 0) 3 0) 4 0)) (cwV 3 hts gV_X6_29 rfl rfl rfl hv_X6_set ⟨Nat.le_of_ble_eq_true rfl, Nat.le_of_ble_eq_true rfl⟩) (g5_preV hPc hK hDc hN hT hS hFc (ci := 6) (q0 := 0) rfl rfl) rfl rfl hl.1 rfl (lv_room (Nat.le_of_ble_eq_true rfl)) dX6_open_38 ⟨Nat.le_of_ble_eq_true rfl, Nat.le_of_ble_eq_true rfl⟩) hS (fun q _ h => hFc q h) hFc (fun u t H1 locs ht hvm hw hB hz1 hk1 hS => ?_)
                obtain ⟨hP1, hD1⟩ := hB
                rw [ht] at hP1
                obtain rfl := hw
                obtain ⟨hP, hD⟩ := va_join (wr := []) (w1 := [(a1, .inl (G.2 0, 36, .inl (upd (upd (upd (upd (upd (upd (fun _ => 0) 0 0) 1 0) 2 0) 3 0) 4 0) 5 0))), (a0, .inr (6, [.int 6, .int 6, .ref a1, .int 1]))]) hP hD [1, 0] [] rfl rfl (by decide) (by decide) hk1 hFc hP1 hD1
                generalize H1 = H at hP hS ⊢
                have hP : va_P G.1 vwCl [(a1, .inl (G.2 0, 36, .inl (upd (upd (upd (upd (upd (upd (fun _ => 0) 0 0) 1 0) 2 0) 3 0) 4 0) 5 0))), (a0, .inr (6, [.int 6, .int 6, .ref a1, .int 1]))] H := hP
                have hD : va_D A [(a1, .inl (G.2 0, 36, .inl (upd (upd (upd (upd (upd (upd (fun _ => 0) 0 0) 1 0) 2 0) 3 0) 4 0) 5 0))), (a0, .inr (6, [.int 6, .int 6, .ref a1, .int 1]))] := hD
                refine lv_iinc (v := 6) (lv' := [(3, .int 6), (2, .int 0), (0, .ref a0), (1, .int 0)]) hx hb dX6_open_41 hl (k := 0) rfl (by decide) (by decide) rfl (fun ls hl => ?_)
                refine lv_goto (tgt := 26) hx hb dX6_open_44 (by decide) ?_
                refine lv_iload_n hx hb dX6_open_26 rfl (lv_at hl 0 rfl) ?_
                refine lv_aload_n hx hb dX6_open_27 rfl (lv_at hl 2 rfl) ?_
                refine va_get (D := G.1) (ci := 6) (v := .int 6) (C := RX6) (T := TX6) (N := 4) hx hb hts inG_X6 hown hK hP 1 rfl rfl 1 (by decide) (hts _ fl_X6_18) (fun _ h9 => h9) rfl dX6_open_28 ?_
                refine lv_icmp_ge (tgt := 47) hx hb dX6_open_31 (by decide) (fun c_8 => ?_) (fun c_8 => ?_)
                ·
                  refine lv_iload_n hx hb dX6_open_47 rfl (lv_at hl 1 rfl) ?_
                  exact W.iret (v := 0) hx hb hr (fun t ht hW => ⟨⟨0, [(a1, .inl (G.2 0, 36, .inl (upd (upd (upd (upd (upd (upd (fun _ => 0) 0 0) 1 0) 2 0) 3 0) 4 0) 5 0))), (a0, .inr (6, [.int 6, .int 6, .ref a1, .int 1]))], rfl, ⟨rfl, rfl⟩, by rw [ht]; exact hP, hD⟩, hS.F ht⟩) hS.2.2 dX6_open_48
                ·
                  exact absurd c_8 (by decide)
  ·
    exact absurd c_1 (by decide)
set_option maxHeartbeats 4000000 in
set_option maxRecDepth 100000 in
theorem kX6_set_57 (l : Launch) (G : g5_G) (a0 a1 : Nat) (sz : Nat) (n0 : Int32) (f0 : Nat → Int32) (h_n0 : 0 ≤ n0.toInt ∧ n0.toInt ≤ 63) : Met l yX6_set (wsG yX6_set cX6_set 4 none) ({ frames := 1, cells := 0, slots := 0, locals := 21 }) (va_Pc [.ref a0, .int 0, .int 0, .int n0] (g5_P G [(a0, .inr (6, [.int 6, .int 6, .ref a1, .int 1])), (a1, .inl (G.2 0, 36, .inl f0))] sz)) (va_Qv (fun (u : va_W) => ((u = [(a1, .inl (G.2 0, 36, .inl (upd f0 0 n0))), (a0, .inr (6, [.int 6, .int 6, .ref a1, .int 1]))]))) (g5_B G (va_A [(a0, .inr (6, [.int 6, .int 6, .ref a1, .int 1])), (a1, .inl (G.2 0, 36, .inl f0))] sz)) (va_A [(a0, .inr (6, [.int 6, .int 6, .ref a1, .int 1])), (a1, .inl (G.2 0, 36, .inl f0))] sz)) 0 0 (va_A [(a0, .inr (6, [.int 6, .int 6, .ref a1, .int 1])), (a1, .inl (G.2 0, 36, .inl f0))] sz) := by
  refine Met.ofW (cc := cX6_set) (maxL := 4) (ret := none) (by decide) rfl ?_
  intro p e s m args below meth c s₁ B hml hv
  obtain ⟨rfl, hsz, hP, hK, hD0, hN, hT⟩ := hv
  have hx := B.exec
  have hb := B.bytes
  have hr := B.returns
  have hts : ∀ w ∈ tblG, w.before _ s = true := fun w h => atoms_spec (ws := (wsG yX6_set cX6_set 4 none)) B.pre w (List.mem_cons_of_mem _ h)
  have hown : s.vm.findClass RX6 = some m.cls := findClass_of_methodNamed B.named
  have hlocks := B.notSynchronized
  subst hsz
  have hD := hD0.self (sz := s.heap.size)
  generalize hAe : va_A [(a0, .inr (6, [.int 6, .int 6, .ref a1, .int 1])), (a1, .inl (G.2 0, 36, .inl f0))] s.heap.size = A at hD hT ⊢
  have hA : ∀ q : Nat, s.heap.size ≤ q → A q := fun q h => by rw [← hAe]; exact Or.inr h
  have hS : va_S A s.heap s.heap [] := va_S.rf
  have hP : va_P G.1 vwCl [(a0, .inr (6, [.int 6, .int 6, .ref a1, .int 1])), (a1, .inl (G.2 0, 36, .inl f0))] s.heap := hP
  have hl := lv_entry ([.ref a0, .int 0, .int 0, .int n0]) (n := 4) (Nat.le_of_ble_eq_true rfl)
  rw [lg_entry_eq]
  generalize (lg_sl ([.ref a0, .int 0, .int 0, .int n0]) ++ List.replicate (4 - (lg_sl ([.ref a0, .int 0, .int 0, .int n0])).length) Slot.unset).toArray = ls at hl ⊢
  have hl : lv_has ls 4 [(0, .ref a0), (1, .int 0), (2, .int 0), (3, .int n0)] := hl
  refine lv_aload_n hx hb dX6_set_0 rfl (lv_at hl 0 rfl) ?_
  refine lv_iload_n hx hb dX6_set_1 rfl (lv_at hl 1 rfl) ?_
  have hPc := hP.sub (ws' := [(a0, .inr (6, [.int 6, .int 6, .ref a1, .int 1]))]) [0] rfl
  have hDc := hD.sub (ws' := [(a0, .inr (6, [.int 6, .int 6, .ref a1, .int 1]))]) [0] (by decide) rfl
  have hFc := va_free (wc := [(a0, .inr (6, [.int 6, .int 6, .ref a1, .int 1]))]) hD hS hA [0] rfl
  refine va_calli (va_runV (As := [.int 0]) (rest := []) ⟨hx, hb, hml, hown, hts⟩ (kX6_has_8 l G a0 a1 s.heap.size) (cwV 1 hts gV_X6_25 rfl rfl rfl hv_X6_has ⟨Nat.le_of_ble_eq_true rfl, Nat.le_of_ble_eq_true rfl⟩) (g5_preV hPc hK hDc hN hT hS hFc (ci := 6) (q0 := 0) rfl rfl) rfl rfl hl.1 rfl (lv_room (Nat.le_of_ble_eq_true rfl)) dX6_set_2 ⟨Nat.le_of_ble_eq_true rfl, Nat.le_of_ble_eq_true rfl⟩) hS (fun q _ h => hFc q h) hFc (fun r u t H1 locs ht hvm hw hB hz1 hk1 hS => ?_)
  obtain ⟨hP1, hD1⟩ := hB
  rw [ht] at hP1
  obtain ⟨rfl, rfl⟩ := hw
  obtain ⟨hP, hD⟩ := va_join (wr := [(a1, .inl (G.2 0, 36, .inl f0))]) (w1 := [(a0, .inr (6, [.int 6, .int 6, .ref a1, .int 1]))]) hP hD [0] [1] rfl rfl (by decide) (by decide) hk1 hFc hP1 hD1
  generalize H1 = H at hP hS ⊢
  have hP : va_P G.1 vwCl [(a1, .inl (G.2 0, 36, .inl f0)), (a0, .inr (6, [.int 6, .int 6, .ref a1, .int 1]))] H := hP
  have hD : va_D A [(a1, .inl (G.2 0, 36, .inl f0)), (a0, .inr (6, [.int 6, .int 6, .ref a1, .int 1]))] := hD
  refine lv_if_eq (tgt := 34) hx hb dX6_set_5 (by decide) (fun c_1 => ?_) (fun c_1 => ?_)
  ·
    exact absurd c_1 (by decide)
  ·
    refine lv_iload_n hx hb dX6_set_8 rfl (lv_at hl 2 rfl) ?_
    refine lv_if_lt (tgt := 34) hx hb dX6_set_9 (by decide) (fun c_2 => ?_) (fun c_2 => ?_)
    ·
      exact absurd c_2 (by decide)
    ·
      refine lv_iload_n hx hb dX6_set_12 rfl (lv_at hl 2 rfl) ?_
      refine lv_aload_n hx hb dX6_set_13 rfl (lv_at hl 0 rfl) ?_
      refine va_get (D := G.1) (ci := 6) (v := .int 6) (C := RX6) (T := TX6) (N := 4) hx hb hts inG_X6 hown hK hP 1 rfl rfl 1 (by decide) (hts _ fl_X6_18) (fun _ h9 => h9) rfl dX6_set_14 ?_
      refine lv_icmp_ge (tgt := 34) hx hb dX6_set_17 (by decide) (fun c_3 => ?_) (fun c_3 => ?_)
      ·
        exact absurd c_3 (by decide)
      ·
        refine lv_aload_n hx hb dX6_set_20 rfl (lv_at hl 0 rfl) ?_
        refine va_get (D := G.1) (ci := 6) (v := .ref a1) (C := RX6) (T := TX6) (N := 4) hx hb hts inG_X6 hown hK hP 1 rfl rfl 2 (by decide) (hts _ fl_X6_21) (fun _ h9 => h9) rfl dX6_set_21 ?_
        refine lv_iload_n hx hb dX6_set_24 rfl (lv_at hl 1 rfl) ?_
        refine lv_aload_n hx hb dX6_set_25 rfl (lv_at hl 0 rfl) ?_
        refine va_get (D := G.1) (ci := 6) (v := .int 6) (C := RX6) (T := TX6) (N := 4) hx hb hts inG_X6 hown hK hP 1 rfl rfl 1 (by decide) (hts _ fl_X6_18) (fun _ h9 => h9) rfl dX6_set_26 ?_
        refine lv_imul hx hb dX6_set_29 ?_
        refine g5_ti (v := 0) (by decide) ?_
        refine lv_iload_n hx hb dX6_set_30 rfl (lv_at hl 2 rfl) ?_
        refine lv_iadd hx hb dX6_set_31 ?_
        refine g5_ti (v := 0) (by decide) ?_
        refine lv_iload_n hx hb dX6_set_32 rfl (lv_at hl 3 rfl) ?_
        refine va_iast hx hb hK hP hD hS 0 0 rfl rfl (i := 0) (x := n0) (by unfold vp_in; decide) dX6_set_33 (fun H locs hP hD hS => ?_)
        have hP : va_P G.1 vwCl [(a1, .inl (G.2 0, 36, .inl (upd f0 0 n0))), (a0, .inr (6, [.int 6, .int 6, .ref a1, .int 1]))] H := hP
        have hD : va_D A [(a1, .inl (G.2 0, 36, .inl (upd f0 0 n0))), (a0, .inr (6, [.int 6, .int 6, .ref a1, .int 1]))] := hD
        exact W.vret hx hb hr (fun t ht hW => ⟨⟨[(a1, .inl (G.2 0, 36, .inl (upd f0 0 n0))), (a0, .inr (6, [.int 6, .int 6, .ref a1, .int 1]))], rfl, rfl, by rw [ht]; exact hP, hD⟩, hS.F ht⟩) hS.2.2 dX6_set_34
set_option maxHeartbeats 4000000 in
set_option maxRecDepth 100000 in
theorem kX6_set_58 (l : Launch) (G : g5_G) (a0 a1 : Nat) (sz : Nat) (n0 : Int32) (f0 : Nat → Int32) (h_n0 : 0 ≤ n0.toInt ∧ n0.toInt ≤ 3) : Met l yX6_set (wsG yX6_set cX6_set 4 none) ({ frames := 1, cells := 0, slots := 0, locals := 21 }) (va_Pc [.ref a0, .int 0, .int 1, .int n0] (g5_P G [(a0, .inr (6, [.int 6, .int 6, .ref a1, .int 1])), (a1, .inl (G.2 0, 36, .inl f0))] sz)) (va_Qv (fun (u : va_W) => ((u = [(a1, .inl (G.2 0, 36, .inl (upd f0 1 n0))), (a0, .inr (6, [.int 6, .int 6, .ref a1, .int 1]))]))) (g5_B G (va_A [(a0, .inr (6, [.int 6, .int 6, .ref a1, .int 1])), (a1, .inl (G.2 0, 36, .inl f0))] sz)) (va_A [(a0, .inr (6, [.int 6, .int 6, .ref a1, .int 1])), (a1, .inl (G.2 0, 36, .inl f0))] sz)) 0 0 (va_A [(a0, .inr (6, [.int 6, .int 6, .ref a1, .int 1])), (a1, .inl (G.2 0, 36, .inl f0))] sz) := by
  refine Met.ofW (cc := cX6_set) (maxL := 4) (ret := none) (by decide) rfl ?_
  intro p e s m args below meth c s₁ B hml hv
  obtain ⟨rfl, hsz, hP, hK, hD0, hN, hT⟩ := hv
  have hx := B.exec
  have hb := B.bytes
  have hr := B.returns
  have hts : ∀ w ∈ tblG, w.before _ s = true := fun w h => atoms_spec (ws := (wsG yX6_set cX6_set 4 none)) B.pre w (List.mem_cons_of_mem _ h)
  have hown : s.vm.findClass RX6 = some m.cls := findClass_of_methodNamed B.named
  have hlocks := B.notSynchronized
  subst hsz
  have hD := hD0.self (sz := s.heap.size)
  generalize hAe : va_A [(a0, .inr (6, [.int 6, .int 6, .ref a1, .int 1])), (a1, .inl (G.2 0, 36, .inl f0))] s.heap.size = A at hD hT ⊢
  have hA : ∀ q : Nat, s.heap.size ≤ q → A q := fun q h => by rw [← hAe]; exact Or.inr h
  have hS : va_S A s.heap s.heap [] := va_S.rf
  have hP : va_P G.1 vwCl [(a0, .inr (6, [.int 6, .int 6, .ref a1, .int 1])), (a1, .inl (G.2 0, 36, .inl f0))] s.heap := hP
  have hl := lv_entry ([.ref a0, .int 0, .int 1, .int n0]) (n := 4) (Nat.le_of_ble_eq_true rfl)
  rw [lg_entry_eq]
  generalize (lg_sl ([.ref a0, .int 0, .int 1, .int n0]) ++ List.replicate (4 - (lg_sl ([.ref a0, .int 0, .int 1, .int n0])).length) Slot.unset).toArray = ls at hl ⊢
  have hl : lv_has ls 4 [(0, .ref a0), (1, .int 0), (2, .int 1), (3, .int n0)] := hl
  refine lv_aload_n hx hb dX6_set_0 rfl (lv_at hl 0 rfl) ?_
  refine lv_iload_n hx hb dX6_set_1 rfl (lv_at hl 1 rfl) ?_
  have hPc := hP.sub (ws' := [(a0, .inr (6, [.int 6, .int 6, .ref a1, .int 1]))]) [0] rfl
  have hDc := hD.sub (ws' := [(a0, .inr (6, [.int 6, .int 6, .ref a1, .int 1]))]) [0] (by decide) rfl
  have hFc := va_free (wc := [(a0, .inr (6, [.int 6, .int 6, .ref a1, .int 1]))]) hD hS hA [0] rfl
  refine va_calli (va_runV (As := [.int 0]) (rest := []) ⟨hx, hb, hml, hown, hts⟩ (kX6_has_8 l G a0 a1 s.heap.size) (cwV 1 hts gV_X6_25 rfl rfl rfl hv_X6_has ⟨Nat.le_of_ble_eq_true rfl, Nat.le_of_ble_eq_true rfl⟩) (g5_preV hPc hK hDc hN hT hS hFc (ci := 6) (q0 := 0) rfl rfl) rfl rfl hl.1 rfl (lv_room (Nat.le_of_ble_eq_true rfl)) dX6_set_2 ⟨Nat.le_of_ble_eq_true rfl, Nat.le_of_ble_eq_true rfl⟩) hS (fun q _ h => hFc q h) hFc (fun r u t H1 locs ht hvm hw hB hz1 hk1 hS => ?_)
  obtain ⟨hP1, hD1⟩ := hB
  rw [ht] at hP1
  obtain ⟨rfl, rfl⟩ := hw
  obtain ⟨hP, hD⟩ := va_join (wr := [(a1, .inl (G.2 0, 36, .inl f0))]) (w1 := [(a0, .inr (6, [.int 6, .int 6, .ref a1, .int 1]))]) hP hD [0] [1] rfl rfl (by decide) (by decide) hk1 hFc hP1 hD1
  generalize H1 = H at hP hS ⊢
  have hP : va_P G.1 vwCl [(a1, .inl (G.2 0, 36, .inl f0)), (a0, .inr (6, [.int 6, .int 6, .ref a1, .int 1]))] H := hP
  have hD : va_D A [(a1, .inl (G.2 0, 36, .inl f0)), (a0, .inr (6, [.int 6, .int 6, .ref a1, .int 1]))] := hD
  refine lv_if_eq (tgt := 34) hx hb dX6_set_5 (by decide) (fun c_1 => ?_) (fun c_1 => ?_)
  ·
    exact absurd c_1 (by decide)
  ·
    refine lv_iload_n hx hb dX6_set_8 rfl (lv_at hl 2 rfl) ?_
    refine lv_if_lt (tgt := 34) hx hb dX6_set_9 (by decide) (fun c_2 => ?_) (fun c_2 => ?_)
    ·
      exact absurd c_2 (by decide)
    ·
      refine lv_iload_n hx hb dX6_set_12 rfl (lv_at hl 2 rfl) ?_
      refine lv_aload_n hx hb dX6_set_13 rfl (lv_at hl 0 rfl) ?_
      refine va_get (D := G.1) (ci := 6) (v := .int 6) (C := RX6) (T := TX6) (N := 4) hx hb hts inG_X6 hown hK hP 1 rfl rfl 1 (by decide) (hts _ fl_X6_18) (fun _ h9 => h9) rfl dX6_set_14 ?_
      refine lv_icmp_ge (tgt := 34) hx hb dX6_set_17 (by decide) (fun c_3 => ?_) (fun c_3 => ?_)
      ·
        exact absurd c_3 (by decide)
      ·
        refine lv_aload_n hx hb dX6_set_20 rfl (lv_at hl 0 rfl) ?_
        refine va_get (D := G.1) (ci := 6) (v := .ref a1) (C := RX6) (T := TX6) (N := 4) hx hb hts inG_X6 hown hK hP 1 rfl rfl 2 (by decide) (hts _ fl_X6_21) (fun _ h9 => h9) rfl dX6_set_21 ?_
        refine lv_iload_n hx hb dX6_set_24 rfl (lv_at hl 1 rfl) ?_
        refine lv_aload_n hx hb dX6_set_25 rfl (lv_at hl 0 rfl) ?_
        refine va_get (D := G.1) (ci := 6) (v := .int 6) (C := RX6) (T := TX6) (N := 4) hx hb hts inG_X6 hown hK hP 1 rfl rfl 1 (by decide) (hts _ fl_X6_18) (fun _ h9 => h9) rfl dX6_set_26 ?_
        refine lv_imul hx hb dX6_set_29 ?_
        refine g5_ti (v := 0) (by decide) ?_
        refine lv_iload_n hx hb dX6_set_30 rfl (lv_at hl 2 rfl) ?_
        refine lv_iadd hx hb dX6_set_31 ?_
        refine g5_ti (v := 1) (by decide) ?_
        refine lv_iload_n hx hb dX6_set_32 rfl (lv_at hl 3 rfl) ?_
        refine va_iast hx hb hK hP hD hS 0 0 rfl rfl (i := 1) (x := n0) (by unfold vp_in; decide) dX6_set_33 (fun H locs hP hD hS => ?_)
        have hP : va_P G.1 vwCl [(a1, .inl (G.2 0, 36, .inl (upd f0 1 n0))), (a0, .inr (6, [.int 6, .int 6, .ref a1, .int 1]))] H := hP
        have hD : va_D A [(a1, .inl (G.2 0, 36, .inl (upd f0 1 n0))), (a0, .inr (6, [.int 6, .int 6, .ref a1, .int 1]))] := hD
        exact W.vret hx hb hr (fun t ht hW => ⟨⟨[(a1, .inl (G.2 0, 36, .inl (upd f0 1 n0))), (a0, .inr (6, [.int 6, .int 6, .ref a1, .int 1]))], rfl, rfl, by rw [ht]; exact hP, hD⟩, hS.F ht⟩) hS.2.2 dX6_set_34
set_option maxHeartbeats 4000000 in
set_option maxRecDepth 100000 in
theorem kX6_set_59 (l : Launch) (G : g5_G) (a0 a1 : Nat) (sz : Nat) (n0 : Int32) (f0 : Nat → Int32) (h_n0 : 0 ≤ n0.toInt ∧ n0.toInt ≤ 23) : Met l yX6_set (wsG yX6_set cX6_set 4 none) ({ frames := 1, cells := 0, slots := 0, locals := 21 }) (va_Pc [.ref a0, .int 0, .int 2, .int n0] (g5_P G [(a0, .inr (6, [.int 6, .int 6, .ref a1, .int 1])), (a1, .inl (G.2 0, 36, .inl f0))] sz)) (va_Qv (fun (u : va_W) => ((u = [(a1, .inl (G.2 0, 36, .inl (upd f0 2 n0))), (a0, .inr (6, [.int 6, .int 6, .ref a1, .int 1]))]))) (g5_B G (va_A [(a0, .inr (6, [.int 6, .int 6, .ref a1, .int 1])), (a1, .inl (G.2 0, 36, .inl f0))] sz)) (va_A [(a0, .inr (6, [.int 6, .int 6, .ref a1, .int 1])), (a1, .inl (G.2 0, 36, .inl f0))] sz)) 0 0 (va_A [(a0, .inr (6, [.int 6, .int 6, .ref a1, .int 1])), (a1, .inl (G.2 0, 36, .inl f0))] sz) := by
  refine Met.ofW (cc := cX6_set) (maxL := 4) (ret := none) (by decide) rfl ?_
  intro p e s m args below meth c s₁ B hml hv
  obtain ⟨rfl, hsz, hP, hK, hD0, hN, hT⟩ := hv
  have hx := B.exec
  have hb := B.bytes
  have hr := B.returns
  have hts : ∀ w ∈ tblG, w.before _ s = true := fun w h => atoms_spec (ws := (wsG yX6_set cX6_set 4 none)) B.pre w (List.mem_cons_of_mem _ h)
  have hown : s.vm.findClass RX6 = some m.cls := findClass_of_methodNamed B.named
  have hlocks := B.notSynchronized
  subst hsz
  have hD := hD0.self (sz := s.heap.size)
  generalize hAe : va_A [(a0, .inr (6, [.int 6, .int 6, .ref a1, .int 1])), (a1, .inl (G.2 0, 36, .inl f0))] s.heap.size = A at hD hT ⊢
  have hA : ∀ q : Nat, s.heap.size ≤ q → A q := fun q h => by rw [← hAe]; exact Or.inr h
  have hS : va_S A s.heap s.heap [] := va_S.rf
  have hP : va_P G.1 vwCl [(a0, .inr (6, [.int 6, .int 6, .ref a1, .int 1])), (a1, .inl (G.2 0, 36, .inl f0))] s.heap := hP
  have hl := lv_entry ([.ref a0, .int 0, .int 2, .int n0]) (n := 4) (Nat.le_of_ble_eq_true rfl)
  rw [lg_entry_eq]
  generalize (lg_sl ([.ref a0, .int 0, .int 2, .int n0]) ++ List.replicate (4 - (lg_sl ([.ref a0, .int 0, .int 2, .int n0])).length) Slot.unset).toArray = ls at hl ⊢
  have hl : lv_has ls 4 [(0, .ref a0), (1, .int 0), (2, .int 2), (3, .int n0)] := hl
  refine lv_aload_n hx hb dX6_set_0 rfl (lv_at hl 0 rfl) ?_
  refine lv_iload_n hx hb dX6_set_1 rfl (lv_at hl 1 rfl) ?_
  have hPc := hP.sub (ws' := [(a0, .inr (6, [.int 6, .int 6, .ref a1, .int 1]))]) [0] rfl
  have hDc := hD.sub (ws' := [(a0, .inr (6, [.int 6, .int 6, .ref a1, .int 1]))]) [0] (by decide) rfl
  have hFc := va_free (wc := [(a0, .inr (6, [.int 6, .int 6, .ref a1, .int 1]))]) hD hS hA [0] rfl
  refine va_calli (va_runV (As := [.int 0]) (rest := []) ⟨hx, hb, hml, hown, hts⟩ (kX6_has_8 l G a0 a1 s.heap.size) (cwV 1 hts gV_X6_25 rfl rfl rfl hv_X6_has ⟨Nat.le_of_ble_eq_true rfl, Nat.le_of_ble_eq_true rfl⟩) (g5_preV hPc hK hDc hN hT hS hFc (ci := 6) (q0 := 0) rfl rfl) rfl rfl hl.1 rfl (lv_room (Nat.le_of_ble_eq_true rfl)) dX6_set_2 ⟨Nat.le_of_ble_eq_true rfl, Nat.le_of_ble_eq_true rfl⟩) hS (fun q _ h => hFc q h) hFc (fun r u t H1 locs ht hvm hw hB hz1 hk1 hS => ?_)
  obtain ⟨hP1, hD1⟩ := hB
  rw [ht] at hP1
  obtain ⟨rfl, rfl⟩ := hw
  obtain ⟨hP, hD⟩ := va_join (wr := [(a1, .inl (G.2 0, 36, .inl f0))]) (w1 := [(a0, .inr (6, [.int 6, .int 6, .ref a1, .int 1]))]) hP hD [0] [1] rfl rfl (by decide) (by decide) hk1 hFc hP1 hD1
  generalize H1 = H at hP hS ⊢
  have hP : va_P G.1 vwCl [(a1, .inl (G.2 0, 36, .inl f0)), (a0, .inr (6, [.int 6, .int 6, .ref a1, .int 1]))] H := hP
  have hD : va_D A [(a1, .inl (G.2 0, 36, .inl f0)), (a0, .inr (6, [.int 6, .int 6, .ref a1, .int 1]))] := hD
  refine lv_if_eq (tgt := 34) hx hb dX6_set_5 (by decide) (fun c_1 => ?_) (fun c_1 => ?_)
  ·
    exact absurd c_1 (by decide)
  ·
    refine lv_iload_n hx hb dX6_set_8 rfl (lv_at hl 2 rfl) ?_
    refine lv_if_lt (tgt := 34) hx hb dX6_set_9 (by decide) (fun c_2 => ?_) (fun c_2 => ?_)
    ·
      exact absurd c_2 (by decide)
    ·
      refine lv_iload_n hx hb dX6_set_12 rfl (lv_at hl 2 rfl) ?_
      refine lv_aload_n hx hb dX6_set_13 rfl (lv_at hl 0 rfl) ?_
      refine va_get (D := G.1) (ci := 6) (v := .int 6) (C := RX6) (T := TX6) (N := 4) hx hb hts inG_X6 hown hK hP 1 rfl rfl 1 (by decide) (hts _ fl_X6_18) (fun _ h9 => h9) rfl dX6_set_14 ?_
      refine lv_icmp_ge (tgt := 34) hx hb dX6_set_17 (by decide) (fun c_3 => ?_) (fun c_3 => ?_)
      ·
        exact absurd c_3 (by decide)
      ·
        refine lv_aload_n hx hb dX6_set_20 rfl (lv_at hl 0 rfl) ?_
        refine va_get (D := G.1) (ci := 6) (v := .ref a1) (C := RX6) (T := TX6) (N := 4) hx hb hts inG_X6 hown hK hP 1 rfl rfl 2 (by decide) (hts _ fl_X6_21) (fun _ h9 => h9) rfl dX6_set_21 ?_
        refine lv_iload_n hx hb dX6_set_24 rfl (lv_at hl 1 rfl) ?_
        refine lv_aload_n hx hb dX6_set_25 rfl (lv_at hl 0 rfl) ?_
        refine va_get (D := G.1) (ci := 6) (v := .int 6) (C := RX6) (T := TX6) (N := 4) hx hb hts inG_X6 hown hK hP 1 rfl rfl 1 (by decide) (hts _ fl_X6_18) (fun _ h9 => h9) rfl dX6_set_26 ?_
        refine lv_imul hx hb dX6_set_29 ?_
        refine g5_ti (v := 0) (by decide) ?_
        refine lv_iload_n hx hb dX6_set_30 rfl (lv_at hl 2 rfl) ?_
        refine lv_iadd hx hb dX6_set_31 ?_
        refine g5_ti (v := 2) (by decide) ?_
        refine lv_iload_n hx hb dX6_set_32 rfl (lv_at hl 3 rfl) ?_
        refine va_iast hx hb hK hP hD hS 0 0 rfl rfl (i := 2) (x := n0) (by unfold vp_in; decide) dX6_set_33 (fun H locs hP hD hS => ?_)
        have hP : va_P G.1 vwCl [(a1, .inl (G.2 0, 36, .inl (upd f0 2 n0))), (a0, .inr (6, [.int 6, .int 6, .ref a1, .int 1]))] H := hP
        have hD : va_D A [(a1, .inl (G.2 0, 36, .inl (upd f0 2 n0))), (a0, .inr (6, [.int 6, .int 6, .ref a1, .int 1]))] := hD
        exact W.vret hx hb hr (fun t ht hW => ⟨⟨[(a1, .inl (G.2 0, 36, .inl (upd f0 2 n0))), (a0, .inr (6, [.int 6, .int 6, .ref a1, .int 1]))], rfl, rfl, by rw [ht]; exact hP, hD⟩, hS.F ht⟩) hS.2.2 dX6_set_34
set_option maxHeartbeats 4000000 in
set_option maxRecDepth 100000 in
theorem kX6_setLook_2 (l : Launch) (G : g5_G) (a0 a1 : Nat) (sz : Nat) (n0 : Int32) (n1 : Int32) (n2 : Int32) (f0 : Nat → Int32) (h_n0 : 0 ≤ n0.toInt ∧ n0.toInt ≤ 63) (h_n1 : 0 ≤ n1.toInt ∧ n1.toInt ≤ 3) (h_n2 : 0 ≤ n2.toInt ∧ n2.toInt ≤ 23) : Met l yX6_setLook (wsG yX6_setLook cX6_setLook 5 none) ({ frames := 2, cells := 0, slots := 0, locals := 44 }) (va_Pc [.ref a0, .int 0, .int n0, .int n1, .int n2] (g5_P G [(a0, .inr (6, [.int 6, .int 6, .ref a1, .int 1])), (a1, .inl (G.2 0, 36, .inl f0))] sz)) (va_Qv (fun (u : va_W) => ((u = [(a1, .inl (G.2 0, 36, .inl (upd (upd (upd f0 0 n0) 1 n1) 2 n2))), (a0, .inr (6, [.int 6, .int 6, .ref a1, .int 1]))]))) (g5_B G (va_A [(a0, .inr (6, [.int 6, .int 6, .ref a1, .int 1])), (a1, .inl (G.2 0, 36, .inl f0))] sz)) (va_A [(a0, .inr (6, [.int 6, .int 6, .ref a1, .int 1])), (a1, .inl (G.2 0, 36, .inl f0))] sz)) 0 0 (va_A [(a0, .inr (6, [.int 6, .int 6, .ref a1, .int 1])), (a1, .inl (G.2 0, 36, .inl f0))] sz) := by
  refine Met.ofW (cc := cX6_setLook) (maxL := 5) (ret := none) (by decide) rfl ?_
  intro p e s m args below meth c s₁ B hml hv
  obtain ⟨rfl, hsz, hP, hK, hD0, hN, hT⟩ := hv
  have hx := B.exec
  have hb := B.bytes
  have hr := B.returns
  have hts : ∀ w ∈ tblG, w.before _ s = true := fun w h => atoms_spec (ws := (wsG yX6_setLook cX6_setLook 5 none)) B.pre w (List.mem_cons_of_mem _ h)
  have hown : s.vm.findClass RX6 = some m.cls := findClass_of_methodNamed B.named
  have hlocks := B.notSynchronized
  subst hsz
  have hD := hD0.self (sz := s.heap.size)
  generalize hAe : va_A [(a0, .inr (6, [.int 6, .int 6, .ref a1, .int 1])), (a1, .inl (G.2 0, 36, .inl f0))] s.heap.size = A at hD hT ⊢
  have hA : ∀ q : Nat, s.heap.size ≤ q → A q := fun q h => by rw [← hAe]; exact Or.inr h
  have hS : va_S A s.heap s.heap [] := va_S.rf
  have hP : va_P G.1 vwCl [(a0, .inr (6, [.int 6, .int 6, .ref a1, .int 1])), (a1, .inl (G.2 0, 36, .inl f0))] s.heap := hP
  have hl := lv_entry ([.ref a0, .int 0, .int n0, .int n1, .int n2]) (n := 5) (Nat.le_of_ble_eq_true rfl)
  rw [lg_entry_eq]
  generalize (lg_sl ([.ref a0, .int 0, .int n0, .int n1, .int n2]) ++ List.replicate (5 - (lg_sl ([.ref a0, .int 0, .int n0, .int n1, .int n2])).length) Slot.unset).toArray = ls at hl ⊢
  have hl : lv_has ls 5 [(0, .ref a0), (1, .int 0), (2, .int n0), (3, .int n1), (4, .int n2)] := hl
  refine lv_aload_n hx hb dX6_setLook_0 rfl (lv_at hl 0 rfl) ?_
  refine lv_iload_n hx hb dX6_setLook_1 rfl (lv_at hl 1 rfl) ?_
  refine lv_iconst (v := 0) hx hb dX6_setLook_2 (by decide) ?_
  refine lv_iload_n hx hb dX6_setLook_3 rfl (lv_at hl 2 rfl) ?_
  have hPc := hP.sub (ws' := [(a0, .inr (6, [.int 6, .int 6, .ref a1, .int 1])), (a1, .inl (G.2 0, 36, .inl f0))]) [0, 1] rfl
  have hDc := hD.sub (ws' := [(a0, .inr (6, [.int 6, .int 6, .ref a1, .int 1])), (a1, .inl (G.2 0, 36, .inl f0))]) [0, 1] (by decide) rfl
  have hFc := va_free (wc := [(a0, .inr (6, [.int 6, .int 6, .ref a1, .int 1])), (a1, .inl (G.2 0, 36, .inl f0))]) hD hS hA [0, 1] rfl
  refine va_callv (va_runV (As := [.int 0, .int 0, .int n0]) (rest := []) ⟨hx, hb, hml, hown, hts⟩ (kX6_set_57 l G a0 a1 s.heap.size n0 f0 ⟨by omega, by omega⟩) (cwV 3 hts gV_X6_29 rfl rfl rfl hv_X6_set ⟨Nat.le_of_ble_eq_true rfl, Nat.le_of_ble_eq_true rfl⟩) (g5_preV hPc hK hDc hN hT hS hFc (ci := 6) (q0 := 0) rfl rfl) rfl rfl hl.1 rfl (lv_room (Nat.le_of_ble_eq_true rfl)) dX6_setLook_4 ⟨Nat.le_of_ble_eq_true rfl, Nat.le_of_ble_eq_true rfl⟩) hS (fun q _ h => hFc q h) hFc (fun u t H1 locs ht hvm hw hB hz1 hk1 hS => ?_)
  obtain ⟨hP1, hD1⟩ := hB
  rw [ht] at hP1
  obtain rfl := hw
  obtain ⟨hP, hD⟩ := va_join (wr := []) (w1 := [(a1, .inl (G.2 0, 36, .inl (upd f0 0 n0))), (a0, .inr (6, [.int 6, .int 6, .ref a1, .int 1]))]) hP hD [0, 1] [] rfl rfl (by decide) (by decide) hk1 hFc hP1 hD1
  generalize H1 = H at hP hS ⊢
  have hP : va_P G.1 vwCl [(a1, .inl (G.2 0, 36, .inl (upd f0 0 n0))), (a0, .inr (6, [.int 6, .int 6, .ref a1, .int 1]))] H := hP
  have hD : va_D A [(a1, .inl (G.2 0, 36, .inl (upd f0 0 n0))), (a0, .inr (6, [.int 6, .int 6, .ref a1, .int 1]))] := hD
  refine lv_aload_n hx hb dX6_setLook_7 rfl (lv_at hl 0 rfl) ?_
  refine lv_iload_n hx hb dX6_setLook_8 rfl (lv_at hl 1 rfl) ?_
  refine lv_iconst (v := 1) hx hb dX6_setLook_9 (by decide) ?_
  refine lv_iload_n hx hb dX6_setLook_10 rfl (lv_at hl 3 rfl) ?_
  have hPc := hP.sub (ws' := [(a0, .inr (6, [.int 6, .int 6, .ref a1, .int 1])), (a1, .inl (G.2 0, 36, .inl (upd f0 0 n0)))]) [1, 0] rfl
  have hDc := hD.sub (ws' := [(a0, .inr (6, [.int 6, .int 6, .ref a1, .int 1])), (a1, .inl (G.2 0, 36, .inl (upd f0 0 n0)))]) [1, 0] (by decide) rfl
  have hFc := va_free (wc := [(a0, .inr (6, [.int 6, .int 6, .ref a1, .int 1])), (a1, .inl (G.2 0, 36, .inl (upd f0 0 n0)))]) hD hS hA [1, 0] rfl
  refine va_callv (va_runV (As := [.int 0, .int 1, .int n1]) (rest := []) ⟨hx, hb, hml, hown, hts⟩ (kX6_set_58 l G a0 a1 H.size n1 (upd f0 0 n0) ⟨by omega, by omega⟩) (cwV 3 hts gV_X6_29 rfl rfl rfl hv_X6_set ⟨Nat.le_of_ble_eq_true rfl, Nat.le_of_ble_eq_true rfl⟩) (g5_preV hPc hK hDc hN hT hS hFc (ci := 6) (q0 := 0) rfl rfl) rfl rfl hl.1 rfl (lv_room (Nat.le_of_ble_eq_true rfl)) dX6_setLook_11 ⟨Nat.le_of_ble_eq_true rfl, Nat.le_of_ble_eq_true rfl⟩) hS (fun q _ h => hFc q h) hFc (fun u t H1 locs ht hvm hw hB hz1 hk1 hS => ?_)
  obtain ⟨hP1, hD1⟩ := hB
  rw [ht] at hP1
  obtain rfl := hw
  obtain ⟨hP, hD⟩ := va_join (wr := []) (w1 := [(a1, .inl (G.2 0, 36, .inl (upd (upd f0 0 n0) 1 n1))), (a0, .inr (6, [.int 6, .int 6, .ref a1, .int 1]))]) hP hD [1, 0] [] rfl rfl (by decide) (by decide) hk1 hFc hP1 hD1
  generalize H1 = H at hP hS ⊢
  have hP : va_P G.1 vwCl [(a1, .inl (G.2 0, 36, .inl (upd (upd f0 0 n0) 1 n1))), (a0, .inr (6, [.int 6, .int 6, .ref a1, .int 1]))] H := hP
  have hD : va_D A [(a1, .inl (G.2 0, 36, .inl (upd (upd f0 0 n0) 1 n1))), (a0, .inr (6, [.int 6, .int 6, .ref a1, .int 1]))] := hD
  refine lv_aload_n hx hb dX6_setLook_14 rfl (lv_at hl 0 rfl) ?_
  refine lv_iload_n hx hb dX6_setLook_15 rfl (lv_at hl 1 rfl) ?_
  refine lv_iconst (v := 2) hx hb dX6_setLook_16 (by decide) ?_
  refine lv_iload hx hb dX6_setLook_17 (lv_at hl 4 rfl) ?_
  have hPc := hP.sub (ws' := [(a0, .inr (6, [.int 6, .int 6, .ref a1, .int 1])), (a1, .inl (G.2 0, 36, .inl (upd (upd f0 0 n0) 1 n1)))]) [1, 0] rfl
  have hDc := hD.sub (ws' := [(a0, .inr (6, [.int 6, .int 6, .ref a1, .int 1])), (a1, .inl (G.2 0, 36, .inl (upd (upd f0 0 n0) 1 n1)))]) [1, 0] (by decide) rfl
  have hFc := va_free (wc := [(a0, .inr (6, [.int 6, .int 6, .ref a1, .int 1])), (a1, .inl (G.2 0, 36, .inl (upd (upd f0 0 n0) 1 n1)))]) hD hS hA [1, 0] rfl
  refine va_callv (va_runV (As := [.int 0, .int 2, .int n2]) (rest := []) ⟨hx, hb, hml, hown, hts⟩ (kX6_set_59 l G a0 a1 H.size n2 (upd (upd f0 0 n0) 1 n1) ⟨by omega, by omega⟩) (cwV 3 hts gV_X6_29 rfl rfl rfl hv_X6_set ⟨Nat.le_of_ble_eq_true rfl, Nat.le_of_ble_eq_true rfl⟩) (g5_preV hPc hK hDc hN hT hS hFc (ci := 6) (q0 := 0) rfl rfl) rfl rfl hl.1 rfl (lv_room (Nat.le_of_ble_eq_true rfl)) dX6_setLook_19 ⟨Nat.le_of_ble_eq_true rfl, Nat.le_of_ble_eq_true rfl⟩) hS (fun q _ h => hFc q h) hFc (fun u t H1 locs ht hvm hw hB hz1 hk1 hS => ?_)
  obtain ⟨hP1, hD1⟩ := hB
  rw [ht] at hP1
  obtain rfl := hw
  obtain ⟨hP, hD⟩ := va_join (wr := []) (w1 := [(a1, .inl (G.2 0, 36, .inl (upd (upd (upd f0 0 n0) 1 n1) 2 n2))), (a0, .inr (6, [.int 6, .int 6, .ref a1, .int 1]))]) hP hD [1, 0] [] rfl rfl (by decide) (by decide) hk1 hFc hP1 hD1
  generalize H1 = H at hP hS ⊢
  have hP : va_P G.1 vwCl [(a1, .inl (G.2 0, 36, .inl (upd (upd (upd f0 0 n0) 1 n1) 2 n2))), (a0, .inr (6, [.int 6, .int 6, .ref a1, .int 1]))] H := hP
  have hD : va_D A [(a1, .inl (G.2 0, 36, .inl (upd (upd (upd f0 0 n0) 1 n1) 2 n2))), (a0, .inr (6, [.int 6, .int 6, .ref a1, .int 1]))] := hD
  exact W.vret hx hb hr (fun t ht hW => ⟨⟨[(a1, .inl (G.2 0, 36, .inl (upd (upd (upd f0 0 n0) 1 n1) 2 n2))), (a0, .inr (6, [.int 6, .int 6, .ref a1, .int 1]))], rfl, rfl, by rw [ht]; exact hP, hD⟩, hS.F ht⟩) hS.2.2 dX6_setLook_22
set_option maxHeartbeats 4000000 in
set_option maxRecDepth 100000 in
theorem kX6_set_60 (l : Launch) (G : g5_G) (a0 a1 : Nat) (sz : Nat) (n0 : Int32) (f0 : Nat → Int32) (h_n0 : 0 ≤ n0.toInt ∧ n0.toInt ≤ 63) : Met l yX6_set (wsG yX6_set cX6_set 4 none) ({ frames := 1, cells := 0, slots := 0, locals := 21 }) (va_Pc [.ref a0, .int 0, .int 3, .int n0] (g5_P G [(a0, .inr (6, [.int 6, .int 6, .ref a1, .int 1])), (a1, .inl (G.2 0, 36, .inl f0))] sz)) (va_Qv (fun (u : va_W) => ((u = [(a1, .inl (G.2 0, 36, .inl (upd f0 3 n0))), (a0, .inr (6, [.int 6, .int 6, .ref a1, .int 1]))]))) (g5_B G (va_A [(a0, .inr (6, [.int 6, .int 6, .ref a1, .int 1])), (a1, .inl (G.2 0, 36, .inl f0))] sz)) (va_A [(a0, .inr (6, [.int 6, .int 6, .ref a1, .int 1])), (a1, .inl (G.2 0, 36, .inl f0))] sz)) 0 0 (va_A [(a0, .inr (6, [.int 6, .int 6, .ref a1, .int 1])), (a1, .inl (G.2 0, 36, .inl f0))] sz) := by
  refine Met.ofW (cc := cX6_set) (maxL := 4) (ret := none) (by decide) rfl ?_
  intro p e s m args below meth c s₁ B hml hv
  obtain ⟨rfl, hsz, hP, hK, hD0, hN, hT⟩ := hv
  have hx := B.exec
  have hb := B.bytes
  have hr := B.returns
  have hts : ∀ w ∈ tblG, w.before _ s = true := fun w h => atoms_spec (ws := (wsG yX6_set cX6_set 4 none)) B.pre w (List.mem_cons_of_mem _ h)
  have hown : s.vm.findClass RX6 = some m.cls := findClass_of_methodNamed B.named
  have hlocks := B.notSynchronized
  subst hsz
  have hD := hD0.self (sz := s.heap.size)
  generalize hAe : va_A [(a0, .inr (6, [.int 6, .int 6, .ref a1, .int 1])), (a1, .inl (G.2 0, 36, .inl f0))] s.heap.size = A at hD hT ⊢
  have hA : ∀ q : Nat, s.heap.size ≤ q → A q := fun q h => by rw [← hAe]; exact Or.inr h
  have hS : va_S A s.heap s.heap [] := va_S.rf
  have hP : va_P G.1 vwCl [(a0, .inr (6, [.int 6, .int 6, .ref a1, .int 1])), (a1, .inl (G.2 0, 36, .inl f0))] s.heap := hP
  have hl := lv_entry ([.ref a0, .int 0, .int 3, .int n0]) (n := 4) (Nat.le_of_ble_eq_true rfl)
  rw [lg_entry_eq]
  generalize (lg_sl ([.ref a0, .int 0, .int 3, .int n0]) ++ List.replicate (4 - (lg_sl ([.ref a0, .int 0, .int 3, .int n0])).length) Slot.unset).toArray = ls at hl ⊢
  have hl : lv_has ls 4 [(0, .ref a0), (1, .int 0), (2, .int 3), (3, .int n0)] := hl
  refine lv_aload_n hx hb dX6_set_0 rfl (lv_at hl 0 rfl) ?_
  refine lv_iload_n hx hb dX6_set_1 rfl (lv_at hl 1 rfl) ?_
  have hPc := hP.sub (ws' := [(a0, .inr (6, [.int 6, .int 6, .ref a1, .int 1]))]) [0] rfl
  have hDc := hD.sub (ws' := [(a0, .inr (6, [.int 6, .int 6, .ref a1, .int 1]))]) [0] (by decide) rfl
  have hFc := va_free (wc := [(a0, .inr (6, [.int 6, .int 6, .ref a1, .int 1]))]) hD hS hA [0] rfl
  refine va_calli (va_runV (As := [.int 0]) (rest := []) ⟨hx, hb, hml, hown, hts⟩ (kX6_has_8 l G a0 a1 s.heap.size) (cwV 1 hts gV_X6_25 rfl rfl rfl hv_X6_has ⟨Nat.le_of_ble_eq_true rfl, Nat.le_of_ble_eq_true rfl⟩) (g5_preV hPc hK hDc hN hT hS hFc (ci := 6) (q0 := 0) rfl rfl) rfl rfl hl.1 rfl (lv_room (Nat.le_of_ble_eq_true rfl)) dX6_set_2 ⟨Nat.le_of_ble_eq_true rfl, Nat.le_of_ble_eq_true rfl⟩) hS (fun q _ h => hFc q h) hFc (fun r u t H1 locs ht hvm hw hB hz1 hk1 hS => ?_)
  obtain ⟨hP1, hD1⟩ := hB
  rw [ht] at hP1
  obtain ⟨rfl, rfl⟩ := hw
  obtain ⟨hP, hD⟩ := va_join (wr := [(a1, .inl (G.2 0, 36, .inl f0))]) (w1 := [(a0, .inr (6, [.int 6, .int 6, .ref a1, .int 1]))]) hP hD [0] [1] rfl rfl (by decide) (by decide) hk1 hFc hP1 hD1
  generalize H1 = H at hP hS ⊢
  have hP : va_P G.1 vwCl [(a1, .inl (G.2 0, 36, .inl f0)), (a0, .inr (6, [.int 6, .int 6, .ref a1, .int 1]))] H := hP
  have hD : va_D A [(a1, .inl (G.2 0, 36, .inl f0)), (a0, .inr (6, [.int 6, .int 6, .ref a1, .int 1]))] := hD
  refine lv_if_eq (tgt := 34) hx hb dX6_set_5 (by decide) (fun c_1 => ?_) (fun c_1 => ?_)
  ·
    exact absurd c_1 (by decide)
  ·
    refine lv_iload_n hx hb dX6_set_8 rfl (lv_at hl 2 rfl) ?_
    refine lv_if_lt (tgt := 34) hx hb dX6_set_9 (by decide) (fun c_2 => ?_) (fun c_2 => ?_)
    ·
      exact absurd c_2 (by decide)
    ·
      refine lv_iload_n hx hb dX6_set_12 rfl (lv_at hl 2 rfl) ?_
      refine lv_aload_n hx hb dX6_set_13 rfl (lv_at hl 0 rfl) ?_
      refine va_get (D := G.1) (ci := 6) (v := .int 6) (C := RX6) (T := TX6) (N := 4) hx hb hts inG_X6 hown hK hP 1 rfl rfl 1 (by decide) (hts _ fl_X6_18) (fun _ h9 => h9) rfl dX6_set_14 ?_
      refine lv_icmp_ge (tgt := 34) hx hb dX6_set_17 (by decide) (fun c_3 => ?_) (fun c_3 => ?_)
      ·
        exact absurd c_3 (by decide)
      ·
        refine lv_aload_n hx hb dX6_set_20 rfl (lv_at hl 0 rfl) ?_
        refine va_get (D := G.1) (ci := 6) (v := .ref a1) (C := RX6) (T := TX6) (N := 4) hx hb hts inG_X6 hown hK hP 1 rfl rfl 2 (by decide) (hts _ fl_X6_21) (fun _ h9 => h9) rfl dX6_set_21 ?_
        refine lv_iload_n hx hb dX6_set_24 rfl (lv_at hl 1 rfl) ?_
        refine lv_aload_n hx hb dX6_set_25 rfl (lv_at hl 0 rfl) ?_
        refine va_get (D := G.1) (ci := 6) (v := .int 6) (C := RX6) (T := TX6) (N := 4) hx hb hts inG_X6 hown hK hP 1 rfl rfl 1 (by decide) (hts _ fl_X6_18) (fun _ h9 => h9) rfl dX6_set_26 ?_
        refine lv_imul hx hb dX6_set_29 ?_
        refine g5_ti (v := 0) (by decide) ?_
        refine lv_iload_n hx hb dX6_set_30 rfl (lv_at hl 2 rfl) ?_
        refine lv_iadd hx hb dX6_set_31 ?_
        refine g5_ti (v := 3) (by decide) ?_
        refine lv_iload_n hx hb dX6_set_32 rfl (lv_at hl 3 rfl) ?_
        refine va_iast hx hb hK hP hD hS 0 0 rfl rfl (i := 3) (x := n0) (by unfold vp_in; decide) dX6_set_33 (fun H locs hP hD hS => ?_)
        have hP : va_P G.1 vwCl [(a1, .inl (G.2 0, 36, .inl (upd f0 3 n0))), (a0, .inr (6, [.int 6, .int 6, .ref a1, .int 1]))] H := hP
        have hD : va_D A [(a1, .inl (G.2 0, 36, .inl (upd f0 3 n0))), (a0, .inr (6, [.int 6, .int 6, .ref a1, .int 1]))] := hD
        exact W.vret hx hb hr (fun t ht hW => ⟨⟨[(a1, .inl (G.2 0, 36, .inl (upd f0 3 n0))), (a0, .inr (6, [.int 6, .int 6, .ref a1, .int 1]))], rfl, rfl, by rw [ht]; exact hP, hD⟩, hS.F ht⟩) hS.2.2 dX6_set_34
