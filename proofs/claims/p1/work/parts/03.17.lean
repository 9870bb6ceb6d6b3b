set_option maxHeartbeats 4000000 in
set_option maxRecDepth 100000 in
theorem kX6_set_61 (l : Launch) (G : g5_G) (a0 a1 : Nat) (sz : Nat) (n0 : Int32) (f0 : Nat → Int32) (h_n0 : 0 ≤ n0.toInt ∧ n0.toInt ≤ 23) : Met l yX6_set (wsG yX6_set cX6_set 4 none) ({ frames := 1, cells := 0, slots := 0, locals := 21 }) (va_Pc [.ref a0, .int 0, .int 4, .int n0] (g5_P G [(a0, .inr (6, [.int 6, .int 6, .ref a1, .int 1])), (a1, .inl (G.2 0, 36, .inl f0))] sz)) (va_Qv (fun (u : va_W) => ((u = [(a1, .inl (G.2 0, 36, .inl (upd f0 4 n0))), (a0, .inr (6, [.int 6, .int 6, .ref a1, .int 1]))]))) (g5_B G (va_A [(a0, .inr (6, [.int 6, .int 6, .ref a1, .int 1])), (a1, .inl (G.2 0, 36, .inl f0))] sz)) (va_A [(a0, .inr (6, [.int 6, .int 6, .ref a1, .int 1])), (a1, .inl (G.2 0, 36, .inl f0))] sz)) 0 0 (va_A [(a0, .inr (6, [.int 6, .int 6, .ref a1, .int 1])), (a1, .inl (G.2 0, 36, .inl f0))] sz) := by
  refine Met.ofW (cc := cX6_set) (maxL := 4) (ret := none) (by decide) rfl ?_
  intro p e s m args below meth c s₁ B hml hv
  obtain ⟨rfl, hsz, hP, hK, hD0, hN, hT⟩ := hv
  have hx := B.exec
  have hb := B.bytes
  have hr := B.returns
  have hts : ∀ w ∈ tblG, w.before _ s = true := fun w h => atoms_spec (ws := (wsG yX6_set cX6_set 4 none)) B.pre w (List.mem_cons_of_mem _ h)
  have hown : s.vm.findClass RX6 = some m.cls := findClass_of_methodNamed B.named
  have hlocks := B.notSynchronized
  subst hsz
  have hD := hD0.self (sz := s.heap.size)
  generalize hAe : va_A [(a0, .inr (6, [.int 6, .int 6, .ref a1, .int 1])), (a1, .inl (G.2 0, 36, .inl f0))] s.heap.size = A at hD hT ⊢
  have hA : ∀ q : Nat, s.heap.size ≤ q → A q := fun q h => by rw [← hAe]; exact Or.inr h
  have hS : va_S A s.heap s.heap [] := va_S.rf
  have hP : va_P G.1 vwCl [(a0, .inr (6, [.int 6, .int 6, .ref a1, .int 1])), (a1, .inl (G.2 0, 36, .inl f0))] s.heap := hP
  have hl := lv_entry ([.ref a0, .int 0, .int 4, .int n0]) (n := 4) (Nat.le_of_ble_eq_true rfl)
  rw [lg_entry_eq]
  generalize (lg_sl ([.ref a0, .int 0, .int 4, .int n0]) ++ List.replicate (4 - (lg_sl ([.ref a0, .int 0, .int 4, .int n0])).length) Slot.unset).toArray = ls at hl ⊢
  have hl : lv_has ls 4 [(0, .ref a0), (1, .int 0), (2, .int 4), (3, .int n0)] := hl
  refine lv_aload_n hx hb dX6_set_0 rfl (lv_at hl 0 rfl) ?_
  refine lv_iload_n hx hb dX6_set_1 rfl (lv_at hl 1 rfl) ?_
  have hPc := hP.sub (ws' := [(a0, .inr (6, [.int 6, .int 6, .ref a1, .int 1]))]) [0] rfl
  have hDc := hD.sub (ws' := [(a0, .inr (6, [.int 6, .int 6, .ref a1, .int 1]))]) [0] (by decide) rfl
  have hFc := va_free (wc := [(a0, .inr (6, [.int 6, .int 6, .ref a1, .int 1]))]) hD hS hA [0] rfl
  refine va_calli (va_runV (As := [.int 0]) (rest := []) ⟨hx, hb, hml, hown, hts⟩ (kX6_has_8 l G a0 a1 s.heap.size) (cwV 1 hts gV_X6_25 rfl rfl rfl hv_X6_has ⟨Nat.le_of_ble_eq_true rfl, Nat.le_of_ble_eq_true rfl⟩) (g5_preV hPc hK hDc hN hT hS hFc (ci := 6) (q0 := 0) rfl rfl) rfl rfl hl.1 rfl (lv_room (Nat.le_of_ble_eq_true rfl)) dX6_set_2 ⟨Nat.le_of_ble_eq_true rfl, Nat.le_of_ble_eq_true rfl⟩) hS (fun q _ h => hFc q h) hFc (fun r u t H1 locs ht hvm hw hB hz1 hk1 hS => ?_)
  obtain ⟨hP1, hD1⟩ := hB
  rw [ht] at hP1
  obtain ⟨rfl, rfl⟩ := hw
  obtain ⟨hP, hD⟩ := va_join (wr := [(a1, .inl (G.2 0, 36, .inl f0))]) (w1 := [(a0, .inr (6, [.int 6, .int 6, .ref a1, .int 1]))]) hP hD [0] [1] rfl rfl (by decide) (by decide) hk1 hFc hP1 hD1
  generalize H1 = H at hP hS ⊢
  have hP : va_P G.1 vwCl [(a1, .inl (G.2 0, 36, .inl f0)), (a0, .inr (6, [.int 6, .int 6, .ref a1, .int 1]))] H := hP
  have hD : va_D A [(a1, .inl (G.2 0, 36, .inl f0)), (a0, .inr (6, [.int 6, .int 6, .ref a1, .int 1]))] := hD
  refine lv_if_eq (tgt := 34) hx hb dX6_set_5 (by decide) (fun c_1 => ?_) (fun c_1 => ?_)
  ·
    exact absurd c_1 (by decide)
  ·
    refine lv_iload_n hx hb dX6_set_8 rfl (lv_at hl 2 rfl) ?_
    refine lv_if_lt (tgt := 34) hx hb dX6_set_9 (by decide) (fun c_2 => ?_) (fun c_2 => ?_)
    ·
      exact absurd c_2 (by decide)
    ·
      refine lv_iload_n hx hb dX6_set_12 rfl (lv_at hl 2 rfl) ?_
      refine lv_aload_n hx hb dX6_set_13 rfl (lv_at hl 0 rfl) ?_
      refine va_get (D := G.1) (ci := 6) (v := .int 6) (C := RX6) (T := TX6) (N := 4) hx hb hts inG_X6 hown hK hP 1 rfl rfl 1 (by decide) (hts _ fl_X6_18) (fun _ h9 => h9) rfl dX6_set_14 ?_
      refine lv_icmp_ge (tgt := 34) hx hb dX6_set_17 (by decide) (fun c_3 => ?_) (fun c_3 => ?_)
      ·
        exact absurd c_3 (by decide)
      ·
        refine lv_aload_n hx hb dX6_set_20 rfl (lv_at hl 0 rfl) ?_
        refine va_get (D := G.1) (ci := 6) (v := .ref a1) (C := RX6) (T := TX6) (N := 4) hx hb hts inG_X6 hown hK hP 1 rfl rfl 2 (by decide) (hts _ fl_X6_21) (fun _ h9 => h9) rfl dX6_set_21 ?_
        refine lv_iload_n hx hb dX6_set_24 rfl (lv_at hl 1 rfl) ?_
        refine lv_aload_n hx hb dX6_set_25 rfl (lv_at hl 0 rfl) ?_
        refine va_get (D := G.1) (ci := 6) (v := .int 6) (C := RX6) (T := TX6) (N := 4) hx hb hts inG_X6 hown hK hP 1 rfl rfl 1 (by decide) (hts _ fl_X6_18) (fun _ h9 => h9) rfl dX6_set_26 ?_
        refine lv_imul hx hb dX6_set_29 ?_
        refine g5_ti (v := 0) (by decide) ?_
        refine lv_iload_n hx hb dX6_set_30 rfl (lv_at hl 2 rfl) ?_
        refine lv_iadd hx hb dX6_set_31 ?_
        refine g5_ti (v := 4) (by decide) ?_
        refine lv_iload_n hx hb dX6_set_32 rfl (lv_at hl 3 rfl) ?_
        refine va_iast hx hb hK hP hD hS 0 0 rfl rfl (i := 4) (x := n0) (by unfold vp_in; decide) dX6_set_33 (fun H locs hP hD hS => ?_)
        have hP : va_P G.1 vwCl [(a1, .inl (G.2 0, 36, .inl (upd f0 4 n0))), (a0, .inr (6, [.int 6, .int 6, .ref a1, .int 1]))] H := hP
        have hD : va_D A [(a1, .inl (G.2 0, 36, .inl (upd f0 4 n0))), (a0, .inr (6, [.int 6, .int 6, .ref a1, .int 1]))] := hD
        exact W.vret hx hb hr (fun t ht hW => ⟨⟨[(a1, .inl (G.2 0, 36, .inl (upd f0 4 n0))), (a0, .inr (6, [.int 6, .int 6, .ref a1, .int 1]))], rfl, rfl, by rw [ht]; exact hP, hD⟩, hS.F ht⟩) hS.2.2 dX6_set_34
set_option maxHeartbeats 4000000 in
set_option maxRecDepth 100000 in
theorem kX6_set_62 (l : Launch) (G : g5_G) (a0 a1 : Nat) (sz : Nat) (n0 : Int32) (f0 : Nat → Int32) (h_n0 : 0 ≤ n0.toInt ∧ n0.toInt ≤ 0) : Met l yX6_set (wsG yX6_set cX6_set 4 none) ({ frames := 1, cells := 0, slots := 0, locals := 21 }) (va_Pc [.ref a0, .int 0, .int 5, .int n0] (g5_P G [(a0, .inr (6, [.int 6, .int 6, .ref a1, .int 1])), (a1, .inl (G.2 0, 36, .inl f0))] sz)) (va_Qv (fun (u : va_W) => ((u = [(a1, .inl (G.2 0, 36, .inl (upd f0 5 n0))), (a0, .inr (6, [.int 6, .int 6, .ref a1, .int 1]))]))) (g5_B G (va_A [(a0, .inr (6, [.int 6, .int 6, .ref a1, .int 1])), (a1, .inl (G.2 0, 36, .inl f0))] sz)) (va_A [(a0, .inr (6, [.int 6, .int 6, .ref a1, .int 1])), (a1, .inl (G.2 0, 36, .inl f0))] sz)) 0 0 (va_A [(a0, .inr (6, [.int 6, .int 6, .ref a1, .int 1])), (a1, .inl (G.2 0, 36, .inl f0))] sz) := by
  refine Met.ofW (cc := cX6_set) (maxL := 4) (ret := none) (by decide) rfl ?_
  intro p e s m args below meth c s₁ B hml hv
  obtain ⟨rfl, hsz, hP, hK, hD0, hN, hT⟩ := hv
  have hx := B.exec
  have hb := B.bytes
  have hr := B.returns
  have hts : ∀ w ∈ tblG, w.before _ s = true := fun w h => atoms_spec (ws := (wsG yX6_set cX6_set 4 none)) B.pre w (List.mem_cons_of_mem _ h)
  have hown : s.vm.findClass RX6 = some m.cls := findClass_of_methodNamed B.named
  have hlocks := B.notSynchronized
  subst hsz
  have hD := hD0.self (sz := s.heap.size)
  generalize hAe : va_A [(a0, .inr (6, [.int 6, .int 6, .ref a1, .int 1])), (a1, .inl (G.2 0, 36, .inl f0))] s.heap.size = A at hD hT ⊢
  have hA : ∀ q : Nat, s.heap.size ≤ q → A q := fun q h => by rw [← hAe]; exact Or.inr h
  have hS : va_S A s.heap s.heap [] := va_S.rf
  have hP : va_P G.1 vwCl [(a0, .inr (6, [.int 6, .int 6, .ref a1, .int 1])), (a1, .inl (G.2 0, 36, .inl f0))] s.heap := hP
  have hl := lv_entry ([.ref a0, .int 0, .int 5, .int n0]) (n := 4) (Nat.le_of_ble_eq_true rfl)
  rw [lg_entry_eq]
  generalize (lg_sl ([.ref a0, .int 0, .int 5, .int n0]) ++ List.replicate (4 - (lg_sl ([.ref a0, .int 0, .int 5, .int n0])).length) Slot.unset).toArray = ls at hl ⊢
  have hl : lv_has ls 4 [(0, .ref a0), (1, .int 0), (2, .int 5), (3, .int n0)] := hl
  refine lv_aload_n hx hb dX6_set_0 rfl (lv_at hl 0 rfl) ?_
  refine lv_iload_n hx hb dX6_set_1 rfl (lv_at hl 1 rfl) ?_
  have hPc := hP.sub (ws' := [(a0, .inr (6, [.int 6, .int 6, .ref a1, .int 1]))]) [0] rfl
  have hDc := hD.sub (ws' := [(a0, .inr (6, [.int 6, .int 6, .ref a1, .int 1]))]) [0] (by decide) rfl
  have hFc := va_free (wc := [(a0, .inr (6, [.int 6, .int 6, .ref a1, .int 1]))]) hD hS hA [0] rfl
  refine va_calli (va_runV (As := [.int 0]) (rest := []) ⟨hx, hb, hml, hown, hts⟩ (kX6_has_8 l G a0 a1 s.heap.size) (cwV 1 hts gV_X6_25 rfl rfl rfl hv_X6_has ⟨Nat.le_of_ble_eq_true rfl, Nat.le_of_ble_eq_true rfl⟩) (g5_preV hPc hK hDc hN hT hS hFc (ci := 6) (q0 := 0) rfl rfl) rfl rfl hl.1 rfl (lv_room (Nat.le_of_ble_eq_true rfl)) dX6_set_2 ⟨Nat.le_of_ble_eq_true rfl, Nat.le_of_ble_eq_true rfl⟩) hS (fun q _ h => hFc q h) hFc (fun r u t H1 locs ht hvm hw hB hz1 hk1 hS => ?_)
  obtain ⟨hP1, hD1⟩ := hB
  rw [ht] at hP1
  obtain ⟨rfl, rfl⟩ := hw
  obtain ⟨hP, hD⟩ := va_join (wr := [(a1, .inl (G.2 0, 36, .inl f0))]) (w1 := [(a0, .inr (6, [.int 6, .int 6, .ref a1, .int 1]))]) hP hD [0] [1] rfl rfl (by decide) (by decide) hk1 hFc hP1 hD1
  generalize H1 = H at hP hS ⊢
  have hP : va_P G.1 vwCl [(a1, .inl (G.2 0, 36, .inl f0)), (a0, .inr (6, [.int 6, .int 6, .ref a1, .int 1]))] H := hP
  have hD : va_D A [(a1, .inl (G.2 0, 36, .inl f0)), (a0, .inr (6, [.int 6, .int 6, .ref a1, .int 1]))] := hD
  refine lv_if_eq (tgt := 34) hx hb dX6_set_5 (by decide) (fun c_1 => ?_) (fun c_1 => ?_)
  ·
    exact absurd c_1 (by decide)
  ·
    refine lv_iload_n hx hb dX6_set_8 rfl (lv_at hl 2 rfl) ?_
    refine lv_if_lt (tgt := 34) hx hb dX6_set_9 (by decide) (fun c_2 => ?_) (fun c_2 => ?_)
    ·
      exact absurd c_2 (by decide)
    ·
      refine lv_iload_n hx hb dX6_set_12 rfl (lv_at hl 2 rfl) ?_
      refine lv_aload_n hx hb dX6_set_13 rfl (lv_at hl 0 rfl) ?_
      refine va_get (D := G.1) (ci := 6) (v := .int 6) (C := RX6) (T := TX6) (N := 4) hx hb hts inG_X6 hown hK hP 1 rfl rfl 1 (by decide) (hts _ fl_X6_18) (fun _ h9 => h9) rfl dX6_set_14 ?_
      refine lv_icmp_ge (tgt := 34) hx hb dX6_set_17 (by decide) (fun c_3 => ?_) (fun c_3 => ?_)
      ·
        exact absurd c_3 (by decide)
      ·
        refine lv_aload_n hx hb dX6_set_20 rfl (lv_at hl 0 rfl) ?_
        refine va_get (D := G.1) (ci := 6) (v := .ref a1) (C := RX6) (T := TX6) (N := 4) hx hb hts inG_X6 hown hK hP 1 rfl rfl 2 (by decide) (hts _ fl_X6_21) (fun _ h9 => h9) rfl dX6_set_21 ?_
        refine lv_iload_n hx hb dX6_set_24 rfl (lv_at hl 1 rfl) ?_
        refine lv_aload_n hx hb dX6_set_25 rfl (lv_at hl 0 rfl) ?_
        refine va_get (D := G.1) (ci := 6) (v := .int 6) (C := RX6) (T := TX6) (N := 4) hx hb hts inG_X6 hown hK hP 1 rfl rfl 1 (by decide) (hts _ fl_X6_18) (fun _ h9 => h9) rfl dX6_set_26 ?_
        refine lv_imul hx hb dX6_set_29 ?_
        refine g5_ti (v := 0) (by decide) ?_
        refine lv_iload_n hx hb dX6_set_30 rfl (lv_at hl 2 rfl) ?_
        refine lv_iadd hx hb dX6_set_31 ?_
        refine g5_ti (v := 5) (by decide) ?_
        refine lv_iload_n hx hb dX6_set_32 rfl (lv_at hl 3 rfl) ?_
        refine va_iast hx hb hK hP hD hS 0 0 rfl rfl (i := 5) (x := n0) (by unfold vp_in; decide) dX6_set_33 (fun H locs hP hD hS => ?_)
        have hP : va_P G.1 vwCl [(a1, .inl (G.2 0, 36, .inl (upd f0 5 n0))), (a0, .inr (6, [.int 6, .int 6, .ref a1, .int 1]))] H := hP
        have hD : va_D A [(a1, .inl (G.2 0, 36, .inl (upd f0 5 n0))), (a0, .inr (6, [.int 6, .int 6, .ref a1, .int 1]))] := hD
        exact W.vret hx hb hr (fun t ht hW => ⟨⟨[(a1, .inl (G.2 0, 36, .inl (upd f0 5 n0))), (a0, .inr (6, [.int 6, .int 6, .ref a1, .int 1]))], rfl, rfl, by rw [ht]; exact hP, hD⟩, hS.F ht⟩) hS.2.2 dX6_set_34
set_option maxHeartbeats 4000000 in
set_option maxRecDepth 100000 in
theorem kX6_set_63 (l : Launch) (G : g5_G) (a0 a1 : Nat) (sz : Nat) (n0 : Int32) (f0 : Nat → Int32) (h_n0 : 1 ≤ n0.toInt ∧ n0.toInt ≤ 1) : Met l yX6_set (wsG yX6_set cX6_set 4 none) ({ frames := 1, cells := 0, slots := 0, locals := 21 }) (va_Pc [.ref a0, .int 0, .int 5, .int n0] (g5_P G [(a0, .inr (6, [.int 6, .int 6, .ref a1, .int 1])), (a1, .inl (G.2 0, 36, .inl f0))] sz)) (va_Qv (fun (u : va_W) => ((u = [(a1, .inl (G.2 0, 36, .inl (upd f0 5 n0))), (a0, .inr (6, [.int 6, .int 6, .ref a1, .int 1]))]))) (g5_B G (va_A [(a0, .inr (6, [.int 6, .int 6, .ref a1, .int 1])), (a1, .inl (G.2 0, 36, .inl f0))] sz)) (va_A [(a0, .inr (6, [.int 6, .int 6, .ref a1, .int 1])), (a1, .inl (G.2 0, 36, .inl f0))] sz)) 0 0 (va_A [(a0, .inr (6, [.int 6, .int 6, .ref a1, .int 1])), (a1, .inl (G.2 0, 36, .inl f0))] sz) := by
  refine Met.ofW (cc := cX6_set) (maxL := 4) (ret := none) (by decide) rfl ?_
  intro p e s m args below meth c s₁ B hml hv
  obtain ⟨rfl, hsz, hP, hK, hD0, hN, hT⟩ := hv
  have hx := B.exec
  have hb := B.bytes
  have hr := B.returns
  have hts : ∀ w ∈ tblG, w.before _ s = true := fun w h => atoms_spec (ws := (wsG yX6_set cX6_set 4 none)) B.pre w (List.mem_cons_of_mem _ h)
  have hown : s.vm.findClass RX6 = some m.cls := findClass_of_methodNamed B.named
  have hlocks := B.notSynchronized
  subst hsz
  have hD := hD0.self (sz := s.heap.size)
  generalize hAe : va_A [(a0, .inr (6, [.int 6, .int 6, .ref a1, .int 1])), (a1, .inl (G.2 0, 36, .inl f0))] s.heap.size = A at hD hT ⊢
  have hA : ∀ q : Nat, s.heap.size ≤ q → A q := fun q h => by rw [← hAe]; exact Or.inr h
  have hS : va_S A s.heap s.heap [] := va_S.rf
  have hP : va_P G.1 vwCl [(a0, .inr (6, [.int 6, .int 6, .ref a1, .int 1])), (a1, .inl (G.2 0, 36, .inl f0))] s.heap := hP
  have hl := lv_entry ([.ref a0, .int 0, .int 5, .int n0]) (n := 4) (Nat.le_of_ble_eq_true rfl)
  rw [lg_entry_eq]
  generalize (lg_sl ([.ref a0, .int 0, .int 5, .int n0]) ++ List.replicate (4 - (lg_sl ([.ref a0, .int 0, .int 5, .int n0])).length) Slot.unset).toArray = ls at hl ⊢
  have hl : lv_has ls 4 [(0, .ref a0), (1, .int 0), (2, .int 5), (3, .int n0)] := hl
  refine lv_aload_n hx hb dX6_set_0 rfl (lv_at hl 0 rfl) ?_
  refine lv_iload_n hx hb dX6_set_1 rfl (lv_at hl 1 rfl) ?_
  have hPc := hP.sub (ws' := [(a0, .inr (6, [.int 6, .int 6, .ref a1, .int 1]))]) [0] rfl
  have hDc := hD.sub (ws' := [(a0, .inr (6, [.int 6, .int 6, .ref a1, .int 1]))]) [0] (by decide) rfl
  have hFc := va_free (wc := [(a0, .inr (6, [.int 6, .int 6, .ref a1, .int 1]))]) hD hS hA [0] rfl
  refine va_calli (va_runV (As := [.int 0]) (rest := []) ⟨hx, hb, hml, hown, hts⟩ (kX6_has_8 l G a0 a1 s.heap.size) (cwV 1 hts gV_X6_25 rfl rfl rfl hv_X6_has ⟨Nat.le_of_ble_eq_true rfl, Nat.le_of_ble_eq_true rfl⟩) (g5_preV hPc hK hDc hN hT hS hFc (ci := 6) (q0 := 0) rfl rfl) rfl rfl hl.1 rfl (lv_room (Nat.le_of_ble_eq_true rfl)) dX6_set_2 ⟨Nat.le_of_ble_eq_true rfl, Nat.le_of_ble_eq_true rfl⟩) hS (fun q _ h => hFc q h) hFc (fun r u t H1 locs ht hvm hw hB hz1 hk1 hS => ?_)
  obtain ⟨hP1, hD1⟩ := hB
  rw [ht] at hP1
  obtain ⟨rfl, rfl⟩ := hw
  obtain ⟨hP, hD⟩ := va_join (wr := [(a1, .inl (G.2 0, 36, .inl f0))]) (w1 := [(a0, .inr (6, [.int 6, .int 6, .ref a1, .int 1]))]) hP hD [0] [1] rfl rfl (by decide) (by decide) hk1 hFc hP1 hD1
  generalize H1 = H at hP hS ⊢
  have hP : va_P G.1 vwCl [(a1, .inl (G.2 0, 36, .inl f0)), (a0, .inr (6, [.int 6, .int 6, .ref a1, .int 1]))] H := hP
  have hD : va_D A [(a1, .inl (G.2 0, 36, .inl f0)), (a0, .inr (6, [.int 6, .int 6, .ref a1, .int 1]))] := hD
  refine lv_if_eq (tgt := 34) hx hb dX6_set_5 (by decide) (fun c_1 => ?_) (fun c_1 => ?_)
  ·
    exact absurd c_1 (by decide)
  ·
    refine lv_iload_n hx hb dX6_set_8 rfl (lv_at hl 2 rfl) ?_
    refine lv_if_lt (tgt := 34) hx hb dX6_set_9 (by decide) (fun c_2 => ?_) (fun c_2 => ?_)
    ·
      exact absurd c_2 (by decide)
    ·
      refine lv_iload_n hx hb dX6_set_12 rfl (lv_at hl 2 rfl) ?_
      refine lv_aload_n hx hb dX6_set_13 rfl (lv_at hl 0 rfl) ?_
      refine va_get (D := G.1) (ci := 6) (v := .int 6) (C := RX6) (T := TX6) (N := 4) hx hb hts inG_X6 hown hK hP 1 rfl rfl 1 (by decide) (hts _ fl_X6_18) (fun _ h9 => h9) rfl dX6_set_14 ?_
      refine lv_icmp_ge (tgt := 34) hx hb dX6_set_17 (by decide) (fun c_3 => ?_) (fun c_3 => ?_)
      ·
        exact absurd c_3 (by decide)
      ·
        refine lv_aload_n hx hb dX6_set_20 rfl (lv_at hl 0 rfl) ?_
        refine va_get (D := G.1) (ci := 6) (v := .ref a1) (C := RX6) (T := TX6) (N := 4) hx hb hts inG_X6 hown hK hP 1 rfl rfl 2 (by decide) (hts _ fl_X6_21) (fun _ h9 => h9) rfl dX6_set_21 ?_
        refine lv_iload_n hx hb dX6_set_24 rfl (lv_at hl 1 rfl) ?_
        refine lv_aload_n hx hb dX6_set_25 rfl (lv_at hl 0 rfl) ?_
        refine va_get (D := G.1) (ci := 6) (v := .int 6) (C := RX6) (T := TX6) (N := 4) hx hb hts inG_X6 hown hK hP 1 rfl rfl 1 (by decide) (hts _ fl_X6_18) (fun _ h9 => h9) rfl dX6_set_26 ?_
        refine lv_imul hx hb dX6_set_29 ?_
        refine g5_ti (v := 0) (by decide) ?_
        refine lv_iload_n hx hb dX6_set_30 rfl (lv_at hl 2 rfl) ?_
        refine lv_iadd hx hb dX6_set_31 ?_
        refine g5_ti (v := 5) (by decide) ?_
        refine lv_iload_n hx hb dX6_set_32 rfl (lv_at hl 3 rfl) ?_
        refine va_iast hx hb hK hP hD hS 0 0 rfl rfl (i := 5) (x := n0) (by unfold vp_in; decide) dX6_set_33 (fun H locs hP hD hS => ?_)
        have hP : va_P G.1 vwCl [(a1, .inl (G.2 0, 36, .inl (upd f0 5 n0))), (a0, .inr (6, [.int 6, .int 6, .ref a1, .int 1]))] H := hP
        have hD : va_D A [(a1, .inl (G.2 0, 36, .inl (upd f0 5 n0))), (a0, .inr (6, [.int 6, .int 6, .ref a1, .int 1]))] := hD
        exact W.vret hx hb hr (fun t ht hW => ⟨⟨[(a1, .inl (G.2 0, 36, .inl (upd f0 5 n0))), (a0, .inr (6, [.int 6, .int 6, .ref a1, .int 1]))], rfl, rfl, by rw [ht]; exact hP, hD⟩, hS.F ht⟩) hS.2.2 dX6_set_34
theorem dX11_wish_0 : decode cX11_wish 0 = .ok (.iload_n 1, 1) := by decide +kernel
theorem dX11_wish_1 : decode cX11_wish 1 = .ok (.iload_n 2, 1) := by decide +kernel
theorem dX11_wish_2 : decode cX11_wish 2 = .ok (.iload_n 3, 1) := by decide +kernel
theorem dX11_wish_3 : decode cX11_wish 3 = .ok (.invokestatic 207, 3) := by decide +kernel
theorem dX11_wish_6 : decode cX11_wish 6 = .ok (.ifCond .eq 27, 3) := by decide +kernel
theorem dX11_wish_9 : decode cX11_wish 9 = .ok (.iload 4, 2) := by decide +kernel
theorem dX11_wish_11 : decode cX11_wish 11 = .ok (.invokestatic 97, 3) := by decide +kernel
theorem dX11_wish_14 : decode cX11_wish 14 = .ok (.ifCond .eq 19, 3) := by decide +kernel
theorem dX11_wish_17 : decode cX11_wish 17 = .ok (.iload 5, 2) := by decide +kernel
theorem dX11_wish_19 : decode cX11_wish 19 = .ok (.invokestatic 127, 3) := by decide +kernel
theorem dX11_wish_22 : decode cX11_wish 22 = .ok (.ifCond .eq 11, 3) := by decide +kernel
theorem dX11_wish_25 : decode cX11_wish 25 = .ok (.iload 6, 2) := by decide +kernel
theorem dX11_wish_27 : decode cX11_wish 27 = .ok (.invokestatic 101, 3) := by decide +kernel
theorem dX11_wish_30 : decode cX11_wish 30 = .ok (.ifCond .ne 9, 3) := by decide +kernel
theorem dX11_wish_33 : decode cX11_wish 33 = .ok (.aload_n 0, 1) := by decide +kernel
theorem dX11_wish_34 : decode cX11_wish 34 = .ok (.iconst (-1), 1) := by decide +kernel
theorem dX11_wish_35 : decode cX11_wish 35 = .ok (.invokevirtual 104, 3) := by decide +kernel
theorem dX11_wish_38 : decode cX11_wish 38 = .ok (.ireturn, 1) := by decide +kernel
theorem dX11_wish_39 : decode cX11_wish 39 = .ok (.aload_n 0, 1) := by decide +kernel
theorem dX11_wish_40 : decode cX11_wish 40 = .ok (.getfield 12, 3) := by decide +kernel
theorem dX11_wish_43 : decode cX11_wish 43 = .ok (.getfield 309, 3) := by decide +kernel
theorem dX11_wish_46 : decode cX11_wish 46 = .ok (.invokevirtual 140, 3) := by decide +kernel
theorem dX11_wish_49 : decode cX11_wish 49 = .ok (.ifCond .eq 10, 3) := by decide +kernel
theorem dX11_wish_52 : decode cX11_wish 52 = .ok (.aload_n 0, 1) := by decide +kernel
theorem dX11_wish_53 : decode cX11_wish 53 = .ok (.bipush (-5), 2) := by decide +kernel
theorem dX11_wish_55 : decode cX11_wish 55 = .ok (.invokevirtual 104, 3) := by decide +kernel
theorem dX11_wish_58 : decode cX11_wish 58 = .ok (.ireturn, 1) := by decide +kernel
theorem dX11_wish_59 : decode cX11_wish 59 = .ok (.aload_n 0, 1) := by decide +kernel
theorem dX11_wish_60 : decode cX11_wish 60 = .ok (.getfield 12, 3) := by decide +kernel
theorem dX11_wish_63 : decode cX11_wish 63 = .ok (.getfield 309, 3) := by decide +kernel
theorem dX11_wish_66 : decode cX11_wish 66 = .ok (.iconst 0, 1) := by decide +kernel
theorem dX11_wish_67 : decode cX11_wish 67 = .ok (.invokevirtual 146, 3) := by decide +kernel
theorem dX11_wish_70 : decode cX11_wish 70 = .ok (.istore 7, 2) := by decide +kernel
theorem dX11_wish_72 : decode cX11_wish 72 = .ok (.aload_n 0, 1) := by decide +kernel
theorem dX11_wish_73 : decode cX11_wish 73 = .ok (.getfield 12, 3) := by decide +kernel
theorem dX11_wish_76 : decode cX11_wish 76 = .ok (.getfield 309, 3) := by decide +kernel
theorem dX11_wish_79 : decode cX11_wish 79 = .ok (.iload 7, 2) := by decide +kernel
theorem dX11_wish_81 : decode cX11_wish 81 = .ok (.iload_n 1, 1) := by decide +kernel
theorem dX11_wish_82 : decode cX11_wish 82 = .ok (.iload_n 2, 1) := by decide +kernel
theorem dX11_wish_83 : decode cX11_wish 83 = .ok (.iload_n 3, 1) := by decide +kernel
theorem dX11_wish_84 : decode cX11_wish 84 = .ok (.invokevirtual 268, 3) := by decide +kernel
theorem dX11_wish_87 : decode cX11_wish 87 = .ok (.aload_n 0, 1) := by decide +kernel
theorem dX11_wish_88 : decode cX11_wish 88 = .ok (.getfield 12, 3) := by decide +kernel
theorem dX11_wish_91 : decode cX11_wish 91 = .ok (.getfield 309, 3) := by decide +kernel
theorem dX11_wish_94 : decode cX11_wish 94 = .ok (.iload 7, 2) := by decide +kernel
theorem dX11_wish_96 : decode cX11_wish 96 = .ok (.iconst 3, 1) := by decide +kernel
theorem dX11_wish_97 : decode cX11_wish 97 = .ok (.iload 4, 2) := by decide +kernel
theorem dX11_wish_99 : decode cX11_wish 99 = .ok (.invokevirtual 149, 3) := by decide +kernel
theorem dX11_wish_102 : decode cX11_wish 102 = .ok (.aload_n 0, 1) := by decide +kernel
theorem dX11_wish_103 : decode cX11_wish 103 = .ok (.getfield 12, 3) := by decide +kernel
theorem dX11_wish_106 : decode cX11_wish 106 = .ok (.getfield 309, 3) := by decide +kernel
theorem dX11_wish_109 : decode cX11_wish 109 = .ok (.iload 7, 2) := by decide +kernel
theorem dX11_wish_111 : decode cX11_wish 111 = .ok (.iconst 4, 1) := by decide +kernel
theorem dX11_wish_112 : decode cX11_wish 112 = .ok (.iload 5, 2) := by decide +kernel
theorem dX11_wish_114 : decode cX11_wish 114 = .ok (.invokevirtual 149, 3) := by decide +kernel
theorem dX11_wish_117 : decode cX11_wish 117 = .ok (.aload_n 0, 1) := by decide +kernel
theorem dX11_wish_118 : decode cX11_wish 118 = .ok (.getfield 12, 3) := by decide +kernel
theorem dX11_wish_121 : decode cX11_wish 121 = .ok (.getfield 309, 3) := by decide +kernel
theorem dX11_wish_124 : decode cX11_wish 124 = .ok (.iload 7, 2) := by decide +kernel
theorem dX11_wish_126 : decode cX11_wish 126 = .ok (.iconst 5, 1) := by decide +kernel
theorem dX11_wish_127 : decode cX11_wish 127 = .ok (.iload 6, 2) := by decide +kernel
theorem dX11_wish_129 : decode cX11_wish 129 = .ok (.invokevirtual 149, 3) := by decide +kernel
theorem dX11_wish_132 : decode cX11_wish 132 = .ok (.aload_n 0, 1) := by decide +kernel
theorem dX11_wish_133 : decode cX11_wish 133 = .ok (.aload_n 0, 1) := by decide +kernel
theorem dX11_wish_134 : decode cX11_wish 134 = .ok (.getfield 12, 3) := by decide +kernel
theorem dX11_wish_137 : decode cX11_wish 137 = .ok (.getfield 309, 3) := by decide +kernel
theorem dX11_wish_140 : decode cX11_wish 140 = .ok (.getfield 238, 3) := by decide +kernel
theorem dX11_wish_143 : decode cX11_wish 143 = .ok (.invokevirtual 121, 3) := by decide +kernel
theorem dX11_wish_146 : decode cX11_wish 146 = .ok (.ireturn, 1) := by decide +kernel
set_option maxHeartbeats 4000000 in
set_option maxRecDepth 100000 in
theorem kX11_wish (l : Launch) (G : g5_G) (a0 a1 a2 a3 a4 a5 a6 a7 a8 a9 a10 a11 a12 a13 a14 a15 a16 a17 a18 a19 a20 : Nat) (sz : Nat) (n0 : Int32) (n1 : Int32) (n2 : Int32) (n3 : Int32) (n4 : Int32) (n5 : Int32) : Met l yX11_wish (wsG yX11_wish cX11_wish 8 (some .int)) ({ frames := 3, cells := 0, slots := 0, locals := 68 }) (va_Pc [.ref a0, .int n0, .int n1, .int n2, .int n3, .int n4, .int n5] (g5_P G [(a0, .inr (11, [.ref a1, .ref a2, .ref a3, .ref a4, .ref a5, .ref a6, .ref a7, .ref a8, .ref a9, .ref a10, .int 0, .int 0, .int (-1), .ref a11, .int 0, .ref a12, .int 0])), (a12, .inl (G.2 0, 5, .inl (fun _ => 0))), (a1, .inr (1, [.long 0, .int 1000, .int (-1), .int (-1), .int 0, .ref a13, .ref a14, .ref a15, .ref a16, .ref a17, .ref a18, .long 0, .ref a19])), (a18, .inr (6, [.int 6, .int 6, .ref a20, .int 0])), (a20, .inl (G.2 0, 36, .inl (fun _ => 0)))] sz)) (va_Qi (fun (r : Int32) (u : va_W) => ((n0.toInt < 0) ∧ (r = (-1)) ∧ (u = [])) ∨ ((n0.toInt ≥ 0) ∧ (n0.toInt ≥ 64) ∧ (r = (-1)) ∧ (u = [])) ∨ ((n0.toInt ≥ 0) ∧ (n0.toInt < 64) ∧ (n1.toInt < 0) ∧ (r = (-1)) ∧ (u = [])) ∨ ((n0.toInt ≥ 0) ∧ (n0.toInt < 64) ∧ (n1.toInt ≥ 0) ∧ (n1.toInt ≥ 4) ∧ (r = (-1)) ∧ (u = [])) ∨ ((n0.toInt ≥ 0) ∧ (n0.toInt < 64) ∧ (n1.toInt ≥ 0) ∧ (n1.toInt < 4) ∧ (n2.toInt < 0) ∧ (r = (-1)) ∧ (u = [])) ∨ ((n0.toInt ≥ 0) ∧ (n0.toInt < 64) ∧ (n1.toInt ≥ 0) ∧ (n1.toInt < 4) ∧ (n2.toInt ≥ 0) ∧ (n2.toInt ≥ 24) ∧ (r = (-1)) ∧ (u = [])) ∨ ((n0.toInt ≥ 0) ∧ (n0.toInt < 64) ∧ (n1.toInt ≥ 0) ∧ (n1.toInt < 4) ∧ (n2.toInt ≥ 0) ∧ (n2.toInt < 24) ∧ (n3.toInt < 0) ∧ (r = (-1)) ∧ (u = [])) ∨ ((n0.toInt ≥ 0) ∧ (n0.toInt < 64) ∧ (n1.toInt ≥ 0) ∧ (n1.toInt < 4) ∧ (n2.toInt ≥ 0) ∧ (n2.toInt < 24) ∧ (n3.toInt ≥ 0) ∧ (n3.toInt ≥ 64) ∧ (r = (-1)) ∧ (u = [])) ∨ ((n0.toInt ≥ 0) ∧ (n0.toInt < 64) ∧ (n1.toInt ≥ 0) ∧ (n1.toInt < 4) ∧ (n2.toInt ≥ 0) ∧ (n2.toInt < 24) ∧ (n3.toInt ≥ 0) ∧ (n3.toInt < 64) ∧ (n4.toInt < 0) ∧ (r = (-1)) ∧ (u = [])) ∨ ((n0.toInt ≥ 0) ∧ (n0.toInt < 64) ∧ (n1.toInt ≥ 0) ∧ (n1.toInt < 4) ∧ (n2.toInt ≥ 0) ∧ (n2.toInt < 24) ∧ (n3.toInt ≥ 0) ∧ (n3.toInt < 64) ∧ (n4.toInt ≥ 0) ∧ (n4.toInt ≥ 24) ∧ (r = (-1)) ∧ (u = [])) ∨ ((n0.toInt ≥ 0) ∧ (n0.toInt < 64) ∧ (n1.toInt ≥ 0) ∧ (n1.toInt < 4) ∧ (n2.toInt ≥ 0) ∧ (n2.toInt < 24) ∧ (n3.toInt ≥ 0) ∧ (n3.toInt < 64) ∧ (n4.toInt ≥ 0) ∧ (n4.toInt < 24) ∧ (n5.toInt = 0) ∧ (r = 1) ∧ (u = [])) ∨ ((n0.toInt ≥ 0) ∧ (n0.toInt < 64) ∧ (n1.toInt ≥ 0) ∧ (n1.toInt < 4) ∧ (n2.toInt ≥ 0) ∧ (n2.toInt < 24) ∧ (n3.toInt ≥ 0) ∧ (n3.toInt < 64) ∧ (n4.toInt ≥ 0) ∧ (n4.toInt < 24) ∧ (n5.toInt ≠ 0) ∧ (n5.toInt ≠ 1) ∧ (r = (-1)) ∧ (u = [])) ∨ ((n0.toInt ≥ 0) ∧ (n0.toInt < 64) ∧ (n1.toInt ≥ 0) ∧ (n1.toInt < 4) ∧ (n2.toInt ≥ 0) ∧ (n2.toInt < 24) ∧ (n3.toInt ≥ 0) ∧ (n3.toInt < 64) ∧ (n4.toInt ≥ 0) ∧ (n4.toInt < 24) ∧ (n5.toInt ≠ 0) ∧ (n5.toInt = 1) ∧ (r = 1) ∧ (u = []))) (g5_B G (va_A [(a0, .inr (11, [.ref a1, .ref a2, .ref a3, .ref a4, .ref a5, .ref a6, .ref a7, .ref a8, .ref a9, .ref a10, .int 0, .int 0, .int (-1), .ref a11, .int 0, .ref a12, .int 0])), (a12, .inl (G.2 0, 5, .inl (fun _ => 0))), (a1, .inr (1, [.long 0, .int 1000, .int (-1), .int (-1), .int 0, .ref a13, .ref a14, .ref a15, .ref a16, .ref a17, .ref a18, .long 0, .ref a19])), (a18, .inr (6, [.int 6, .int 6, .ref a20, .int 0])), (a20, .inl (G.2 0, 36, .inl (fun _ => 0)))] sz)) (va_A [(a0, .inr (11, [.ref a1, .ref a2, .ref a3, .ref a4, .ref a5, .ref a6, .ref a7, .ref a8, .ref a9, .ref a10, .int 0, .int 0, .int (-1), .ref a11, .int 0, .ref a12, .int 0])), (a12, .inl (G.2 0, 5, .inl (fun _ => 0))), (a1, .inr (1, [.long 0, .int 1000, .int (-1), .int (-1), .int 0, .ref a13, .ref a14, .ref a15, .ref a16, .ref a17, .ref a18, .long 0, .ref a19])), (a18, .inr (6, [.int 6, .int 6, .ref a20, .int 0])), (a20, .inl (G.2 0, 36, .inl (fun _ => 0)))] sz)) 0 0 (va_A [(a0, .inr (11, [.ref a1, .ref a2, .ref a3, .ref a4, .ref a5, .ref a6, .ref a7, .ref a8, .ref a9, .ref a10, .int 0, .int 0, .int (-1), .ref a11, .int 0, .ref a12, .int 0])), (a12, .inl (G.2 0, 5, .inl (fun _ => 0))), (a1, .inr (1, [.long 0, .int 1000, .int (-1), .int (-1), .int 0, .ref a13, .ref a14, .ref a15, .ref a16, .ref a17, .ref a18, .long 0, .ref a19])), (a18, .inr (6, [.int 6, .int 6, .ref a20, .int 0])), (a20, .inl (G.2 0, 36, .inl (fun _ => 0)))] sz) := by
  refine Met.ofW (cc := cX11_wish) (maxL := 8) (ret := (some .int)) (by decide) rfl ?_
  intro p e s m args below meth c s₁ B hml hv
  obtain ⟨rfl, hsz, hP, hK, hD0, hN, hT⟩ := hv
  have hx := B.exec
  have hb := B.bytes
  have hr := B.returns
  have hts : ∀ w ∈ tblG, w.before _ s = true := fun w h => atoms_spec (ws := (wsG yX11_wish cX11_wish 8 (some .int))) B.pre w (List.mem_cons_of_mem _ h)
  have hown : s.vm.findClass RX11 = some m.cls := findClass_of_methodNamed B.named
  have hlocks := B.notSynchronized
  subst hsz
  have hD := hD0.self (sz := s.heap.size)
  generalize hAe : va_A [(a0, .inr (11, [.ref a1, .ref a2, .ref a3, .ref a4, .ref a5, .ref a6, .ref a7, .ref a8, .ref a9, .ref a10, .int 0, .int 0, .int (-1), .ref a11, .int 0, .ref a12, .int 0])), (a12, .inl (G.2 0, 5, .inl (fun _ => 0))), (a1, .inr (1, [.long 0, .int 1000, .int (-1), .int (-1), .int 0, .ref a13, .ref a14, .ref a15, .ref a16, .ref a17, .ref a18, .long 0, .ref a19])), (a18, .inr (6, [.int 6, .int 6, .ref a20, .int 0])), (a20, .inl (G.2 0, 36, .inl (fun _ => 0)))] s.heap.size = A at hD hT ⊢
  have hA : ∀ q : Nat, s.heap.size ≤ q → A q := fun q h => by rw [← hAe]; exact Or.inr h
  have hS : va_S A s.heap s.heap [] := va_S.rf
  have hP : va_P G.1 vwCl [(a0, .inr (11, [.ref a1, .ref a2, .ref a3, .ref a4, .ref a5, .ref a6, .ref a7, .ref a8, .ref a9, .ref a10, .int 0, .int 0, .int (-1), .ref a11, .int 0, .ref a12, .int 0])), (a12, .inl (G.2 0, 5, .inl (fun _ => 0))), (a1, .inr (1, [.long 0, .int 1000, .int (-1), .int (-1), .int 0, .ref a13, .ref a14, .ref a15, .ref a16, .ref a17, .ref a18, .long 0, .ref a19])), (a18, .inr (6, [.int 6, .int 6, .ref a20, .int 0])), (a20, .inl (G.2 0, 36, .inl (fun _ => 0)))] s.heap := hP
  have hl := lv_entry ([.ref a0, .int n0, .int n1, .int n2, .int n3, .int n4, .int n5]) (n := 8) (Nat.le_of_ble_eq_true rfl)
  rw [lg_entry_eq]
  generalize (lg_sl ([.ref a0, .int n0, .int n1, .int n2, .int n3, .int n4, .int n5]) ++ List.replicate (8 - (lg_sl ([.ref a0, .int n0, .int n1, .int n2, .int n3, .int n4, .int n5])).length) Slot.unset).toArray = ls at hl ⊢
  have hl : lv_has ls 8 [(0, .ref a0), (1, .int n0), (2, .int n1), (3, .int n2), (4, .int n3), (5, .int n4), (6, .int n5)] := hl
  refine lv_iload_n hx hb dX11_wish_0 rfl (lv_at hl 1 rfl) ?_
  refine lv_iload_n hx hb dX11_wish_1 rfl (lv_at hl 2 rfl) ?_
  refine lv_iload_n hx hb dX11_wish_2 rfl (lv_at hl 3 rfl) ?_
  have hPc := hP.sub (ws' := []) [] rfl
  have hDc := hD.sub (ws' := []) [] (by decide) rfl
  have hFc := va_free (wc := []) hD hS hA [] rfl
  refine va_calli (va_runS (As := [.int n0, .int n1, .int n2]) (rest := []) ⟨hx, hb, hml, hown, hts⟩ (kX11_isLook_5 l G s.heap.size n0 n1 n2) (va_cwS 3 hts gS_X11_207 rfl rfl rfl hs_X11_isLook ⟨Nat.le_of_ble_eq_true rfl, Nat.le_of_ble_eq_true rfl⟩) (g5_preS hPc hK hDc hN hT hS hFc) rfl rfl hl.1 rfl (lv_room (Nat.le_of_ble_eq_true rfl)) dX11_wish_3 ⟨Nat.le_of_ble_eq_true rfl, Nat.le_of_ble_eq_true rfl⟩) hS (fun q _ h => hFc q h) hFc (fun r u t H1 locs ht hvm hw hB hz1 hk1 hS => ?_)
  obtain ⟨hP1, hD1⟩ := hB
  rw [ht] at hP1
  rcases hw with ⟨i_1, rfl, rfl⟩ | ⟨i_2, i_3, rfl, rfl⟩ | ⟨i_4, i_5, i_6, rfl, rfl⟩ | ⟨i_7, i_8, i_9, i_10, rfl, rfl⟩ | ⟨i_11, i_12, i_13, i_14, i_15, rfl, rfl⟩ | ⟨i_16, i_17, i_18, i_19, i_20, i_21, rfl, rfl⟩ | ⟨i_22, i_23, i_24, i_25, i_26, i_27, rfl, rfl⟩
  ·
    have hP := g5_same hP hk1
    generalize H1 = H at hP hS ⊢
    refine lv_if_eq (tgt := 33) hx hb dX11_wish_6 (by decide) (fun c_28 => ?_) (fun c_28 => ?_)
    ·
      refine lv_aload_n hx hb dX11_wish_33 rfl (lv_at hl 0 rfl) ?_
      refine lv_iconst (v := (-1)) hx hb dX11_wish_34 (by decide) ?_
      have hPc := hP.sub (ws' := [(a0, .inr (11, [.ref a1, .ref a2, .ref a3, .ref a4, .ref a5, .ref a6, .ref a7, .ref a8, .ref a9, .ref a10, .int 0, .int 0, .int (-1), .ref a11, .int 0, .ref a12, .int 0])), (a12, .inl (G.2 0, 5, .inl (fun _ => 0)))]) [0, 1] rfl
      have hDc := hD.sub (ws' := [(a0, .inr (11, [.ref a1, .ref a2, .ref a3, .ref a4, .ref a5, .ref a6, .ref a7, .ref a8, .ref a9, .ref a10, .int 0, .int 0, .int (-1), .ref a11, .int 0, .ref a12, .int 0])), (a12, .inl (G.2 0, 5, .inl (fun _ => 0)))]) [0, 1] (by decide) rfl
      have hFc := va_free (wc := [(a0, .inr (11, [.ref a1, .ref a2, .ref a3, .ref a4, .ref a5, .ref a6, .ref a7, .ref a8, .ref a9, .ref a10, .int 0, .int 0, .int (-1), .ref a11, .int 0, .ref a12, .int 0])), (a12, .inl (G.2 0, 5, .inl (fun _ => 0)))]) hD hS hA [0, 1] rfl
      refine va_calli (va_runV (As := [.int (-1)]) (rest := []) ⟨hx, hb, hml, hown, hts⟩ (kX11_refuse l G a0 a1 a2 a3 a4 a5 a6 a7 a8 a9 a10 a11 a12 H.size) (cwV 1 hts gV_X11_104 rfl rfl rfl hv_X11_refuse ⟨Nat.le_of_ble_eq_true rfl, Nat.le_of_ble_eq_true rfl⟩) (g5_preV hPc hK hDc hN hT hS hFc (ci := 11) (q0 := 0) rfl rfl) rfl rfl hl.1 rfl (lv_room (Nat.le_of_ble_eq_true rfl)) dX11_wish_35 ⟨Nat.le_of_ble_eq_true rfl, Nat.le_of_ble_eq_true rfl⟩) hS (fun q _ h => hFc q h) hFc (fun r u t H1 locs ht hvm hw hB hz1 hk1 hS => ?_)
      obtain ⟨hP1, hD1⟩ := hB
      rw [ht] at hP1
      obtain ⟨rfl, rfl⟩ := hw
      obtain ⟨hP, hD⟩ := va_join (wr := [(a1, .inr (1, [.long 0, .int 1000, .int (-1), .int (-1), .int 0, .ref a13, .ref a14, .ref a15, .ref a16, .ref a17, .ref a18, .long 0, .ref a19])), (a18, .inr (6, [.int 6, .int 6, .ref a20, .int 0])), (a20, .inl (G.2 0, 36, .inl (fun _ => 0)))]) (w1 := [(a0, .inr (11, [.ref a1, .ref a2, .ref a3, .ref a4, .ref a5, .ref a6, .ref a7, .ref a8, .ref a9, .ref a10, .int 0, .int 0, .int (-1), .ref a11, .int 0, .ref a12, .int (-1)])), (a12, .inl (G.2 0, 5, .inl (upd (fun _ => 0) 0 1)))]) hP hD [0, 1] [2, 3, 4] rfl rfl (by decide) (by decide) hk1 hFc hP1 hD1
      generalize H1 = H at hP hS ⊢
      have hP : va_P G.1 vwCl [(a1, .inr (1, [.long 0, .int 1000, .int (-1), .int (-1), .int 0, .ref a13, .ref a14, .ref a15, .ref a16, .ref a17, .ref a18, .long 0, .ref a19])), (a18, .inr (6, [.int 6, .int 6, .ref a20, .int 0])), (a20, .inl (G.2 0, 36, .inl (fun _ => 0))), (a0, .inr (11, [.ref a1, .ref a2, .ref a3, .ref a4, .ref a5, .ref a6, .ref a7, .ref a8, .ref a9, .ref a10, .int 0, .int 0, .int (-1), .ref a11, .int 0, .ref a12, .int (-1)])), (a12, .inl (G.2 0, 5, .inl (upd (fun _ => 0) 0 1)))] H := hP
      have hD : va_D A [(a1, .inr (1, [.long 0, .int 1000, .int (-1), .int (-1), .int 0, .ref a13, .ref a14, .ref a15, .ref a16, .ref a17, .ref a18, .long 0, .ref a19])), (a18, .inr (6, [.int 6, .int 6, .ref a20, .int 0])), (a20, .inl (G.2 0, 36, .inl (fun _ => 0))), (a0, .inr (11, [.ref a1, .ref a2, .ref a3, .ref a4, .ref a5, .ref a6, .ref a7, .ref a8, .ref a9, .ref a10, .int 0, .int 0, .int (-1), .ref a11, .int 0, .ref a12, .int (-1)])), (a12, .inl (G.2 0, 5, .inl (upd (fun _ => 0) 0 1)))] := hD
      have hP := hP.sub (ws' := []) [] rfl
      have hD := hD.sub (ws' := []) [] (by decide) rfl
      exact W.iret (v := (-1)) hx hb hr (fun t ht hW => ⟨⟨(-1), [], rfl, Or.inl (⟨i_1, rfl, rfl⟩), by rw [ht]; exact hP, hD⟩, hS.F ht⟩) hS.2.2 dX11_wish_38
    ·
      exact absurd c_28 (by decide)
  ·
    have hP := g5_same hP hk1
    generalize H1 = H at hP hS ⊢
    refine lv_if_eq (tgt := 33) hx hb dX11_wish_6 (by decide) (fun c_29 => ?_) (fun c_29 => ?_)
    ·
      refine lv_aload_n hx hb dX11_wish_33 rfl (lv_at hl 0 rfl) ?_
      refine lv_iconst (v := (-1)) hx hb dX11_wish_34 (by decide) ?_
      have hPc := hP.sub (ws' := [(a0, .inr (11, [.ref a1, .ref a2, .ref a3, .ref a4, .ref a5, .ref a6, .ref a7, .ref a8, .ref a9, .ref a10, .int 0, .int 0, .int (-1), .ref a11, .int 0, .ref a12, .int 0])), (a12, .inl (G.2 0, 5, .inl (fun _ => 0)))]) [0, 1] rfl
      have hDc := hD.sub (ws' := [(a0, .inr (11, [.ref a1, .ref a2, .ref a3, .ref a4, .ref a5, .ref a6, .ref a7, .ref a8, .ref a9, .ref a10, .int 0, .int 0, .int (-1), .ref a11, .int 0, .ref a12, .int 0])), (a12, .inl (G.2 0, 5, .inl (fun _ => 0)))]) [0, 1] (by decide) rfl
      have hFc := va_free (wc := [(a0, .inr (11, [.ref a1, .ref a2, .ref a3, .ref a4, .ref a5, .ref a6, .ref a7, .ref a8, .ref a9, .ref a10, .int 0, .int 0, .int (-1), .ref a11, .int 0, .ref a12, .int 0])), (a12, .inl (G.2 0, 5, .inl (fun _ => 0)))]) hD hS hA [0, 1] rfl
      refine va_calli (va_runV (As := [.int (-1)]) (rest := []) ⟨hx, hb, hml, hown, hts⟩ (kX11_refuse l G a0 a1 a2 a3 a4 a5 a6 a7 a8 a9 a10 a11 a12 H.size) (cwV 1 hts gV_X11_104 rfl rfl rfl hv_X11_refuse ⟨Nat.le_of_ble_eq_true rfl, Nat.le_of_ble_eq_true rfl⟩) (g5_preV hPc hK hDc hN hT hS hFc (ci := 11) (q0 := 0) rfl rfl) rfl rfl hl.1 rfl (lv_room (Nat.le_of_ble_eq_true rfl)) dX11_wish_35 ⟨Nat.le_of_ble_eq_true rfl, Nat.le_of_ble_eq_true rfl⟩) hS (fun q _ h => hFc q h) hFc (fun r u t H1 locs ht hvm hw hB hz1 hk1 hS => ?_)
      obtain ⟨hP1, hD1⟩ := hB
      rw [ht] at hP1
      obtain ⟨rfl, rfl⟩ := hw
      obtain ⟨hP, hD⟩ := va_join (wr := [(a1, .inr (1, [.long 0, .int 1000, .int (-1), .int (-1), .int 0, .ref a13, .ref a14, .ref a15, .ref a16, .ref a17, .ref a18, .long 0, .ref a19])), (a18, .inr (6, [.int 6, .int 6, .ref a20, .int 0])), (a20, .inl (G.2 0, 36, .inl (fun _ => 0)))]) (w1 := [(a0, .inr (11, [.ref a1, .ref a2, .ref a3, .ref a4, .ref a5, .ref a6, .ref a7, .ref a8, .ref a9, .ref a10, .int 0, .int 0, .int (-1), .ref a11, .int 0, .ref a12, .int (-1)])), (a12, .inl (G.2 0, 5, .inl (upd (fun _ => 0) 0 1)))]) hP hD [0, 1] [2, 3, 4] rfl rfl (by decide) (by decide) hk1 hFc hP1 hD1
      generalize H1 = H at hP hS ⊢
      have hP : va_P G.1 vwCl [(a1, .inr (1, [.long 0, .int 1000, .int (-1), .int (-1), .int 0, .ref a13, .ref a14, .ref a15, .ref a16, .ref a17, .ref a18, .long 0, .ref a19])), (a18, .inr (6, [.int 6, .int 6, .ref a20, .int 0])), (a20, .inl (G.2 0, 36, .inl (fun _ => 0))), (a0, .inr (11, [.ref a1, .ref a2, .ref a3, .ref a4, .ref a5, .ref a6, .ref a7, .ref a8, .ref a9, .ref a10, .int 0, .int 0, .int (-1), .ref a11, .int 0, .ref a12, .int (-1)])), (a12, .inl (G.2 0, 5, .inl (upd (fun _ => 0) 0 1)))] H := hP
      have hD : va_D A [(a1, .inr (1, [.long 0, .int 1000, .int (-1), .int (-1), .int 0, .ref a13, .ref a14, .ref a15, .ref a16, .ref a17, .ref a18, .long 0, .ref a19])), (a18, .inr (6, [.int 6, .int 6, .ref a20, .int 0])), (a20, .inl (G.2 0, 36, .inl (fun _ => 0))), (a0, .inr (11, [.ref a1, .ref a2, .ref a3, .ref a4, .ref a5, .ref a6, .ref a7, .ref a8, .ref a9, .ref a10, .int 0, .int 0, .int (-1), .ref a11, .int 0, .ref a12, .int (-1)])), (a12, .inl (G.2 0, 5, .inl (upd (fun _ => 0) 0 1)))] := hD
      have hP := hP.sub (ws' := []) [] rfl
      have hD := hD.sub (ws' := []) [] (by decide) rfl
      exact W.iret (v := (-1)) hx hb hr (fun t ht hW => ⟨⟨(-1), [], rfl, Or.inr (Or.inl (⟨i_2, i_3, rfl, rfl⟩)), by rw [ht]; exact hP, hD⟩, hS.F ht⟩) hS.2.2 dX11_wish_38
    ·
      exact absurd c_29 (by decide)
  ·
    have hP := g5_same hP hk1
    generalize H1 = H at hP hS ⊢
    refine lv_if_eq (tgt := 33) hx hb dX11_wish_6 (by decide) (fun c_30 => ?_) (fun c_30 => ?_)
    ·
      refine lv_aload_n hx hb dX11_wish_33 rfl (lv_at hl 0 rfl) ?_
      refine lv_iconst (v := (-1)) hx hb dX11_wish_34 (by decide) ?_
      have hPc := hP.sub (ws' := [(a0, .inr (11, [.ref a1, .ref a2, .ref a3, .ref a4, .ref a5, .ref a6, .ref a7, .ref a8, .ref a9, .ref a10, .int 0, .int 0, .int (-1), .ref a11, .int 0, .ref a12, .int 0])), (a12, .inl (G.2 0, 5, .inl (fun _ => 0)))]) [0, 1] rfl
      have hDc := hD.sub (ws' := [(a0, .inr (11, [.ref a1, .ref a2, .ref a3, .ref a4, .ref a5, .ref a6, .ref a7, .ref a8, .ref a9, .ref a10, .int 0, .int 0, .int (-1), .ref a11, .int 0, .ref a12, .int 0])), (a12, .inl (G.2 0, 5, .inl (fun _ => 0)))]) [0, 1] (by decide) rfl
      have hFc := va_free (wc := [(a0, .inr (11, [.ref a1, .ref a2, .ref a3, .ref a4, .ref a5, .ref a6, .ref a7, .ref a8, .ref a9, .ref a10, .int 0, .int 0, .int (-1), .ref a11, .int 0, .ref a12, .int 0])), (a12, .inl (G.2 0, 5, .inl (fun _ => 0)))]) hD hS hA [0, 1] rfl
      refine va_calli (va_runV (As := [.int (-1)]) (rest := []) ⟨hx, hb, hml, hown, hts⟩ (kX11_refuse l G a0 a1 a2 a3 a4 a5 a6 a7 a8 a9 a10 a11 a12 H.size) (cwV 1 hts gV_X11_104 rfl rfl rfl hv_X11_refuse ⟨Nat.le_of_ble_eq_true rfl, Nat.le_of_ble_eq_true rfl⟩) (g5_preV hPc hK hDc hN hT hS hFc (ci := 11) (q0 := 0) rfl rfl) rfl rfl hl.1 rfl (lv_room (Nat.le_of_ble_eq_true rfl)) dX11_wish_35 ⟨Nat.le_of_ble_eq_true rfl, Nat.le_of_ble_eq_true rfl⟩) hS (fun q _ h => hFc q h) hFc (fun r u t H1 locs ht hvm hw hB hz1 hk1 hS => ?_)
      obtain ⟨hP1, hD1⟩ := hB
      rw [ht] at hP1
      obtain ⟨rfl, rfl⟩ := hw
      obtain ⟨hP, hD⟩ := va_join (wr := [(a1, .inr (1, [.long 0, .int 1000, .int (-1), .int (-1), .int 0, .ref a13, .ref a14, .ref a15, .ref a16, .ref a17, .ref a18, .long 0, .ref a19])), (a18, .inr (6, [.int 6, .int 6, .ref a20, .int 0])), (a20, .inl (G.2 0, 36, .inl (fun _ => 0)))]) (w1 := [(a0, .inr (11, [.ref a1, .ref a2, .ref a3, .ref a4, .ref a5, .ref a6, .ref a7, .ref a8, .ref a9, .ref a10, .int 0, .int 0, .int (-1), .ref a11, .int 0, .ref a12, .int (-1)])), (a12, .inl (G.2 0, 5, .inl (upd (fun _ => 0) 0 1)))]) hP hD [0, 1] [2, 3, 4] rfl rfl (by decide) (by decide) hk1 hFc hP1 hD1
      generalize H1 = H at hP hS ⊢
      have hP : va_P G.1 vwCl [(a1, .inr (1, [.long 0, .int 1000, .int (-1), .int (-1), .int 0, .ref a13, .ref a14, .ref a15, .ref a16, .ref a17, .ref a18, .long 0, .ref a19])), (a18, .inr (6, [.int 6, .int 6, .ref a20, .int 0])), (a20, .inl (G.2 0, 36, .inl (fun _ => 0))), (a0, .inr (11, [.ref a1, .ref a2, .ref a3, .ref a4, .ref a5, .ref a6, .ref a7, .ref a8, .ref a9, .ref a10, .int 0, .int 0, .int (-1), .ref a11, .int 0, .ref a12, .int (-1)])), (a12, .inl (G.2 0, 5, .inl (upd (fun _ => 0) 0 1)))] H := hP
      have hD : va_D A [(a1, .inr (1, [.long 0, .int 1000, .int (-1), .int (-1), .int 0, .ref a13, .ref a14, .ref a15, .ref a16, .ref a17, .ref a18, .long 0, .ref a19])), (a18, .inr (6, [.int 6, .int 6, .ref a20, .int 0])), (a20, .inl (G.2 0, 36, .inl (fun _ => 0))), (a0, .inr (11, [.ref a1, .ref a2, .ref a3, .ref a4, .ref a5, .ref a6, .ref a7, .ref a8, .ref a9, .ref a10, .int 0, .int 0, .int (-1), .ref a11, .int 0, .ref a12, .int (-1)])), (a12, .inl (G.2 0, 5, .inl (upd (fun _ => 0) 0 1)))] := hD
      have hP := hP.sub (ws' := []) [] rfl
      have hD := hD.sub (ws' := []) [] (by decide) rfl
      exact W.iret (v := (-1)) hx hb hr (fun t ht hW => ⟨⟨(-1), [], rfl, Or.inr (Or.inr (Or.inl (⟨i_4, i_5, i_6, rfl, rfl⟩))), by rw [ht]; exact hP, hD⟩, hS.F ht⟩) hS.2.2 dX11_wish_38
    ·
      exact absurd c_30 (by decide)
  ·
    have hP := g5_same hP hk1
    generalize H1 = H at hP hS ⊢
    refine lv_if_eq (tgt := 33) hx hb dX11_wish_6 (by decide) (fun c_31 => ?_) (fun c_31 => ?_)
    ·
      refine lv_aload_n hx hb dX11_wish_33 rfl (lv_at hl 0 rfl) ?_
      refine lv_iconst (v := (-1)) hx hb dX11_wish_34 (by decide) ?_
      have hPc := hP.sub (ws' := [(a0, .inr (11, [.ref a1, .ref a2, .ref a3, .ref a4, .ref a5, .ref a6, .ref a7, .ref a8, .ref a9, .ref a10, .int 0, .int 0, .int (-1), .ref a11, .int 0, .ref a12, .int 0])), (a12, .inl (G.2 0, 5, .inl (fun _ => 0)))]) [0, 1] rfl
      have hDc := hD.sub (ws' := [(a0, .inr (11, [.ref a1, .ref a2, .ref a3, .ref a4, .ref a5, .ref a6, .ref a7, .ref a8, .ref a9, .ref a10, .int 0, .int 0, .int (-1), .ref a11, .int 0, .ref a12, .int 0])), (a12, .inl (G.2 0, 5, .inl (fun _ => 0)))]) [0, 1] (by decide) rfl
      have hFc := va_free (wc := [(a0, .inr (11, [.ref a1, .ref a2, .ref a3, .ref a4, .ref a5, .ref a6, .ref a7, .ref a8, .ref a9, .ref a10, .int 0, .int 0, .int (-1), .ref a11, .int 0, .ref a12, .int 0])), (a12, .inl (G.2 0, 5, .inl (fun _ => 0)))]) hD hS hA [0, 1] rfl
      refine va_calli (va_runV (As := [.int (-1)]) (rest := []) ⟨hx, hb, hml, hown, hts⟩ (kX11_refuse l G a0 a1 a2 a3 a4 a5 a6 a7 a8 a9 a10 a11 a12 H.size) (cwV 1 hts gV_X11_104 rfl rfl rfl hv_X11_refuse ⟨Nat.le_of_ble_eq_true rfl, Nat.le_of_ble_eq_true rfl⟩) (g5_preV hPc hK hDc hN hT hS hFc (ci := 11) (q0 := 0) rfl rfl) rfl rfl hl.1 rfl (lv_room (Nat.le_of_ble_eq_true rfl)) dX11_wish_35 ⟨Nat.le_of_ble_eq_true rfl, Nat.le_of_ble_eq_true rfl⟩) hS (fun q _ h => hFc q h) hFc (fun r u t H1 locs ht hvm hw hB hz1 hk1 hS => ?_)
      obtain ⟨hP1, hD1⟩ := hB
      rw [ht] at hP1
      obtain ⟨rfl, rfl⟩ := hw
      obtain ⟨hP, hD⟩ := va_join (wr := [(a1, .inr (1, [.long 0, .int 1000, .int (-1), .int (-1), .int 0, .ref a13, .ref a14, .ref a15, .ref a16, .ref a17, .ref a18, .long 0, .ref a19])), (a18, .inr (6, [.int 6, .int 6, .ref a20, .int 0])), (a20, .inl (G.2 0, 36, .inl (fun _ => 0)))]) (w1 := [(a0, .inr (11, [.ref a1, .ref a2, .ref a3, .ref a4, .ref a5, .ref a6, .ref a7, .ref a8, .ref a9, .ref a10, .int 0, .int 0, .int (-1), .ref a11, .int 0, .ref a12, .int (-1)])), (a12, .inl (G.2 0, 5, .inl (upd (fun _ => 0) 0 1)))]) hP hD [0, 1] [2, 3, 4] rfl rfl (by decide) (by decide) hk1 hFc hP1 hD1
      generalize H1 = H at hP hS ⊢
      have hP : va_P G.1 vwCl [(a1, .inr (1, [.long 0, .int 1000, .int (-1), .int (-1), .int 0, .ref a13, .ref a14, .ref a15, .ref a16, .ref a17, .ref a18, .long 0, .ref a19])), (a18, .inr (6, [.int 6, .int 6, .ref a20, .int 0])), (a20, .inl (G.2 0, 36, .inl (fun _ => 0))), (a0, .inr (11, [.ref a1, .ref a2, .ref a3, .ref a4, .ref a5, .ref a6, .ref a7, .ref a8, .ref a9, .ref a10, .int 0, .int 0, .int (-1), .ref a11, .int 0, .ref a12, .int (-1)])), (a12, .inl (G.2 0, 5, .inl (upd (fun _ => 0) 0 1)))] H := hP
      have hD : va_D A [(a1, .inr (1, [.long 0, .int 1000, .int (-1), .int (-1), .int 0, .ref a13, .ref a14, .ref a15, .ref a16, .ref a17, .ref a18, .long 0, .ref a19])), (a18, .inr (6, [.int 6, .int 6, .ref a20, .int 0])), (a20, .inl (G.2 0, 36, .inl (fun _ => 0))), (a0, .inr (11, [.ref a1, .ref a2, .ref a3, .ref a4, .ref a5, .ref a6, .ref a7, .ref a8, .ref a9, .ref a10, .int 0, .int 0, .int (-1), .ref a11, .int 0, .ref a12, .int (-1)])), (a12, .inl (G.2 0, 5, .inl (upd (fun _ => 0) 0 1)))] := hD
      have hP := hP.sub (ws' := []) [] rfl
      have hD := hD.sub (ws' := []) [] (by decide) rfl
      exact W.iret (v := (-1)) hx hb hr (fun t ht hW => ⟨⟨(-1), [], rfl, Or.inr (Or.inr (Or.inr (Or.inl (⟨i_7, i_8, i_9, i_10, rfl, rfl⟩)))), by rw [ht]; exact hP, hD⟩, hS.F ht⟩) hS.2.2 dX11_wish_38
    ·
      exact absurd c_31 (by decide)
  ·
    have hP := g5_same hP hk1
    generalize H1 = H at hP hS ⊢
    refine lv_if_eq (tgt := 33) hx hb dX11_wish_6 (by decide) (fun c_32 => ?_) (fun c_32 => ?_)
    ·
      refine lv_aload_n hx hb dX11_wish_33 rfl (lv_at hl 0 rfl) ?_
      refine lv_iconst (v := (-1)) hx hb dX11_wish_34 (by decide) ?_
      have hPc := hP.sub (ws' := [(a0, .inr (11, [.ref a1, .ref a2, .ref a3, .ref a4, .ref a5, .ref a6, .ref a7, .ref a8, .ref a9, .ref a10, .int 0, .int 0, .int (-1), .ref a11, .int 0, .ref a12, .int 0])), (a12, .inl (G.2 0, 5, .inl (fun _ => 0)))]) [0, 1] rfl
      have hDc := hD.sub (ws' := [(a0, .inr (11, [.ref a1, .ref a2, .ref a3, .ref a4, .ref a5, .ref a6, .ref a7, .ref a8, .ref a9, .ref a10, .int 0, .int 0, .int (-1), .ref a11, .int 0, .ref a12, .int 0])), (a12, .inl (G.2 0, 5, .inl (fun _ => 0)))]) [0, 1] (by decide) rfl
      have hFc := va_free (wc := [(a0, .inr (11, [.ref a1, .ref a2, .ref a3, .ref a4, .ref a5, .ref a6, .ref a7, .ref a8, .ref a9, .ref a10, .int 0, .int 0, .int (-1), .ref a11, .int 0, .ref a12, .int 0])), (a12, .inl (G.2 0, 5, .inl (fun _ => 0)))]) hD hS hA [0, 1] rfl
      refine va_calli (va_runV (As := [.int (-1)]) (rest := []) ⟨hx, hb, hml, hown, hts⟩ (kX11_refuse l G a0 a1 a2 a3 a4 a5 a6 a7 a8 a9 a10 a11 a12 H.size) (cwV 1 hts gV_X11_104 rfl rfl rfl hv_X11_refuse ⟨Nat.le_of_ble_eq_true rfl, Nat.le_of_ble_eq_true rfl⟩) (g5_preV hPc hK hDc hN hT hS hFc (ci := 11) (q0 := 0) rfl rfl) rfl rfl hl.1 rfl (lv_room (Nat.le_of_ble_eq_true rfl)) dX11_wish_35 ⟨Nat.le_of_ble_eq_true rfl, Nat.le_of_ble_eq_true rfl⟩) hS (fun q _ h => hFc q h) hFc (fun r u t H1 locs ht hvm hw hB hz1 hk1 hS => ?_)
      obtain ⟨hP1, hD1⟩ := hB
      rw [ht] at hP1
      obtain ⟨rfl, rfl⟩ := hw
      obtain ⟨hP, hD⟩ := va_join (wr := [(a1, .inr (1, [.long 0, .int 1000, .int (-1), .int (-1), .int 0, .ref a13, .ref a14, .ref a15, .ref a16, .ref a17, .ref a18, .long 0, .ref a19])), (a18, .inr (6, [.int 6, .int 6, .ref a20, .int 0])), (a20, .inl (G.2 0, 36, .inl (fun _ => 0)))]) (w1 := [(a0, .inr (11, [.ref a1, .ref a2, .ref a3, .ref a4, .ref a5, .ref a6, .ref a7, .ref a8, .ref a9, .ref a10, .int 0, .int 0, .int (-1), .ref a11, .int 0, .ref a12, .int (-1)])), (a12, .inl (G.2 0, 5, .inl (upd (fun _ => 0) 0 1)))]) hP hD [0, 1] [2, 3, 4] rfl rfl (by decide) (by decide) hk1 hFc hP1 hD1
      generalize H1 = H at hP hS ⊢
      have hP : va_P G.1 vwCl [(a1, .inr (1, [.long 0, .int 1000, .int (-1), .int (-1), .int 0, .ref a13, .ref a14, .ref a15, .ref a16, .ref a17, .ref a18, .long 0, .ref a19])), (a18, .inr (6, [.int 6, .int 6, .ref a20, .int 0])), (a20, .inl (G.2 0, 36, .inl (fun _ => 0))), (a0, .inr (11, [.ref a1, .ref a2, .ref a3, .ref a4, .ref a5, .ref a6, .ref a7, .ref a8, .ref a9, .ref a10, .int 0, .int 0, .int (-1), .ref a11, .int 0, .ref a12, .int (-1)])), (a12, .inl (G.2 0, 5, .inl (upd (fun _ => 0) 0 1)))] H := hP
      have hD : va_D A [(a1, .inr (1, [.long 0, .int 1000, .int (-1), .int (-1), .int 0, .ref a13, .ref a14, .ref a15, .ref a16, .ref a17, .ref a18, .long 0, .ref a19])), (a18, .inr (6, [.int 6, .int 6, .ref a20, .int 0])), (a20, .inl (G.2 0, 36, .inl (fun _ => 0))), (a0, .inr (11, [.ref a1, .ref a2, .ref a3, .ref a4, .ref a5, .ref a6, .ref a7, .ref a8, .ref a9, .ref a10, .int 0, .int 0, .int (-1), .ref a11, .int 0, .ref a12, .int (-1)])), (a12, .inl (G.2 0, 5, .inl (upd (fun _ => 0) 0 1)))] := hD
      have hP := hP.sub (ws' := []) [] rfl
      have hD := hD.sub (ws' := []) [] (by decide) rfl
      exact W.iret (v := (-1)) hx hb hr (fun t ht hW => ⟨⟨(-1), [], rfl, Or.inr (Or.inr (Or.inr (Or.inr (Or.inl (⟨i_11, i_12, i_13, i_14, i_15, rfl, rfl⟩))))), by rw [ht]; exact hP, hD⟩, hS.F ht⟩) hS.2.2 dX11_wish_38
    ·
      exact absurd c_32 (by decide)
  ·
    have hP := g5_same hP hk1
    generalize H1 = H at hP hS ⊢
    refine lv_if_eq (tgt := 33) hx hb dX11_wish_6 (by decide) (fun c_33 => ?_) (fun c_33 => ?_)
    ·
      refine lv_aload_n hx hb dX11_wish_33 rfl (lv_at hl 0 rfl) ?_
      refine lv_iconst (v := (-1)) hx hb dX11_wish_34 (by decide) ?_
      have hPc := hP.sub (ws' := [(a0, .inr (11, [.ref a1, .ref a2, .ref a3, .ref a4, .ref a5, .ref a6, .ref a7, .ref a8, .ref a9, .ref a10, .int 0, .int 0, .int (-1), .ref a11, .int 0, .ref a12, .int 0])), (a12, .inl (G.2 0, 5, .inl (fun _ => 0)))]) [0, 1] rfl
      have hDc := hD.sub (ws' := [(a0, .inr (11, [.ref a1, .ref a2, .ref a3, .ref a4, .ref a5, .ref a6, .ref a7, .ref a8, .ref a9, .ref a10, .int 0, .int 0, .int (-1), .ref a11, .int 0, .ref a12, .int 0])), (a12, .inl (G.2 0, 5, .inl (fun _ => 0)))]) [0, 1] (by decide) rfl
      have hFc := va_free (wc := [(a0, .inr (11, [.ref a1, .ref a2, .ref a3, .ref a4, .ref a5, .ref a6, .ref a7, .ref a8, .ref a9, .ref a10, .int 0, .int 0, .int (-1), .ref a11, .int 0, .ref a12, .int 0])), (a12, .inl (G.2 0, 5, .inl (fun _ => 0)))]) hD hS hA [0, 1] rfl
      refine va_calli (va_runV (As := [.int (-1)]) (rest := []) ⟨hx, hb, hml, hown, hts⟩ (kX11_refuse l G a0 a1 a2 a3 a4 a5 a6 a7 a8 a9 a10 a11 a12 H.size) (cwV 1 hts gV_X11_104 rfl rfl rfl hv_X11_refuse ⟨Nat.le_of_ble_eq_true rfl, Nat.le_of_ble_eq_true rfl⟩) (g5_preV hPc hK hDc hN hT hS hFc (ci := 11) (q0 := 0) rfl rfl) rfl rfl hl.1 rfl (lv_room (Nat.le_of_ble_eq_true rfl)) dX11_wish_35 ⟨Nat.le_of_ble_eq_true rfl, Nat.le_of_ble_eq_true rfl⟩) hS (fun q _ h => hFc q h) hFc (fun r u t H1 locs ht hvm hw hB hz1 hk1 hS => ?_)
      obtain ⟨hP1, hD1⟩ := hB
      rw [ht] at hP1
      obtain ⟨rfl, rfl⟩ := hw
      obtain ⟨hP, hD⟩ := va_join (wr := [(a1, .inr (1, [.long 0, .int 1000, .int (-1), .int (-1), .int 0, .ref a13, .ref a14, .ref a15, .ref a16, .ref a17, .ref a18, .long 0, .ref a19])), (a18, .inr (6, [.int 6, .int 6, .ref a20, .int 0])), (a20, .inl (G.2 0, 36, .inl (fun _ => 0)))]) (w1 := [(a0, .inr (11, [.ref a1, .ref a2, .ref a3, .ref a4, .ref a5, .ref a6, .ref a7, .ref a8, .ref a9, .ref a10, .int 0, .int 0, .int (-1), .ref a11, .int 0, .ref a12, .int (-1)])), (a12, .inl (G.2 0, 5, .inl (upd (fun _ => 0) 0 1)))]) hP hD [0, 1] [2, 3, 4] rfl rfl (by decide) (by decide) hk1 hFc hP1 hD1
      generalize H1 = H at hP hS ⊢
      have hP : va_P G.1 vwCl [(a1, .inr (1, [.long 0, .int 1000, .int (-1), .int (-1), .int 0, .ref a13, .ref a14, .ref a15, .ref a16, .ref a17, .ref a18, .long 0, .ref a19])), (a18, .inr (6, [.int 6, .int 6, .ref a20, .int 0])), (a20, .inl (G.2 0, 36, .inl (fun _ => 0))), (a0, .inr (11, [.ref a1, .ref a2, .ref a3, .ref a4, .ref a5, .ref a6, .ref a7, .ref a8, .ref a9, .ref a10, .int 0, .int 0, .int (-1), .ref a11, .int 0, .ref a12, .int (-1)])), (a12, .inl (G.2 0, 5, .inl (upd (fun _ => 0) 0 1)))] H := hP
      have hD : va_D A [(a1, .inr (1, [.long 0, .int 1000, .int (-1), .int (-1), .int 0, .ref a13, .ref a14, .ref a15, .ref a16, .ref a17, .ref a18, .long 0, .ref a19])), (a18, .inr (6, [.int 6, .int 6, .ref a20, .int 0])), (a20, .inl (G.2 0, 36, .inl (fun _ => 0))), (a0, .inr (11, [.ref a1, .ref a2, .ref a3, .ref a4, .ref a5, .ref a6, .ref a7, .ref a8, .ref a9, .ref a10, .int 0, .int 0, .int (-1), .ref a11, .int 0, .ref a12, .int (-1)])), (a12, .inl (G.2 0, 5, .inl (upd (fun _ => 0) 0 1)))] := hD
      have hP := hP.sub (ws' := []) [] rfl
      have hD := hD.sub (ws' := []) [] (by decide) rfl
      exact W.iret (v := (-1)) hx hb hr (fun t ht hW => ⟨⟨(-1), [], rfl, Or.inr (Or.inr (Or.inr (Or.inr (Or.inr (Or.inl (⟨i_16, i_17, i_18, i_19, i_20, i_21, rfl, rfl⟩)))))), by rw [ht]; exact hP, hD⟩, hS.F ht⟩) hS.2.2 dX11_wish_38
    ·
      exact absurd c_33 (by decide)
  ·
    have hP := g5_same hP hk1
    generalize H1 = H at hP hS ⊢
    refine lv_if_eq (tgt := 33) hx hb dX11_wish_6 (by decide) (fun c_34 => ?_) (fun c_34 => ?_)
    ·
      exact absurd c_34 (by decide)
    ·
      refine lv_iload hx hb dX11_wish_9 (lv_at hl 4 rfl) ?_
      have hPc := hP.sub (ws' := []) [] rfl
      have hDc := hD.sub (ws' := []) [] (by decide) rfl
      have hFc := va_free (wc := []) hD hS hA [] rfl
      refine va_calli (va_runS (As := [.int n3]) (rest := []) ⟨hx, hb, hml, hown, hts⟩ (kX11_isCell_2 l G H.size n3) (va_cwS 1 hts gS_X11_97 rfl rfl rfl hs_X11_isCell ⟨Nat.le_of_ble_eq_true rfl, Nat.le_of_ble_eq_true rfl⟩) (g5_preS hPc hK hDc hN hT hS hFc) rfl rfl hl.1 rfl (lv_room (Nat.le_of_ble_eq_true rfl)) dX11_wish_11 ⟨Nat.le_of_ble_eq_true rfl, Nat.le_of_ble_eq_true rfl⟩) hS (fun q _ h => hFc q h) hFc (fun r u t H1 locs ht hvm hw hB hz1 hk1 hS => ?_)
      obtain ⟨hP1, hD1⟩ := hB
      rw [ht] at hP1
      rcases hw with ⟨i_35, rfl, rfl⟩ | ⟨i_36, i_37, rfl, rfl⟩ | ⟨i_38, i_39, rfl, rfl⟩
      ·
        have hP := g5_same hP hk1
        generalize H1 = H at hP hS ⊢
        refine lv_if_eq (tgt := 33) hx hb dX11_wish_14 (by decide) (fun c_40 => ?_) (fun c_40 => ?_)
        ·
          refine lv_aload_n hx hb dX11_wish_33 rfl (lv_at hl 0 rfl) ?_
          refine lv_iconst (v := (-1)) hx hb dX11_wish_34 (by decide) ?_
          have hPc := hP.sub (ws' := [(a0, .inr (11, [.ref a1, .ref a2, .ref a3, .ref a4, .ref a5, .ref a6, .ref a7, .ref a8, .ref a9, .ref a10, .int 0, .int 0, .int (-1), .ref a11, .int 0, .ref a12, .int 0])), (a12, .inl (G.2 0, 5, .inl (fun _ => 0)))]) [0, 1] rfl
          have hDc := hD.sub (ws' := [(a0, .inr (11, [.ref a1, .ref a2, .ref a3, .ref a4, .ref a5, .ref a6, .ref a7, .ref a8, .ref a9, .ref a10, .int 0, .int 0, .int (-1), .ref a11, .int 0, .ref a12, .int 0])), (a12, .inl (G.2 0, 5, .inl (fun _ => 0)))]) [0, 1] (by decide) rfl
          have hFc := va_free (wc := [(a0, .inr (11, [.ref a1, .ref a2, .ref a3, .ref a4, .ref a5, .ref a6, .ref a7, .ref a8, .ref a9, .ref a10, .int 0, .int 0, .int (-1), .ref a11, .int 0, .ref a12, .int 0])), (a12, .inl (G.2 0, 5, .inl (fun _ => 0)))]) hD hS hA [0, 1] rfl
          refine va_calli (va_runV (As := [.int (-1)]) (rest := []) ⟨hx, hb, hml, hown, hts⟩ (kX11_refuse l G a0 a1 a2 a3 a4 a5 a6 a7 a8 a9 a10 a11 a12 H.size) (cwV 1 hts gV_X11_104 rfl rfl rfl hv_X11_refuse ⟨Nat.le_of_ble_eq_true rfl, Nat.le_of_ble_eq_true rfl⟩) (g5_preV hPc hK hDc hN hT hS hFc (ci := 11) (q0 := 0) rfl rfl) rfl rfl hl.1 rfl (lv_room (Nat.le_of_ble_eq_true rfl)) dX11_wish_35 ⟨Nat.le_of_ble_eq_true rfl, Nat.le_of_ble_eq_true rfl⟩) hS (fun q _ h => hFc q h) hFc (fun r u t H1 locs ht hvm hw hB hz1 hk1 hS => ?_)
          obtain ⟨hP1, hD1⟩ := hB
          rw [ht] at hP1
          obtain ⟨rfl, rfl⟩ := hw
          obtain ⟨hP, hD⟩ := va_join (wr := [(a1, .inr (1, [.long 0, .int 1000, .int (-1), .int (-1), .int 0, .ref a13, .ref a14, .ref a15, .ref a16, .ref a17, .ref a18, .long 0, .ref a19])), (a18, .inr (6, [.int 6, .int 6, .ref a20, .int 0])), (a20, .inl (G.2 0, 36, .inl (fun _ => 0)))]) (w1 := [(a0, .inr (11, [.ref a1, .ref a2, .ref a3, .ref a4, .ref a5, .ref a6, .ref a7, .ref a8, .ref a9, .ref a10, .int 0, .int 0, .int (-1), .ref a11, .int 0, .ref a12, .int (-1)])), (a12, .inl (G.2 0, 5, .inl (upd (fun _ => 0) 0 1)))]) hP hD [0, 1] [2, 3, 4] rfl rfl (by decide) (by decide) hk1 hFc hP1 hD1
          generalize H1 = H at hP hS ⊢
          have hP : va_P G.1 vwCl [(a1, .inr (1, [.long 0, .int 1000, .int (-1), .int (-1), .int 0, .ref a13, .ref a14, .ref a15, .ref a16, .ref a17, .ref a18, .long 0, .ref a19])), (a18, .inr (6, [.int 6, .int 6, .ref a20, .int 0])), (a20, .inl (G.2 0, 36, .inl (fun _ => 0))), (a0, .inr (11, [.ref a1, .ref a2, .ref a3, .ref a4, .ref a5, .ref a6, .ref a7, .ref a8, .ref a9, .ref a10, .int 0, .int 0, .int (-1), .ref a11, .int 0, .ref a12, .int (-1)])), (a12, .inl (G.2 0, 5, .inl (upd (fun _ => 0) 0 1)))] H := hP
          have hD : va_D A [(a1, .inr (1, [.long 0, .int 1000, .int (-1), .int (-1), .int 0, .ref a13, .ref a14, .ref a15, .ref a16, .ref a17, .ref a18, .long 0, .ref a19])), (a18, .inr (6, [.int 6, .int 6, .ref a20, .int 0])), (a20, .inl (G.2 0, 36, .inl (fun _ => 0))), (a0, .inr (11, [.ref a1, .ref a2, .ref a3, .ref a4, .ref a5, .ref a6, .ref a7, .ref a8, .ref a9, .ref a10, .int 0, .int 0, .int (-1), .ref a11, .int 0, .ref a12, .int (-1)])), (a12, .inl (G.2 0, 5, .inl (upd (fun _ => 0) 0 1)))] := hD
          have hP := hP.sub (ws' := []) [] rfl
          have hD := hD.sub (ws' := []) [] (by decide) rfl
          exact W.iret (v := (-1)) hx hb hr (fun t ht hW => ⟨⟨(-1), [], rfl, Or.inr (Or.inr (Or.inr (Or.inr (Or.inr (Or.inr (Or.inl (⟨i_22, i_23, i_24, i_25, i_26, i_27, i_35, rfl, rfl⟩))))))), by rw [ht]; exact hP, hD⟩, hS.F ht⟩) hS.2.2 dX11_wish_38
        ·
          exact absurd c_40 (by decide)
      ·
        have hP := g5_same hP hk1
        generalize H1 = H at hP hS ⊢
        refine lv_if_eq (tgt := 33) hx hb dX11_wish_14 (by decide) (fun c_41 => ?_) (fun c_41 => ?_)
        ·
          refine lv_aload_n hx hb dX11_wish_33 rfl (lv_at hl 0 rfl) ?_
          refine lv_iconst (v := (-1)) hx hb dX11_wish_34 (by decide) ?_
          have hPc := hP.sub (ws' := [(a0, .inr (11, [.ref a1, .ref a2, .ref a3, .ref a4, .ref a5, .ref a6, .ref a7, .ref a8, .ref a9, .ref a10, .int 0, .int 0, .int (-1), .ref a11, .int 0, .ref a12, .int 0])), (a12, .inl (G.2 0, 5, .inl (fun _ => 0)))]) [0, 1] rfl
          have hDc := hD.sub (ws' := [(a0, .inr (11, [.ref a1, .ref a2, .ref a3, .ref a4, .ref a5, .ref a6, .ref a7, .ref a8, .ref a9, .ref a10, .int 0, .int 0, .int (-1), .ref a11, .int 0, .ref a12, .int 0])), (a12, .inl (G.2 0, 5, .inl (fun _ => 0)))]) [0, 1] (by decide) rfl
          have hFc := va_free (wc := [(a0, .inr (11, [.ref a1, .ref a2, .ref a3, .ref a4, .ref a5, .ref a6, .ref a7, .ref a8, .ref a9, .ref a10, .int 0, .int 0, .int (-1), .ref a11, .int 0, .ref a12, .int 0])), (a12, .inl (G.2 0, 5, .inl (fun _ => 0)))]) hD hS hA [0, 1] rfl
          refine va_calli (va_runV (As := [.int (-1)]) (rest := []) ⟨hx, hb, hml, hown, hts⟩ (kX11_refuse l G a0 a1 a2 a3 a4 a5 a6 a7 a8 a9 a10 a11 a12 H.size) (cwV 1 hts gV_X11_104 rfl rfl rfl hv_X11_refuse ⟨Nat.le_of_ble_eq_true rfl, Nat.le_of_ble_eq_true rfl⟩) (g5_preV hPc hK hDc hN hT hS hFc (ci := 11) (q0 := 0) rfl rfl) rfl rfl hl.1 rfl (lv_room (Nat.le_of_ble_eq_true rfl)) dX11_wish_35 ⟨Nat.le_of_ble_eq_true rfl, Nat.le_of_ble_eq_true rfl⟩) hS (fun q _ h => hFc q h) hFc (fun r u t H1 locs ht hvm hw hB hz1 hk1 hS => ?_)
          obtain ⟨hP1, hD1⟩ := hB
          rw [ht] at hP1
          obtain ⟨rfl, rfl⟩ := hw
          obtain ⟨hP, hD⟩ := va_join (wr := [(a1, .inr (1, [.long 0, .int 1000, .int (-1), .int (-1), .int 0, .ref a13, .ref a14, .ref a15, .ref a16, .ref a17, .ref a18, .long 0, .ref a19])), (a18, .inr (6, [.int 6, .int 6, .ref a20, .int 0])), (a20, .inl (G.2 0, 36, .inl (fun _ => 0)))]) (w1 := [(a0, .inr (11, [.ref a1, .ref a2, .ref a3, .ref a4, .ref a5, .ref a6, .ref a7, .ref a8, .ref a9, .ref a10, .int 0, .int 0, .int (-1), .ref a11, .int 0, .ref a12, .int (-1)])), (a12, .inl (G.2 0, 5, .inl (upd (fun _ => 0) 0 1)))]) hP hD [0, 1] [2, 3, 4] rfl rfl (by decide) (by decide) hk1 hFc hP1 hD1
          generalize H1 = H at hP hS ⊢
          have hP : va_P G.1 vwCl [(a1, .inr (1, [.long 0, .int 1000, .int (-1), .int (-1), .int 0, .ref a13, .ref a14, .ref a15, .ref a16, .ref a17, .ref a18, .long 0, .ref a19])), (a18, .inr (6, [.int 6, .int 6, .ref a20, .int 0])), (a20, .inl (G.2 0, 36, .inl (fun _ => 0))), (a0, .inr (11, [.ref a1, .ref a2, .ref a3, .ref a4, .ref a5, .ref a6, .ref a7, .ref a8, .ref a9, .ref a10, .int 0, .int 0, .int (-1), .ref a11, .int 0, .ref a12, .int (-1)])), (a12, .inl (G.2 0, 5, .inl (upd (fun _ => 0) 0 1)))] H := hP
          have hD : va_D A [(a1, .inr (1, [.long 0, .int 1000, .int (-1), .int (-1), .int 0, .ref a13, .ref a14, .ref a15, .ref a16, .ref a17, .ref a18, .long 0, .ref a19])), (a18, .inr (6, [.int 6, .int 6, .ref a20, .int 0])), (a20, .inl (G.2 0, 36, .inl (fun _ => 0))), (a0, .inr (11, [.ref a1, .ref a2, .ref a3, .ref a4, .ref a5, .ref a6, .ref a7, .ref a8, .ref a9, .ref a10, .int 0, .int 0, .int (-1), .ref a11, .int 0, .ref a12, .int (-1)])), (a12, .inl (G.2 0, 5, .inl (upd (fun _ => 0) 0 1)))] := hD
          have hP := hP.sub (ws' := []) [] rfl
          have hD := hD.sub (ws' := []) [] (by decide) rfl
          exact W.iret (v := (-1)) hx hb hr (fun t ht hW => ⟨⟨(-1), [], rfl, Or.inr (Or.inr (Or.inr (Or.inr (Or.inr (Or.inr (Or.inr (Or.inl (⟨i_22, i_23, i_24, i_25, i_26, i_27, i_36, i_37, rfl, rfl⟩)))))))), by rw [ht]; exact hP, hD⟩, hS.F ht⟩) hS.2.2 dX11_wish_38
        ·
          exact absurd c_41 (by decide)
      ·
        have hP := g5_same hP hk1
        generalize H1 = H at hP hS ⊢
        refine lv_if_eq (tgt := 33) hx hb dX11_wish_14 (by decide) (fun c_42 => ?_) (fun c_42 => ?_)
        ·
          exact absurd c_42 (by decide)
        ·
          refine lv_iload hx hb dX11_wish_17 (lv_at hl 5 rfl) ?_
          have hPc := hP.sub (ws' := []) [] rfl
          have hDc := hD.sub (ws' := []) [] (by decide) rfl
          have hFc := va_free (wc := []) hD hS hA [] rfl
          refine va_calli (va_runS (As := [.int n4]) (rest := []) ⟨hx, hb, hml, hown, hts⟩ (kX11_isHour_2 l G H.size n4) (va_cwS 1 hts gS_X11_127 rfl rfl rfl hs_X11_isHour ⟨Nat.le_of_ble_eq_true rfl, Nat.le_of_ble_eq_true rfl⟩) (g5_preS hPc hK hDc hN hT hS hFc) rfl rfl hl.1 rfl (lv_room (Nat.le_of_ble_eq_true rfl)) dX11_wish_19 ⟨Nat.le_of_ble_eq_true rfl, Nat.le_of_ble_eq_true rfl⟩) hS (fun q _ h => hFc q h) hFc (fun r u t H1 locs ht hvm hw hB hz1 hk1 hS => ?_)
          obtain ⟨hP1, hD1⟩ := hB
          rw [ht] at hP1
          rcases hw with ⟨i_43, rfl, rfl⟩ | ⟨i_44, i_45, rfl, rfl⟩ | ⟨i_46, i_47, rfl, rfl⟩
          ·
            have hP := g5_same hP hk1
            generalize H1 = H at hP hS ⊢
            refine lv_if_eq (tgt := 33) hx hb dX11_wish_22 (by decide) (fun c_48 => ?_) (fun c_48 => ?_)
            ·
              refine lv_aload_n hx hb dX11_wish_33 rfl (lv_at hl 0 rfl) ?_
              refine lv_iconst (v := (-1)) hx hb dX11_wish_34 (by decide) ?_
              have hPc := hP.sub (ws' := [(a0, .inr (11, [.ref a1, .ref a2, .ref a3, .ref a4, .ref a5, .ref a6, .ref a7, .ref a8, .ref a9, .ref a10, .int 0, .int 0, .int (-1), .ref a11, .int 0, .ref a12, .int 0])), (a12, .inl (G.2 0, 5, .inl (fun _ => 0)))]) [0, 1] rfl
              have hDc := hD.sub (ws' := [(a0, .inr (11, [.ref a1, .ref a2, .ref a3, .ref a4, .ref a5, .ref a6, .ref a7, .ref a8, .ref a9, .ref a10, .int 0, .int 0, .int (-1), .ref a11, .int 0, .ref a12, .int 0])), (a12, .inl (G.2 0, 5, .inl (fun _ => 0)))]) [0, 1] (by decide) rfl
              have hFc := va_free (wc := [(a0, .inr (11, [.ref a1, .ref a2, .ref a3, .ref a4, .ref a5, .ref a6, .ref a7, .ref a8, .ref a9, .ref a10, .int 0, .int 0, .int (-1), .ref a11, .int 0, .ref a12, .int 0])), (a12, .inl (G.2 0, 5, .inl (fun _ => 0)))]) hD hS hA [0, 1] rfl
              refine va_calli (va_runV (As := [.int (-1)]) (rest := []) ⟨hx, hb, hml, hown, hts⟩ (kX11_refuse l G a0 a1 a2 a3 a4 a5 a6 a7 a8 a9 a10 a11 a12 H.size) (cwV 1 hts gV_X11_104 rfl rfl rfl hv_X11_refuse ⟨Nat.le_of_ble_eq_true rfl, Nat.le_of_ble_eq_true rfl⟩) (g5_preV hPc hK hDc hN hT hS hFc (ci := 11) (q0 := 0) rfl rfl) rfl rfl hl.1 rfl (lv_room (Nat.le_of_ble_eq_true rfl)) dX11_wish_35 ⟨Nat.le_of_ble_eq_true rfl, Nat.le_of_ble_eq_true rfl⟩) hS (fun q _ h => hFc q h) hFc (fun r u t H1 locs ht hvm hw hB hz1 hk1 hS => ?_)
              obtain ⟨hP1, hD1⟩ := hB
              rw [ht] at hP1
              obtain ⟨rfl, rfl⟩ := hw
              obtain ⟨hP, hD⟩ := va_join (wr := [(a1, .inr (1, [.long 0, .int 1000, .int (-1), .int (-1), .int 0, .ref a13, .ref a14, .ref a15, .ref a16, .ref a17, .ref a18, .long 0, .ref a19])), (a18, .inr (6, [.int 6, .int 6, .ref a20, .int 0])), (a20, .inl (G.2 0, 36, .inl (fun _ => 0)))]) (w1 := [(a0, .inr (11, [.ref a1, .ref a2, .ref a3, .ref a4, .ref a5, .ref a6, .ref a7, .ref a8, .ref a9, .ref a10, .int 0, .int 0, .int (-1), .ref a11, .int 0, .ref a12, .int (-1)])), (a12, .inl (G.2 0, 5, .inl (upd (fun _ => 0) 0 1)))]) hP hD [0, 1] [2, 3, 4] rfl rfl (by decide) (by decide) hk1 hFc hP1 hD1
              generalize H1 = H at hP hS ⊢
              have hP : va_P G.1 vwCl [(a1, .inr (1, [.long 0, .int 1000, .int (-1), .int (-1), .int 0, .ref a13, .ref a14, .ref a15, .ref a16, .ref a17, .ref a18, .long 0, .ref a19])), (a18, .inr (6, [.int 6, .int 6, .ref a20, .int 0])), (a20, .inl (G.2 0, 36, .inl (fun _ => 0))), (a0, .inr (11, [.ref a1, .ref a2, .ref a3, .ref a4, .ref a5, .ref a6, .ref a7, .ref a8, .ref a9, .ref a10, .int 0, .int 0, .int (-1), .ref a11, .int 0, .ref a12, .int (-1)])), (a12, .inl (G.2 0, 5, .inl (upd (fun _ => 0) 0 1)))] H := hP
              have hD : va_D A [(a1, .inr (1, [.long 0, .int 1000, .int (-1), .int (-1), .int 0, .ref a13, .ref a14, .ref a15, .ref a16, .ref a17, .ref a18, .long 0, .ref a19])), (a18, .inr (6, [.int 6, .int 6, .ref a20, .int 0])), (a20, .inl (G.2 0, 36, .inl (fun _ => 0))), (a0, .inr (11, [.ref a1, .ref a2, .ref a3, .ref a4, .ref a5, .ref a6, .ref a7, .ref a8, .ref a9, .ref a10, .int 0, .int 0, .int (-1), .ref a11, .int 0, .ref a12, .int (-1)])), (a12, .inl (G.2 0, 5, .inl (upd (fun _ => 0) 0 1)))] := hD
              have hP := hP.sub (ws' := []) [] rfl
              have hD := hD.sub (ws' := []) [] (by decide) rfl
              exact W.iret (v := (-1)) hx hb hr (fun t ht hW => ⟨⟨(-1), [], rfl, Or.inr (Or.inr (Or.inr (Or.inr (Or.inr (Or.inr (Or.inr (Or.inr (Or.inl (⟨i_22, i_23, i_24, i_25, i_26, i_27, i_38, i_39, i_43, rfl, rfl⟩))))))))), by rw [ht]; exact hP, hD⟩, hS.F ht⟩) hS.2.2 dX11_wish_38
            ·
              exact absurd c_48 (by decide)
          ·
            have hP := g5_same hP hk1
            generalize H1 = H at hP hS ⊢
            refine lv_if_eq (tgt := 33) hx hb dX11_wish_22 (by decide) (fun c_49 => ?_) (fun c_49 => ?_)
            ·
              refine lv_aload_n hx hb dX11_wish_33 rfl (lv_at hl 0 rfl) ?_
              refine lv_iconst (v := (-1)) hx hb dX11_wish_34 (by decide) ?_
              have hPc := hP.sub (ws' := [(a0, .inr (11, [.ref a1, .ref a2, .ref a3, .ref a4, .ref a5, .ref a6, .ref a7, .ref a8, .ref a9, .ref a10, .int 0, .int 0, .int (-1), .ref a11, .int 0, .ref a12, .int 0])), (a12, .inl (G.2 0, 5, .inl (fun _ => 0)))]) [0, 1] rfl
              have hDc := hD.sub (ws' := [(a0, .inr (11, [.ref a1, .ref a2, .ref a3, .ref a4, .ref a5, .ref a6, .ref a7, .ref a8, .ref a9, .ref a10, .int 0, .int 0, .int (-1), .ref a11, .int 0, .ref a12, .int 0])), (a12, .inl (G.2 0, 5, .inl (fun _ => 0)))]) [0, 1] (by decide) rfl
              have hFc := va_free (wc := [(a0, .inr (11, [.ref a1, .ref a2, .ref a3, .ref a4, .ref a5, .ref a6, .ref a7, .ref a8, .ref a9, .ref a10, .int 0, .int 0, .int (-1), .ref a11, .int 0, .ref a12, .int 0])), (a12, .inl (G.2 0, 5, .inl (fun _ => 0)))]) hD hS hA [0, 1] rfl
              refine va_calli (va_runV (As := [.int (-1)]) (rest := []) ⟨hx, hb, hml, hown, hts⟩ (kX11_refuse l G a0 a1 a2 a3 a4 a5 a6 a7 a8 a9 a10 a11 a12 H.size) (cwV 1 hts gV_X11_104 rfl rfl rfl hv_X11_refuse ⟨Nat.le_of_ble_eq_true rfl, Nat.le_of_ble_eq_true rfl⟩) (g5_preV hPc hK hDc hN hT hS hFc (ci := 11) (q0 := 0) rfl rfl) rfl rfl hl.1 rfl (lv_room (Nat.le_of_ble_eq_true rfl)) dX11_wish_35 ⟨Nat.le_of_ble_eq_true rfl, Nat.le_of_ble_eq_true rfl⟩) hS (fun q _ h => hFc q h) hFc (fun r u t H1 locs ht hvm hw hB hz1 hk1 hS => ?_)
              obtain ⟨hP1, hD1⟩ := hB
              rw [ht] at hP1
              obtain ⟨rfl, rfl⟩ := hw
              obtain ⟨hP, hD⟩ := va_join (wr := [(a1, .inr (1, [.long 0, .int 1000, .int (-1), .int (-1), .int 0, .ref a13, .ref a14, .ref a15, .ref a16, .ref a17, .ref a18, .long 0, .ref a19])), (a18, .inr (6, [.int 6, .int 6, .ref a20, .int 0])), (a20, .inl (G.2 0, 36, .inl (fun _ => 0)))]) (w1 := [(a0, .inr (11, [.ref a1, .ref a2, .ref a3, .ref a4, .ref a5, .ref a6, .ref a7, .ref a8, .ref a9, .ref a10, .int 0, .int 0, .int (-1), .ref a11, .int 0, .ref a12, .int (-1)])), (a12, .inl (G.2 0, 5, .inl (upd (fun _ => 0) 0 1)))]) hP hD [0, 1] [2, 3, 4] rfl rfl (by decide) (by decide) hk1 hFc hP1 hD1
              generalize H1 = H at hP hS ⊢
              have hP : va_P G.1 vwCl [(a1, .inr (1, [.long 0, .int 1000, .int (-1), .int (-1), .int 0, .ref a13, .ref a14, .ref a15, .ref a16, .ref a17, .ref a18, .long 0, .ref a19])), (a18, .inr (6, [.int 6, .int 6, .ref a20, .int 0])), (a20, .inl (G.2 0, 36, .inl (fun _ => 0))), (a0, .inr (11, [.ref a1, .ref a2, .ref a3, .ref a4, .ref a5, .ref a6, .ref a7, .ref a8, .ref a9, .ref a10, .int 0, .int 0, .int (-1), .ref a11, .int 0, .ref a12, .int (-1)])), (a12, .inl (G.2 0, 5, .inl (upd (fun _ => 0) 0 1)))] H := hP
              have hD : va_D A [(a1, .inr (1, [.long 0, .int 1000, .int (-1), .int (-1), .int 0, .ref a13, .ref a14, .ref a15, .ref a16, .ref a17, .ref a18, .long 0, .ref a19])), (a18, .inr (6, [.int 6, .int 6, .ref a20, .int 0])), (a20, .inl (G.2 0, 36, .inl (fun _ => 0))), (a0, .inr (11, [.ref a1, .ref a2, .ref a3, .ref a4, .ref a5, .ref a6, .ref a7, .ref a8, .ref a9, .ref a10, .int 0, .int 0, .int (-1), .ref a11, .int 0, .ref a12, .int (-1)])), (a12, .inl (G.2 0, 5, .inl (upd (fun _ => 0) 0 1)))] := hD
              have hP := hP.sub (ws' := []) [] rfl
              have hD := hD.sub (ws' := []) [] (by decide) rfl
              exact W.iret (v := (-1)) hx hb hr (fun t ht hW => ⟨⟨(-1), [], rfl, Or.inr (Or.inr (Or.inr (Or.inr (Or.inr (Or.inr (Or.inr (Or.inr (Or.inr (Or.inl (⟨i_22, i_23, i_24, i_25, i_26, i_27, i_38, i_39, i_44, i_45, rfl, rfl⟩)))))))))), by rw [ht]; exact hP, hD⟩, hS.F ht⟩) hS.2.2 dX11_wish_38
            ·
              exact absurd c_49 (by decide)
          ·
            have hP := g5_same hP hk1
            generalize H1 = H at hP hS ⊢
            refine lv_if_eq (tgt := 33) hx hb dX11_wish_22 (by decide) (fun c_50 => ?_) (fun c_50 => ?_)
            ·
              exact absurd c_50 (by decide)
            ·
              refine lv_iload hx hb dX11_wish_25 (lv_at hl 6 rfl) ?_
              have hPc := hP.sub (ws' := []) [] rfl
              have hDc := hD.sub (ws' := []) [] (by decide) rfl
              have hFc := va_free (wc := []) hD hS hA [] rfl
              refine va_calli (va_runS (As := [.int n5]) (rest := []) ⟨hx, hb, hml, hown, hts⟩ (kX11_isFlag l G H.size n5) (va_cwS 1 hts gS_X11_101 rfl rfl rfl hs_X11_isFlag ⟨Nat.le_of_ble_eq_true rfl, Nat.le_of_ble_eq_true rfl⟩) (g5_preS hPc hK hDc hN hT hS hFc) rfl rfl hl.1 rfl (lv_room (Nat.le_of_ble_eq_true rfl)) dX11_wish_27 ⟨Nat.le_of_ble_eq_true rfl, Nat.le_of_ble_eq_true rfl⟩) hS (fun q _ h => hFc q h) hFc (fun r u t H1 locs ht hvm hw hB hz1 hk1 hS => ?_)
              obtain ⟨hP1, hD1⟩ := hB
              rw [ht] at hP1
              rcases hw with ⟨i_51, rfl, rfl⟩ | ⟨i_52, i_53, rfl, rfl⟩ | ⟨i_54, i_55, rfl, rfl⟩
              ·
                have hP := g5_same hP hk1
                generalize H1 = H at hP hS ⊢
                refine lv_if_ne (tgt := 39) hx hb dX11_wish_30 (by decide) (fun c_56 => ?_) (fun c_56 => ?_)
                ·
                  refine lv_aload_n hx hb dX11_wish_39 rfl (lv_at hl 0 rfl) ?_
                  refine va_get (D := G.1) (ci := 11) (v := .ref a1) (C := RX11) (T := TX11) (N := 17) hx hb hts inG_X11 hown hK hP 0 rfl rfl 0 (by decide) (hts _ fl_X11_12) (fun _ h9 => h9) rfl dX11_wish_40 ?_
                  refine va_get (D := G.1) (ci := 1) (v := .ref a18) (C := RX1) (T := TX1) (N := 13) hx hb hts inG_X1 hown hK hP 2 rfl rfl 10 (by decide) (hts _ fl_X11_309) (fun _ h9 => h9) rfl dX11_wish_43 ?_
                  have hPc := hP.sub (ws' := [(a18, .inr (6, [.int 6, .int 6, .ref a20, .int 0]))]) [3] rfl
                  have hDc := hD.sub (ws' := [(a18, .inr (6, [.int 6, .int 6, .ref a20, .int 0]))]) [3] (by decide) rfl
                  have hFc := va_free (wc := [(a18, .inr (6, [.int 6, .int 6, .ref a20, .int 0]))]) hD hS hA [3] rfl
                  refine va_calli (va_runV (As := []) (rest := []) ⟨hx, hb, hml, hown, hts⟩ (kX6_isFull_5 l G a18 a20 H.size) (cwV 0 hts gV_X11_140 rfl rfl rfl hv_X6_isFull ⟨Nat.le_of_ble_eq_true rfl, Nat.le_of_ble_eq_true rfl⟩) (g5_preV hPc hK hDc hN hT hS hFc (ci := 6) (q0 := 0) rfl rfl) rfl rfl hl.1 rfl (lv_room (Nat.le_of_ble_eq_true rfl)) dX11_wish_46 ⟨Nat.le_of_ble_eq_true rfl, Nat.le_of_ble_eq_true rfl⟩) hS (fun q _ h => hFc q h) hFc (fun r u t H1 locs ht hvm hw hB hz1 hk1 hS => ?_)
                  obtain ⟨hP1, hD1⟩ := hB
                  rw [ht] at hP1
                  obtain ⟨rfl, rfl⟩ := hw
                  obtain ⟨hP, hD⟩ := va_join (wr := [(a0, .inr (11, [.ref a1, .ref a2, .ref a3, .ref a4, .ref a5, .ref a6, .ref a7, .ref a8, .ref a9, .ref a10, .int 0, .int 0, .int (-1), .ref a11, .int 0, .ref a12, .int 0])), (a12, .inl (G.2 0, 5, .inl (fun _ => 0))), (a1, .inr (1, [.long 0, .int 1000, .int (-1), .int (-1), .int 0, .ref a13, .ref a14, .ref a15, .ref a16, .ref a17, .ref a18, .long 0, .ref a19])), (a20, .inl (G.2 0, 36, .inl (fun _ => 0)))]) (w1 := [(a18, .inr (6, [.int 6, .int 6, .ref a20, .int 0]))]) hP hD [3] [0, 1, 2, 4] rfl rfl (by decide) (by decide) hk1 hFc hP1 hD1
                  generalize H1 = H at hP hS ⊢
                  have hP : va_P G.1 vwCl [(a0, .inr (11, [.ref a1, .ref a2, .ref a3, .ref a4, .ref a5, .ref a6, .ref a7, .ref a8, .ref a9, .ref a10, .int 0, .int 0, .int (-1), .ref a11, .int 0, .ref a12, .int 0])), (a12, .inl (G.2 0, 5, .inl (fun _ => 0))), (a1, .inr (1, [.long 0, .int 1000, .int (-1), .int (-1), .int 0, .ref a13, .ref a14, .ref a15, .ref a16, .ref a17, .ref a18, .long 0, .ref a19])), (a20, .inl (G.2 0, 36, .inl (fun _ => 0))), (a18, .inr (6, [.int 6, .int 6, .ref a20, .int 0]))] H := hP
                  have hD : va_D A [(a0, .inr (11, [.ref a1, .ref a2, .ref a3, .ref a4, .ref a5, .ref a6, .ref a7, .ref a8, .ref a9, .ref a10, .int 0, .int 0, .int (-1), .ref a11, .int 0, .ref a12, .int 0])), (a12, .inl (G.2 0, 5, .inl (fun _ => 0))), (a1, .inr (1, [.long 0, .int 1000, .int (-1), .int (-1), .int 0, .ref a13, .ref a14, .ref a15, .ref a16, .ref a17, .ref a18, .long 0, .ref a19])), (a20, .inl (G.2 0, 36, .inl (fun _ => 0))), (a18, .inr (6, [.int 6, .int 6, .ref a20, .int 0]))] := hD
                  refine lv_if_eq (tgt := 59) hx hb dX11_wish_49 (by decide) (fun c_57 => ?_) (fun c_57 => ?_)
                  ·
                    refine lv_aload_n hx hb dX11_wish_59 rfl (lv_at hl 0 rfl) ?_
                    refine va_get (D := G.1) (ci := 11) (v := .ref a1) (C := RX11) (T := TX11) (N := 17) hx hb hts inG_X11 hown hK hP 0 rfl rfl 0 (by decide) (hts _ fl_X11_12) (fun _ h9 => h9) rfl dX11_wish_60 ?_
                    refine va_get (D := G.1) (ci := 1) (v := .ref a18) (C := RX1) (T := TX1) (N := 13) hx hb hts inG_X1 hown hK hP 2 rfl rfl 10 (by decide) (hts _ fl_X11_309) (fun _ h9 => h9) rfl dX11_wish_63 ?_
                    refine lv_iconst (v := 0) hx hb dX11_wish_66 (by decide) ?_
                    have hPc := hP.sub (ws' := [(a18, .inr (6, [.int 6, .int 6, .ref a20, .int 0])), (a20, .inl (G.2 0, 36, .inl (fun _ => 0)))]) [4, 3] rfl
                    have hDc := hD.sub (ws' := [(a18, .inr (6, [.int 6, .int 6, .ref a20, .int 0])), (a20, .inl (G.2 0, 36, .inl (fun _ => 0)))]) [4, 3] (by decide) rfl
                    have hFc := va_free (wc := [(a18, .inr (6, [.int 6, .int 6, .ref a20, .int 0])), (a20, .inl (G.2 0, 36, .inl (fun _ => 0)))]) hD hS hA [4, 3] rfl
                    refine va_calli (va_runV (As := [.int 0]) (rest := []) ⟨hx, hb, hml, hown, hts⟩ (kX6_open_5 l G a18 a20 H.size) (cwV 1 hts gV_X11_146 rfl rfl rfl hv_X6_open ⟨Nat.le_of_ble_eq_true rfl, Nat.le_of_ble_eq_true rfl⟩) (g5_preV hPc hK hDc hN hT hS hFc (ci := 6) (q0 := 0) rfl rfl) rfl rfl hl.1 rfl (lv_room (Nat.le_of_ble_eq_true rfl)) dX11_wish_67 ⟨Nat.le_of_ble_eq_true rfl, Nat.le_of_ble_eq_true rfl⟩) hS (fun q _ h => hFc q h) hFc (fun r u t H1 locs ht hvm hw hB hz1 hk1 hS => ?_)
                    obtain ⟨hP1, hD1⟩ := hB
                    rw [ht] at hP1
                    obtain ⟨rfl, rfl⟩ := hw
                    obtain ⟨hP, hD⟩ := va_join (wr := [(a0, .inr (11, [.ref a1, .ref a2, .ref a3, .ref a4, .ref a5, .ref a6, .ref a7, .ref a8, .ref a9, .ref a10, .int 0, .int 0, .int (-1), .ref a11, .int 0, .ref a12, .int 0])), (a12, .inl (G.2 0, 5, .inl (fun _ => 0))), (a1, .inr (1, [.long 0, .int 1000, .int (-1), .int (-1), .int 0, .ref a13, .ref a14, .ref a15, .ref a16, .ref a17, .ref a18, .long 0, .ref a19]))]) (w1 := [(a20, .inl (G.2 0, 36, .inl (upd (upd (upd (upd (upd (upd (fun _ => 0) 0 0) 1 0) 2 0) 3 0) 4 0) 5 0))), (a18, .inr (6, [.int 6, .int 6, .ref a20, .int 1]))]) hP hD [4, 3] [0, 1, 2] rfl rfl (by decide) (by decide) hk1 hFc hP1 hD1
                    generalize H1 = H at hP hS ⊢
                    have hP : va_P G.1 vwCl [(a0, .inr (11, [.ref a1, .ref a2, .ref a3, .ref a4, .ref a5, .ref a6, .ref a7, .ref a8, .ref a9, .ref a10, .int 0, .int 0, .int (-1), .ref a11, .int 0, .ref a12, .int 0])), (a12, .inl (G.2 0, 5, .inl (fun _ => 0))), (a1, .inr (1, [.long 0, .int 1000, .int (-1), .int (-1), .int 0, .ref a13, .ref a14, .ref a15, .ref a16, .ref a17, .ref a18, .long 0, .ref a19])), (a20, .inl (G.2 0, 36, .inl (upd (upd (upd (upd (upd (upd (fun _ => 0) 0 0) 1 0) 2 0) 3 0) 4 0) 5 0))), (a18, .inr (6, [.int 6, .int 6, .ref a20, .int 1]))] H := hP
                    have hD : va_D A [(a0, .inr (11, [.ref a1, .ref a2, .ref a3, .ref a4, .ref a5, .ref a6, .ref a7, .ref a8, .ref a9, .ref a10, .int 0, .int 0, .int (-1), .ref a11, .int 0, .ref a12, .int 0])), (a12, .inl (G.2 0, 5, .inl (fun _ => 0))), (a1, .inr (1, [.long 0, .int 1000, .int (-1), .int (-1), .int 0, .ref a13, .ref a14, .ref a15, .ref a16, .ref a17, .ref a18, .long 0, .ref a19])), (a20, .inl (G.2 0, 36, .inl (upd (upd (upd (upd (upd (upd (fun _ => 0) 0 0) 1 0) 2 0) 3 0) 4 0) 5 0))), (a18, .inr (6, [.int 6, .int 6, .ref a20, .int 1]))] := hD
                    refine lv_istore (lv' := [(7, .int 0), (0, .ref a0), (1, .int n0), (2, .int n1), (3, .int n2), (4, .int n3), (5, .int n4), (6, .int n5)]) hx hb dX11_wish_70 hl (by decide) rfl (fun ls hl => ?_)
                    refine lv_aload_n hx hb dX11_wish_72 rfl (lv_at hl 1 rfl) ?_
                    refine va_get (D := G.1) (ci := 11) (v := .ref a1) (C := RX11) (T := TX11) (N := 17) hx hb hts inG_X11 hown hK hP 0 rfl rfl 0 (by decide) (hts _ fl_X11_12) (fun _ h9 => h9) rfl dX11_wish_73 ?_
                    refine va_get (D := G.1) (ci := 1) (v := .ref a18) (C := RX1) (T := TX1) (N := 13) hx hb hts inG_X1 hown hK hP 2 rfl rfl 10 (by decide) (hts _ fl_X11_309) (fun _ h9 => h9) rfl dX11_wish_76 ?_
                    refine lv_iload hx hb dX11_wish_79 (lv_at hl 0 rfl) ?_
                    refine lv_iload_n hx hb dX11_wish_81 rfl (lv_at hl 2 rfl) ?_
                    refine lv_iload_n hx hb dX11_wish_82 rfl (lv_at hl 3 rfl) ?_
                    refine lv_iload_n hx hb dX11_wish_83 rfl (lv_at hl 4 rfl) ?_
                    have hPc := hP.sub (ws' := [(a18, .inr (6, [.int 6, .int 6, .ref a20, .int 1])), (a20, .inl (G.2 0, 36, .inl (upd (upd (upd (upd (upd (upd (fun _ => 0) 0 0) 1 0) 2 0) 3 0) 4 0) 5 0)))]) [4, 3] rfl
                    have hDc := hD.sub (ws' := [(a18, .inr (6, [.int 6, .int 6, .ref a20, .int 1])), (a20, .inl (G.2 0, 36, .inl (upd (upd (upd (upd (upd (upd (fun _ => 0) 0 0) 1 0) 2 0) 3 0) 4 0) 5 0)))]) [4, 3] (by decide) rfl
                    have hFc := va_free (wc := [(a18, .inr (6, [.int 6, .int 6, .ref a20, .int 1])), (a20, .inl (G.2 0, 36, .inl (upd (upd (upd (upd (upd (upd (fun _ => 0) 0 0) 1 0) 2 0) 3 0) 4 0) 5 0)))]) hD hS hA [4, 3] rfl
                    refine va_callv (va_runV (As := [.int 0, .int n0, .int n1, .int n2]) (rest := []) ⟨hx, hb, hml, hown, hts⟩ (kX6_setLook_2 l G a18 a20 H.size n0 n1 n2 (upd (upd (upd (upd (upd (upd (fun _ => 0) 0 0) 1 0) 2 0) 3 0) 4 0) 5 0) ⟨by omega, by omega⟩ ⟨by omega, by omega⟩ ⟨by omega, by omega⟩) (cwV 4 hts gV_X11_268 rfl rfl rfl hv_X6_setLook ⟨Nat.le_of_ble_eq_true rfl, Nat.le_of_ble_eq_true rfl⟩) (g5_preV hPc hK hDc hN hT hS hFc (ci := 6) (q0 := 0) rfl rfl) rfl rfl hl.1 rfl (lv_room (Nat.le_of_ble_eq_true rfl)) dX11_wish_84 ⟨Nat.le_of_ble_eq_true rfl, Nat.le_of_ble_eq_true rfl⟩) hS (fun q _ h => hFc q h) hFc (fun u t H1 locs ht hvm hw hB hz1 hk1 hS => ?_)
                    obtain ⟨hP1, hD1⟩ := hB
                    rw [ht] at hP1
                    obtain rfl := hw
                    obtain ⟨hP, hD⟩ := va_join (wr := [(a0, .inr (11, [.ref a1, .ref a2, .ref a3, .ref a4, .ref a5, .ref a6, .ref a7, .ref a8, .ref a9, .ref a10, .int 0, .int 0, .int (-1), .ref a11, .int 0, .ref a12, .int 0])), (a12, .inl (G.2 0, 5, .inl (fun _ => 0))), (a1, .inr (1, [.long 0, .int 1000, .int (-1), .int (-1), .int 0, .ref a13, .ref a14, .ref a15, .ref a16, .ref a17, .ref a18, .long 0, .ref a19]))]) (w1 := [(a20, .inl (G.2 0, 36, .inl (upd (upd (upd (upd (upd (upd (upd (upd (upd (fun _ => 0) 0 0) 1 0) 2 0) 3 0) 4 0) 5 0) 0 n0) 1 n1) 2 n2))), (a18, .inr (6, [.int 6, .int 6, .ref a20, .int 1]))]) hP hD [4, 3] [0, 1, 2] rfl rfl (by decide) (by decide) hk1 hFc hP1 hD1
                    generalize H1 = H at hP hS ⊢
                    have hP : va_P G.1 vwCl [(a0, .inr (11, [.ref a1, .ref a2, .ref a3, .ref a4, .ref a5, .ref a6, .ref a7, .ref a8, .ref a9, .ref a10, .int 0, .int 0, .int (-1), .ref a11, .int 0, .ref a12, .int 0])), (a12, .inl (G.2 0, 5, .inl (fun _ => 0))), (a1, .inr (1, [.long 0, .int 1000, .int (-1), .int (-1), .int 0, .ref a13, .ref a14, .ref a15, .ref a16, .ref a17, .ref a18, .long 0, .ref a19])), (a20, .inl (G.2 0, 36, .inl (upd (upd (upd (upd (upd (upd (upd (upd (upd (fun _ => 0) 0 0) 1 0) 2 0) 3 0) 4 0) 5 0) 0 n0) 1 n1) 2 n2))), (a18, .inr (6, [.int 6, .int 6, .ref a20, .int 1]))] H := hP
                    have hD : va_D A [(a0, .inr (11, [.ref a1, .ref a2, .ref a3, .ref a4, .ref a5, .ref a6, .ref a7, .ref a8, .ref a9, .ref a10, .int 0, .int 0, .int (-1), .ref a11, .int 0, .ref a12, .int 0])), (a12, .inl (G.2 0, 5, .inl (fun _ => 0))), (a1, .inr (1, [.long 0, .int 1000, .int (-1), .int (-1), .int 0, .ref a13, .ref a14, .ref a15, .ref a16, .ref a17, .ref a18, .long 0, .ref a19])), (a20, .inl (G.2 0, 36, .inl (upd (upd (upd (upd (upd (upd (upd (upd (upd (fun _ => 0) 0 0) 1 0) 2 0) 3 0) 4 0) 5 0) 0 n0) 1 n1) 2 n2))), (a18, .inr (6, [.int 6, .int 6, .ref a20, .int 1]))] := hD
                    refine lv_aload_n hx hb dX11_wish_87 rfl (lv_at hl 1 rfl) ?_
                    refine va_get (D := G.1) (ci := 11) (v := .ref a1) (C := RX11) (T := TX11) (N := 17) hx hb hts inG_X11 hown hK hP 0 rfl rfl 0 (by decide) (hts _ fl_X11_12) (fun _ h9 => h9) rfl dX11_wish_88 ?_
                    refine va_get (D := G.1) (ci := 1) (v := .ref a18) (C := RX1) (T := TX1) (N := 13) hx hb hts inG_X1 hown hK hP 2 rfl rfl 10 (by decide) (hts _ fl_X11_309) (fun _ h9 => h9) rfl dX11_wish_91 ?_
                    refine lv_iload hx hb dX11_wish_94 (lv_at hl 0 rfl) ?_
                    refine lv_iconst (v := 3) hx hb dX11_wish_96 (by decide) ?_
                    refine lv_iload hx hb dX11_wish_97 (lv_at hl 5 rfl) ?_
                    have hPc := hP.sub (ws' := [(a18, .inr (6, [.int 6, .int 6, .ref a20, .int 1])), (a20, .inl (G.2 0, 36, .inl (upd (upd (upd (upd (upd (upd (upd (upd (upd (fun _ => 0) 0 0) 1 0) 2 0) 3 0) 4 0) 5 0) 0 n0) 1 n1) 2 n2)))]) [4, 3] rfl
                    have hDc := hD.sub (ws' := [(a18, .inr (6, [.int 6, .int 6, .ref a20, .int 1])), (a20, .inl (G.2 0, 36, .inl (upd (upd (upd (upd (upd (upd (upd (upd (upd (fun _ => 0) 0 0) 1 0) 2 0) 3 0) 4 0) 5 0) 0 n0) 1 n1) 2 n2)))]) [4, 3] (by decide) rfl
                    have hFc := va_free (wc := [(a18, .inr (6, [.int 6, .int 6, .ref a20, .int 1])), (a20, .inl (G.2 0, 36, .inl (upd (upd (upd (upd (upd (upd (upd (upd (upd (fun _ => 0) 0 0) 1 0) 2 0) 3 0) 4 0) 5 0) 0 n0) 1 n1) 2 n2)))]) hD hS hA [4, 3] rfl
                    refine va_callv (va_runV (As := [.int 0, .int 3, .int n3]) (rest := []) ⟨hx, hb, hml, hown, hts⟩ (kX6_set_60 l G a18 a20 H.size n3 (upd (upd (upd (upd (upd (upd (upd (upd (upd (fun _ => 0) 0 0) 1 0) 2 0) 3 0) 4 0) 5 0) 0 n0) 1 n1) 2 n2) ⟨by omega, by omega⟩) (cwV 3 hts gV_X11_149 rfl rfl rfl hv_X6_set ⟨Nat.le_of_ble_eq_true rfl, Nat.le_of_ble_eq_true rfl⟩) (g5_preV hPc hK hDc hN hT hS hFc (ci := 6) (q0 := 0) rfl rfl) rfl rfl hl.1 rfl (lv_room (Nat.le_of_ble_eq_true rfl)) dX11_wish_99 ⟨Nat.le_of_ble_eq_true rfl, Nat.le_of_ble_eq_true rfl⟩) hS (fun q _ h => hFc q h) hFc (fun u t H1 locs ht hvm hw hB hz1 hk1 hS => ?_)
                    obtain ⟨hP1, hD1⟩ := hB
                    rw [ht] at hP1
                    obtain rfl := hw
                    obtain ⟨hP, hD⟩ := va_join (wr := [(a0, .inr (11, [.ref a1, .ref a2, .ref a3, .ref a4, .ref a5, .ref a6, .ref a7, .ref a8, .ref a9, .ref a10, .int 0, .int 0, .int (-1), .ref a11, .int 0, .ref a12, .int 0])), (a12, .inl (G.2 0, 5, .inl (fun _ => 0))), (a1, .inr (1, [.long 0, .int 1000, .int (-1), .int (-1), .int 0, .ref a13, .ref a14, .ref a15, .ref a16, .ref a17, .ref a18, .long 0, .ref a19]))]) (w1 := [(a20, .inl (G.2 0, 36, .inl (upd (upd (upd (upd (upd (upd (upd (upd (upd (upd (fun _ => 0) 0 0) 1 0) 2 0) 3 0) 4 0) 5 0) 0 n0) 1 n1) 2 n2) 3 n3))), (a18, .inr (6, [.int 6, .int 6, .ref a20, .int 1]))]) hP hD [4, 3] [0, 1, 2] rfl rfl (by decide) (by decide) hk1 hFc hP1 hD1
                    generalize H1 = H at hP hS ⊢
                    have hP : va_P G.1 vwCl [(a0, .inr (11, [.ref a1, .ref a2, .ref a3, .ref a4, .ref a5, .ref a6, .ref a7, .ref a8, .ref a9, .ref a10, .int 0, .int 0, .int (-1), .ref a11, .int 0, .ref a12, .int 0])), (a12, .inl (G.2 0, 5, .inl (fun _ => 0))), (a1, .inr (1, [.long 0, .int 1000, .int (-1), .int (-1), .int 0, .ref a13, .ref a14, .ref a15, .ref a16, .ref a17, .ref a18, .long 0, .ref a19])), (a20, .inl (G.2 0, 36, .inl (upd (upd (upd (upd (upd (upd (upd (upd (upd (upd (fun _ => 0) 0 0) 1 0) 2 0) 3 0) 4 0) 5 0) 0 n0) 1 n1) 2 n2) 3 n3))), (a18, .inr (6, [.int 6, .int 6, .ref a20, .int 1]))] H := hP
                    have hD : va_D A [(a0, .inr (11, [.ref a1, .ref a2, .ref a3, .ref a4, .ref a5, .ref a6, .ref a7, .ref a8, .ref a9, .ref a10, .int 0, .int 0, .int (-1), .ref a11, .int 0, .ref a12, .int 0])), (a12, .inl (G.2 0, 5, .inl (fun _ => 0))), (a1, .inr (1, [.long 0, .int 1000, .int (-1), .int (-1), .int 0, .ref a13, .ref a14, .ref a15, .ref a16, .ref a17, .ref a18, .long 0, .ref a19])), (a20, .inl (G.2 0, 36, .inl (upd (upd (upd (upd (upd (upd (upd (upd (upd (upd (fun _ => 0) 0 0) 1 0) 2 0) 3 0) 4 0) 5 0) 0 n0) 1 n1) 2 n2) 3 n3))), (a18, .inr (6, [.int 6, .int 6, .ref a20, .int 1]))] := hD
                    refine lv_aload_n hx hb dX11_wish_102 rfl (lv_at hl 1 rfl) ?_
                    refine va_get (D := G.1) (ci := 11) (v := .ref a1) (C := RX11) (T := TX11) (N := 17) hx hb hts inG_X11 hown hK hP 0 rfl rfl 0 (by decide) (hts _ fl_X11_12) (fun _ h9 => h9) rfl dX11_wish_103 ?_
                    refine va_get (D := G.1) (ci := 1) (v := .ref a18) (C := RX1) (T := TX1) (N := 13) hx hb hts inG_X1 hown hK hP 2 rfl rfl 10 (by decide) (hts _ fl_X11_309) (fun _ h9 => h9) rfl dX11_wish_106 ?_
                    refine lv_iload hx hb dX11_wish_109 (lv_at hl 0 rfl) ?_
                    refine lv_iconst (v := 4) hx hb dX11_wish_111 (by decide) ?_
                    refine lv_iload hx hb dX11_wish_112 (lv_at hl 6 rfl) ?_
                    have hPc := hP.sub (ws' := [(a18, .inr (6, [.int 6, .int 6, .ref a20, .int 1])), (a20, .inl (G.2 0, 36, .inl (upd (upd (upd (upd (upd (upd (upd (upd (upd (upd (fun _ => 0) 0 0) 1 0) 2 0) 3 0) 4 0) 5 0) 0 n0) 1 n1) 2 n2) 3 n3)))]) [4, 3] rfl
                    have hDc := hD.sub (ws' := [(a18, .inr (6, [.int 6, .int 6, .ref a20, .int 1])), (a20, .inl (G.2 0, 36, .inl (upd (upd (upd (upd (upd (upd (upd (upd (upd (upd (fun _ => 0) 0 0) 1 0) 2 0) 3 0) 4 0) 5 0) 0 n0) 1 n1) 2 n2) 3 n3)))]) [4, 3] (by decide) rfl
                    have hFc := va_free (wc := [(a18, .inr (6, [.int 6, .int 6, .ref a20, .int 1])), (a20, .inl (G.2 0, 36, .inl (upd (upd (upd (upd (upd (upd (upd (upd (upd (upd (fun _ => 0) 0 0) 1 0) 2 0) 3 0) 4 0) 5 0) 0 n0) 1 n1) 2 n2) 3 n3)))]) hD hS hA [4, 3] rfl
                    refine va_callv (va_runV (As := [.int 0, .int 4, .int n4]) (rest := []) ⟨hx, hb, hml, hown, hts⟩ (kX6_set_61 l G a18 a20 H.size n4 (upd (upd (upd (upd (upd (upd (upd (upd (upd (upd (fun _ => 0) 0 0) 1 0) 2 0) 3 0) 4 0) 5 0) 0 n0) 1 n1) 2 n2) 3 n3) ⟨by omega, by omega⟩) (cwV 3 hts gV_X11_149 rfl rfl rfl hv_X6_set ⟨Nat.le_of_ble_eq_true rfl, Nat.le_of_ble_eq_true rfl⟩) (g5_preV hPc hK hDc hN hT hS hFc (ci := 6) (q0 := 0) rfl rfl) rfl rfl hl.1 rfl (lv_room (Nat.le_of_ble_eq_true rfl)) dX11_wish_114 ⟨Nat.le_of_ble_eq_true rfl, Nat.le_of_ble_eq_true rfl⟩) hS (fun q _ h => hFc q h) hFc (fun u t H1 locs ht hvm hw hB hz1 hk1 hS => ?_)
                    obtain ⟨hP1, hD1⟩ := hB
                    rw [ht] at hP1
                    obtain rfl := hw
                    obtain ⟨hP, hD⟩ := va_join (wr := [(a0, .inr (11, [.ref a1, .ref a2, .ref a3, .ref a4, .ref a5, .ref a6, .ref a7, .ref a8, .ref a9, .ref a10, .int 0, .int 0, .int (-1), .ref a11, .int 0, .ref a12, .int 0])), (a12, .inl (G.2 0, 5, .inl (fun _ => 0))), (a1, .inr (1, [.long 0, .int 1000, .int (-1), .int (-1), .int 0, .ref a13, .ref a14, .ref a15, .ref a16, .ref a17, .ref a18, .long 0, .ref a19]))]) (w1 := [(a20, .inl (G.2 0, 36, .inl (upd (upd (upd (upd (upd (upd (upd (upd (upd (upd (upd (fun _ => 0) 0 0) 1 0) 2 0) 3 0) 4 0) 5 0) 0 n0) 1 n1) 2 n2) 3 n3) 4 n4))), (a18, .inr (6, [.int 6, .int 6, .ref a20, .int 1]))]) hP hD [4, 3] [0, 1, 2] rfl rfl (by decide) (by decide) hk1 hFc hP1 hD1
                    generalize H1 = H at hP hS ⊢
                    have hP : va_P G.1 vwCl [(a0, .inr (11, [.ref a1, .ref a2, .ref a3, .ref a4, .ref a5, .ref a6, .ref a7, .ref a8, .ref a9, .ref a10, .int 0, .int 0, .int (-1), .ref a11, .int 0, .ref a12, .int 0])), (a12, .inl (G.2 0, 5, .inl (fun _ => 0))), (a1, .inr (1, [.long 0, .int 1000, .int (-1), .int (-1), .int 0, .ref a13, .ref a14, .ref a15, .ref a16, .ref a17, .ref a18, .long 0, .ref a19])), (a20, .inl (G.2 0, 36, .inl (upd (upd (upd (upd (upd (upd (upd (upd (upd (upd (upd (fun _ => 0) 0 0) 1 0) 2 0) 3 0) 4 0) 5 0) 0 n0) 1 n1) 2 n2) 3 n3) 4 n4))), (a18, .inr (6, [.int 6, .int 6, .ref a20, .int 1]))] H := hP
                    have hD : va_D A [(a0, .inr (11, [.ref a1, .ref a2, .ref a3, .ref a4, .ref a5, .ref a6, .ref a7, .ref a8, .ref a9, .ref a10, .int 0, .int 0, .int (-1), .ref a11, .int 0, .ref a12, .int 0])), (a12, .inl (G.2 0, 5, .inl (fun _ => 0))), (a1, .inr (1, [.long 0, .int 1000, .int (-1), .int (-1), .int 0, .ref a13, .ref a14, .ref a15, .ref a16, .ref a17, .ref a18, .long 0, .ref a19])), (a20, .inl (G.2 0, 36, .inl (upd (upd (upd (upd (upd (upd (upd (upd (upd (upd (upd (fun _ => 0) 0 0) 1 0) 2 0) 3 0) 4 0) 5 0) 0 n0) 1 n1) 2 n2) 3 n3) 4 n4))), (a18, .inr (6, [.int 6, .int 6, .ref a20, .int 1]))] := hD
                    refine lv_aload_n hx hb dX11_wish_117 rfl (lv_at hl 1 rfl) ?_
                    refine va_get (D := G.1) (ci := 11) (v := .ref a1) (C := RX11) (T := TX11) (N := 17) hx hb hts inG_X11 hown hK hP 0 rfl rfl 0 (by decide) (hts _ fl_X11_12) (fun _ h9 => h9) rfl dX11_wish_118 ?_
                    refine va_get (D := G.1) (ci := 1) (v := .ref a18) (C := RX1) (T := TX1) (N := 13) hx hb hts inG_X1 hown hK hP 2 rfl rfl 10 (by decide) (hts _ fl_X11_309) (fun _ h9 => h9) rfl dX11_wish_121 ?_
                    refine lv_iload hx hb dX11_wish_124 (lv_at hl 0 rfl) ?_
                    refine lv_iconst (v := 5) hx hb dX11_wish_126 (by decide) ?_
                    refine lv_iload hx hb dX11_wish_127 (lv_at hl 7 rfl) ?_
                    have hPc := hP.sub (ws' := [(a18, .inr (6, [.int 6, .int 6, .ref a20, .int 1])), (a20, .inl (G.2 0, 36, .inl (upd (upd (upd (upd (upd (upd (upd (upd (upd (upd (upd (fun _ => 0) 0 0) 1 0) 2 0) 3 0) 4 0) 5 0) 0 n0) 1 n1) 2 n2) 3 n3) 4 n4)))]) [4, 3] rfl
                    have hDc := hD.sub (ws' := [(a18, .inr (6, [.int 6, .int 6, .ref a20, .int 1])), (a20, .inl (G.2 0, 36, .inl (upd (upd (upd (upd (upd (upd (upd (upd (upd (upd (upd (fun _ => 0) 0 0) 1 0) 2 0) 3 0) 4 0) 5 0) 0 n0) 1 n1) 2 n2) 3 n3) 4 n4)))]) [4, 3] (by decide) rfl
                    have hFc := va_free (wc := [(a18, .inr (6, [.int 6, .int 6, .ref a20, .int 1])), (a20, .inl (G.2 0, 36, .inl (upd (upd (upd (upd (upd (upd (upd (upd (upd (upd (upd (fun _ => 0) 0 0) 1 0) 2 0) 3 0) 4 0) 5 0) 0 n0) 1 n1) 2 n2) 3 n3) 4 n4)))]) hD hS hA [4, 3] rfl
                    refine va_callv (va_runV (As := [.int 0, .int 5, .int n5]) (rest := []) ⟨hx, hb, hml, hown, hts⟩ (kX6_set_62 l G a18 a20 H.size n5 (upd (upd (upd (upd (upd (upd (upd (upd (upd (upd (upd (fun _ => 0) 0 0) 1 0) 2 0) 3 0) 4 0) 5 0) 0 n0) 1 n1) 2 n2) 3 n3) 4 n4) ⟨by omega, by omega⟩) (cwV 3 hts gV_X11_149 rfl rfl rfl hv_X6_set ⟨Nat.le_of_ble_eq_true rfl, Nat.le_of_ble_eq_true rfl⟩) (g5_preV hPc hK hDc hN hT hS hFc (ci := 6) (q0 := 0) rfl rfl) rfl rfl hl.1 rfl (lv_room (Nat.le_of_ble_eq_true rfl)) dX11_wish_129 ⟨Nat.le_of_ble_eq_true rfl, Nat.le_of_ble_eq_true rfl⟩) hS (fun q _ h => hFc q h) hFc (fun u t H1 locs ht hvm hw hB hz1 hk1 hS => ?_)
                    obtain ⟨hP1, hD1⟩ := hB
                    rw [ht] at hP1
                    obtain rfl := hw
                    obtain ⟨hP, hD⟩ := va_join (wr := [(a0, .inr (11, [.ref a1, .ref a2, .ref a3, .ref a4, .ref a5, .ref a6, .ref a7, .ref a8, .ref a9, .ref a10, .int 0, .int 0, .int (-1), .ref a11, .int 0, .ref a12, .int 0])), (a12, .inl (G.2 0, 5, .inl (fun _ => 0))), (a1, .inr (1, [.long 0, .int 1000, .int (-1), .int (-1), .int 0, .ref a13, .ref a14, .ref a15, .ref a16, .ref a17, .ref a18, .long 0, .ref a19]))]) (w1 := [(a20, .inl (G.2 0, 36, .inl (upd (upd (upd (upd (upd (upd (upd (upd (upd (upd (upd (upd (fun _ => 0) 0 0) 1 0) 2 0) 3 0) 4 0) 5 0) 0 n0) 1 n1) 2 n2) 3 n3) 4 n4) 5 n5))), (a18, .inr (6, [.int 6, .int 6, .ref a20, .int 1]))]) hP hD [4, 3] [0, 1, 2] rfl rfl (by decide) (by decide) hk1 hFc hP1 hD1
                    generalize H1 = H at hP hS ⊢
                    have hP : va_P G.1 vwCl [(a0, .inr (11, [.ref a1, .ref a2, .ref a3, .ref a4, .ref a5, .ref a6, .ref a7, .ref a8, .ref a9, .ref a10, .int 0, .int 0, .int (-1), .ref a11, .int 0, .ref a12, .int 0])), (a12, .inl (G.2 0, 5, .inl (fun _ => 0))), (a1, .inr (1, [.long 0, .int 1000, .int (-1), .int (-1), .int 0, .ref a13, .ref a14, .ref a15, .ref a16, .ref a17, .ref a18, .long 0, .ref a19])), (a20, .inl (G.2 0, 36, .inl (upd (upd (upd (upd (upd (upd (upd (upd (upd (upd (upd (upd (fun _ => 0) 0 0) 1 0) 2 0) 3 0) 4 0) 5 0) 0 n0) 1 n1) 2 n2) 3 n3) 4 n4) 5 n5))), (a18, .inr (6, [.int 6, .int 6, .ref a20, .int 1]))] H := hP
                    have hD : va_D A [(a0, .inr (11, [.ref a1, .ref a2, .ref a3, .ref a4, .ref a5, .ref a6, .ref a7, .ref a8, .ref a9, .ref a10, .int 0, .int 0, .int (-1), .ref a11, .int 0, .ref a12, .int 0])), (a12, .inl (G.2 0, 5, .inl (fun _ => 0))), (a1, .inr (1, [.long 0, .int 1000, .int (-1), .int (-1), .int 0, .ref a13, .ref a14, .ref a15, .ref a16, .ref a17, .ref a18, .long 0, .ref a19])), (a20, .inl (G.2 0, 36, .inl (upd (upd (upd (upd (upd (upd (upd (upd (upd (upd (upd (upd (fun _ => 0) 0 0) 1 0) 2 0) 3 0) 4 0) 5 0) 0 n0) 1 n1) 2 n2) 3 n3) 4 n4) 5 n5))), (a18, .inr (6, [.int 6, .int 6, .ref a20, .int 1]))] := hD
                    refine lv_aload_n hx hb dX11_wish_132 rfl (lv_at hl 1 rfl) ?_
                    refine lv_aload_n hx hb dX11_wish_133 rfl (lv_at hl 1 rfl) ?_
                    refine va_get (D := G.1) (ci := 11) (v := .ref a1) (C := RX11) (T := TX11) (N := 17) hx hb hts inG_X11 hown hK hP 0 rfl rfl 0 (by decide) (hts _ fl_X11_12) (fun _ h9 => h9) rfl dX11_wish_134 ?_
                    refine va_get (D := G.1) (ci := 1) (v := .ref a18) (C := RX1) (T := TX1) (N := 13) hx hb hts inG_X1 hown hK hP 2 rfl rfl 10 (by decide) (hts _ fl_X11_309) (fun _ h9 => h9) rfl dX11_wish_137 ?_
                    refine va_get (D := G.1) (ci := 6) (v := .int 1) (C := RX6) (T := TX6) (N := 4) hx hb hts inG_X6 hown hK hP 4 rfl rfl 3 (by decide) (hts _ fl_X11_238) (fun _ h9 => h9) rfl dX11_wish_140 ?_
                    have hPc := hP.sub (ws' := [(a0, .inr (11, [.ref a1, .ref a2, .ref a3, .ref a4, .ref a5, .ref a6, .ref a7, .ref a8, .ref a9, .ref a10, .int 0, .int 0, .int (-1), .ref a11, .int 0, .ref a12, .int 0]))]) [0] rfl
                    have hDc := hD.sub (ws' := [(a0, .inr (11, [.ref a1, .ref a2, .ref a3, .ref a4, .ref a5, .ref a6, .ref a7, .ref a8, .ref a9, .ref a10, .int 0, .int 0, .int (-1), .ref a11, .int 0, .ref a12, .int 0]))]) [0] (by decide) rfl
                    have hFc := va_free (wc := [(a0, .inr (11, [.ref a1, .ref a2, .ref a3, .ref a4, .ref a5, .ref a6, .ref a7, .ref a8, .ref a9, .ref a10, .int 0, .int 0, .int (-1), .ref a11, .int 0, .ref a12, .int 0]))]) hD hS hA [0] rfl
                    refine va_calli (va_runV (As := [.int 1]) (rest := []) ⟨hx, hb, hml, hown, hts⟩ (kX11_done_5 l G a0 a1 a2 a3 a4 a5 a6 a7 a8 a9 a10 a11 a12 H.size) (cwV 1 hts gV_X11_121 rfl rfl rfl hv_X11_done ⟨Nat.le_of_ble_eq_true rfl, Nat.le_of_ble_eq_true rfl⟩) (g5_preV hPc hK hDc hN hT hS hFc (ci := 11) (q0 := 0) rfl rfl) rfl rfl hl.1 rfl (lv_room (Nat.le_of_ble_eq_true rfl)) dX11_wish_143 ⟨Nat.le_of_ble_eq_true rfl, Nat.le_of_ble_eq_true rfl⟩) hS (fun q _ h => hFc q h) hFc (fun r u t H1 locs ht hvm hw hB hz1 hk1 hS => ?_)
                    obtain ⟨hP1, hD1⟩ := hB
                    rw [ht] at hP1
                    obtain ⟨rfl, rfl⟩ := hw
                    obtain ⟨hP, hD⟩ := va_join (wr := [(a12, .inl (G.2 0, 5, .inl (fun _ => 0))), (a1, .inr (1, [.long 0, .int 1000, .int (-1), .int (-1), .int 0, .ref a13, .ref a14, .ref a15, .ref a16, .ref a17, .ref a18, .long 0, .ref a19])), (a20, .inl (G.2 0, 36, .inl (upd (upd (upd (upd (upd (upd (upd (upd (upd (upd (upd (upd (fun _ => 0) 0 0) 1 0) 2 0) 3 0) 4 0) 5 0) 0 n0) 1 n1) 2 n2) 3 n3) 4 n4) 5 n5))), (a18, .inr (6, [.int 6, .int 6, .ref a20, .int 1]))]) (w1 := [(a0, .inr (11, [.ref a1, .ref a2, .ref a3, .ref a4, .ref a5, .ref a6, .ref a7, .ref a8, .ref a9, .ref a10, .int 0, .int 0, .int (-1), .ref a11, .int 0, .ref a12, .int 0]))]) hP hD [0] [1, 2, 3, 4] rfl rfl (by decide) (by decide) hk1 hFc hP1 hD1
                    generalize H1 = H at hP hS ⊢
                    have hP : va_P G.1 vwCl [(a12, .inl (G.2 0, 5, .inl (fun _ => 0))), (a1, .inr (1, [.long 0, .int 1000, .int (-1), .int (-1), .int 0, .ref a13, .ref a14, .ref a15, .ref a16, .ref a17, .ref a18, .long 0, .ref a19])), (a20, .inl (G.2 0, 36, .inl (upd (upd (upd (upd (upd (upd (upd (upd (upd (upd (upd (upd (fun _ => 0) 0 0) 1 0) 2 0) 3 0) 4 0) 5 0) 0 n0) 1 n1) 2 n2) 3 n3) 4 n4) 5 n5))), (a18, .inr (6, [.int 6, .int 6, .ref a20, .int 1])), (a0, .inr (11, [.ref a1, .ref a2, .ref a3, .ref a4, .ref a5, .ref a6, .ref a7, .ref a8, .ref a9, .ref a10, .int 0, .int 0, .int (-1), .ref a11, .int 0, .ref a12, .int 0]))] H := hP
                    have hD : va_D A [(a12, .inl (G.2 0, 5, .inl (fun _ => 0))), (a1, .inr (1, [.long 0, .int 1000, .int (-1), .int (-1), .int 0, .ref a13, .ref a14, .ref a15, .ref a16, .ref a17, .ref a18, .long 0, .ref a19])), (a20, .inl (G.2 0, 36, .inl (upd (upd (upd (upd (upd (upd (upd (upd (upd (upd (upd (upd (fun _ => 0) 0 0) 1 0) 2 0) 3 0) 4 0) 5 0) 0 n0) 1 n1) 2 n2) 3 n3) 4 n4) 5 n5))), (a18, .inr (6, [.int 6, .int 6, .ref a20, .int 1])), (a0, .inr (11, [.ref a1, .ref a2, .ref a3, .ref a4, .ref a5, .ref a6, .ref a7, .ref a8, .ref a9, .ref a10, .int 0, .int 0, .int (-1), .ref a11, .int 0, .ref a12, .int 0]))] := hD
                    have hP := hP.sub (ws' := []) [] rfl
                    have hD := hD.sub (ws' := []) [] (by decide) rfl
                    exact W.iret (v := 1) hx hb hr (fun t ht hW => ⟨⟨1, [], rfl, Or.inr (Or.inr (Or.inr (Or.inr (Or.inr (Or.inr (Or.inr (Or.inr (Or.inr (Or.inr (Or.inl (⟨i_22, i_23, i_24, i_25, i_26, i_27, i_38, i_39, i_46, i_47, i_51, rfl, rfl⟩))))))))))), by rw [ht]; exact hP, hD⟩, hS.F ht⟩) hS.2.2 dX11_wish_146
                  ·
                    exact absurd c_57 (by decide)
                ·
                  exact absurd c_56 (by decide)
              ·
                have hP := g5_same hP hk1
                generalize H1 = H at hP hS ⊢
                refine lv_if_ne (tgt := 39) hx hb dX11_wish_30 (by decide) (fun c_58 => ?_) (fun c_58 => ?_)
                ·
                  exact absurd c_58 (by decide)
                ·
                  refine lv_aload_n hx hb dX11_wish_33 rfl (lv_at hl 0 rfl) ?_
                  refine lv_iconst (v := (-1)) hx hb dX11_wish_34 (by decide) ?_
                  have hPc := hP.sub (ws' := [(a0, .inr (11, [.ref a1, .ref a2, .ref a3, .ref a4, .ref a5, .ref a6, .ref a7, .ref a8, .ref a9, .ref a10, .int 0, .int 0, .int (-1), .ref a11, .int 0, .ref a12, .int 0])), (a12, .inl (G.2 0, 5, .inl (fun _ => 0)))]) [0, 1] rfl
                  have hDc := hD.sub (ws' := [(a0, .inr (11, [.ref a1, .ref a2, .ref a3, .ref a4, .ref a5, .ref a6, .ref a7, .ref a8, .ref a9, .ref a10, .int 0, .int 0, .int (-1), .ref a11, .int 0, .ref a12, .int 0])), (a12, .inl (G.2 0, 5, .inl (fun _ => 0)))]) [0, 1] (by decide) rfl
                  have hFc := va_free (wc := [(a0, .inr (11, [.ref a1, .ref a2, .ref a3, .ref a4, .ref a5, .ref a6, .ref a7, .ref a8, .ref a9, .ref a10, .int 0, .int 0, .int (-1), .ref a11, .int 0, .ref a12, .int 0])), (a12, .inl (G.2 0, 5, .inl (fun _ => 0)))]) hD hS hA [0, 1] rfl
                  refine va_calli (va_runV (As := [.int (-1)]) (rest := []) ⟨hx, hb, hml, hown, hts⟩ (kX11_refuse l G a0 a1 a2 a3 a4 a5 a6 a7 a8 a9 a10 a11 a12 H.size) (cwV 1 hts gV_X11_104 rfl rfl rfl hv_X11_refuse ⟨Nat.le_of_ble_eq_true rfl, Nat.le_of_ble_eq_true rfl⟩) (g5_preV hPc hK hDc hN hT hS hFc (ci := 11) (q0 := 0) rfl rfl) rfl rfl hl.1 rfl (lv_room (Nat.le_of_ble_eq_true rfl)) dX11_wish_35 ⟨Nat.le_of_ble_eq_true rfl, Nat.le_of_ble_eq_true rfl⟩) hS (fun q _ h => hFc q h) hFc (fun r u t H1 locs ht hvm hw hB hz1 hk1 hS => ?_)
                  obtain ⟨hP1, hD1⟩ := hB
                  rw [ht] at hP1
                  obtain ⟨rfl, rfl⟩ := hw
                  obtain ⟨hP, hD⟩ := va_join (wr := [(a1, .inr (1, [.long 0, .int 1000, .int (-1), .int (-1), .int 0, .ref a13, .ref a14, .ref a15, .ref a16, .ref a17, .ref a18, .long 0, .ref a19])), (a18, .inr (6, [.int 6, .int 6, .ref a20, .int 0])), (a20, .inl (G.2 0, 36, .inl (fun _ => 0)))]) (w1 := [(a0, .inr (11, [.ref a1, .ref a2, .ref a3, .ref a4, .ref a5, .ref a6, .ref a7, .ref a8, .ref a9, .ref a10, .int 0, .int 0, .int (-1), .ref a11, .int 0, .ref a12, .int (-1)])), (a12, .inl (G.2 0, 5, .inl (upd (fun _ => 0) 0 1)))]) hP hD [0, 1] [2, 3, 4] rfl rfl (by decide) (by decide) hk1 hFc hP1 hD1
                  generalize H1 = H at hP hS ⊢
                  have hP : va_P G.1 vwCl [(a1, .inr (1, [.long 0, .int 1000, .int (-1), .int (-1), .int 0, .ref a13, .ref a14, .ref a15, .ref a16, .ref a17, .ref a18, .long 0, .ref a19])), (a18, .inr (6, [.int 6, .int 6, .ref a20, .int 0])), (a20, .inl (G.2 0, 36, .inl (fun _ => 0))), (a0, .inr (11, [.ref a1, .ref a2, .ref a3, .ref a4, .ref a5, .ref a6, .ref a7, .ref a8, .ref a9, .ref a10, .int 0, .int 0, .int (-1), .ref a11, .int 0, .ref a12, .int (-1)])), (a12, .inl (G.2 0, 5, .inl (upd (fun _ => 0) 0 1)))] H := hP
                  have hD : va_D A [(a1, .inr (1, [.long 0, .int 1000, .int (-1), .int (-1), .int 0, .ref a13, .ref a14, .ref a15, .ref a16, .ref a17, .ref a18, .long 0, .ref a19])), (a18, .inr (6, [.int 6, .int 6, .ref a20, .int 0])), (a20, .inl (G.2 0, 36, .inl (fun _ => 0))), (a0, .inr (11, [.ref a1, .ref a2, .ref a3, .ref a4, .ref a5, .ref a6, .ref a7, .ref a8, .ref a9, .ref a10, .int 0, .int 0, .int (-1), .ref a11, .int 0, .ref a12, .int (-1)])), (a12, .inl (G.2 0, 5, .inl (upd (fun _ => 0) 0 1)))] := hD
                  have hP := hP.sub (ws' := []) [] rfl
                  have hD := hD.sub (ws' := []) [] (by decide) rfl
                  exact W.iret (v := (-1)) hx hb hr (fun t ht hW => ⟨⟨(-1), [], rfl, Or.inr (Or.inr (Or.inr (Or.inr (Or.inr (Or.inr (Or.inr (Or.inr (Or.inr (Or.inr (Or.inr (Or.inl (⟨i_22, i_23, i_24, i_25, i_26, i_27, i_38, i_39, i_46, i_47, i_52, i_53, rfl, rfl⟩)))))))))))), by rw [ht]; exact hP, hD⟩, hS.F ht⟩) hS.2.2 dX11_wish_38
              ·
                have hP := g5_same hP hk1
                generalize H1 = H at hP hS ⊢
                refine lv_if_ne (tgt := 39) hx hb dX11_wish_30 (by decide) (fun c_59 => ?_) (fun c_59 => ?_)
                ·
                  refine lv_aload_n hx hb dX11_wish_39 rfl (lv_at hl 0 rfl) ?_
                  refine va_get (D := G.1) (ci := 11) (v := .ref a1) (C := RX11) (T := TX11) (N := 17) hx hb hts inG_X11 hown hK hP 0 rfl rfl 0 (by decide) (hts _ fl_X11_12) (fun _ h9 => h9) rfl dX11_wish_40 ?_
                  refine va_get (D := G.1) (ci := 1) (v := .ref a18) (C := RX1) (T := TX1) (N := 13) hx hb hts inG_X1 hown hK hP 2 rfl rfl 10 (by decide) (hts _ fl_X11_309) (fun _ h9 => h9) rfl dX11_wish_43 ?_
                  have hPc := hP.sub (ws' := [(a18, .inr (6, [.int 6, .int 6, .ref a20, .int 0]))]) [3] rfl
                  have hDc := hD.sub (ws' := [(a18, .inr (6, [.int 6, .int 6, .ref a20, .int 0]))]) [3] (by decide) rfl
                  have hFc := va_free (wc := [(a18, .inr (6, [.int 6, .int 6, .ref a20, .int 0]))]) hD hS hA [3] rfl
                  refine va_calli (va_runV (As := []) (rest := []) ⟨hx, hb, hml, hown, hts⟩ (kX6_isFull_5 l G a18 a20 H.size) (cwV 0 hts gV_X11_140 rfl rfl rfl hv_X6_isFull ⟨Nat.le_of_ble_eq_true rfl, Nat.le_of_ble_eq_true rfl⟩) (g5_preV hPc hK hDc hN hT hS hFc (ci := 6) (q0 := 0) rfl rfl) rfl rfl hl.1 rfl (lv_room (Nat.le_of_ble_eq_true rfl)) dX11_wish_46 ⟨Nat.le_of_ble_eq_true rfl, Nat.le_of_ble_eq_true rfl⟩) hS (fun q _ h => hFc q h) hFc (fun r u t H1 locs ht hvm hw hB hz1 hk1 hS => ?_)
                  obtain ⟨hP1, hD1⟩ := hB
                  rw [ht] at hP1
                  obtain ⟨rfl, rfl⟩ := hw
                  obtain ⟨hP, hD⟩ := va_join (wr := [(a0, .inr (11, [.ref a1, .ref a2, .ref a3, .ref a4, .ref a5, .ref a6, .ref a7, .ref a8, .ref a9, .ref a10, .int 0, .int 0, .int (-1), .ref a11, .int 0, .ref a12, .int 0])), (a12, .inl (G.2 0, 5, .inl (fun _ => 0))), (a1, .inr (1, [.long 0, .int 1000, .int (-1), .int (-1), .int 0, .ref a13, .ref a14, .ref a15, .ref a16, .ref a17, .ref a18, .long 0, .ref a19])), (a20, .inl (G.2 0, 36, .inl (fun _ => 0)))]) (w1 := [(a18, .inr (6, [.int 6, .int 6, .ref a20, .int 0]))]) hP hD [3] [0, 1, 2, 4] rfl rfl (by decide) (by decide) hk1 hFc hP1 hD1
                  generalize H1 = H at hP hS ⊢
                  have hP : va_P G.1 vwCl [(a0, .inr (11, [.ref a1, .ref a2, .ref a3, .ref a4, .ref a5, .ref a6, .ref a7, .ref a8, .ref a9, .ref a10, .int 0, .int 0, .int (-1), .ref a11, .int 0, .ref a12, .int 0])), (a12, .inl (G.2 0, 5, .inl (fun _ => 0))), (a1, .inr (1, [.long 0, .int 1000, .int (-1), .int (-1), .int 0, .ref a13, .ref a14, .ref a15, .ref a16, .ref a17, .ref a18, .long 0, .ref a19])), (a20, .inl (G.2 0, 36, .inl (fun _ => 0))), (a18, .inr (6, [.int 6, .int 6, .ref a20, .int 0]))] H := hP
                  have hD : va_D A [(a0, .inr (11, [.ref a1, .ref a2, .ref a3, .ref a4, .ref a5, .ref a6, .ref a7, .ref a8, .ref a9, .ref a10, .int 0, .int 0, .int (-1), .ref a11, .int 0, .ref a12, .int 0])), (a12, .inl (G.2 0, 5, .inl (fun _ => 0))), (a1, .inr (1, [.long 0, .int 1000, .int (-1), .int (-1), .int 0, .ref a13, .ref a14, .ref a15, .ref a16, .ref a17, .ref a18, .long 0, .ref a19])), (a20, .inl (G.2 0, 36, .inl (fun _ => 0))), (a18, .inr (6, [.int 6, .int 6, .ref a20, .int 0]))] := hD
                  refine lv_if_eq (tgt := 59) hx hb dX11_wish_49 (by decide) (fun c_60 => ?_) (fun c_60 => ?_)
                  ·
                    refine lv_aload_n hx hb dX11_wish_59 rfl (lv_at hl 0 rfl) ?_
                    refine va_get (D := G.1) (ci := 11) (v := .ref a1) (C := RX11) (T := TX11) (N := 17) hx hb hts inG_X11 hown hK hP 0 rfl rfl 0 (by decide) (hts _ fl_X11_12) (fun _ h9 => h9) rfl dX11_wish_60 ?_
                    refine va_get (D := G.1) (ci := 1) (v := .ref a18) (C := RX1) (T := TX1) (N := 13) hx hb hts inG_X1 hown hK hP 2 rfl rfl 10 (by decide) (hts _ fl_X11_309) (fun _ h9 => h9) rfl dX11_wish_63 ?_
                    refine lv_iconst (v := 0) hx hb dX11_wish_66 (by decide) ?_
                    have hPc := hP.sub (ws' := [(a18, .inr (6, [.int 6, .int 6, .ref a20, .int 0])), (a20, .inl (G.2 0, 36, .inl (fun _ => 0)))]) [4, 3] rfl
                    have hDc := hD.sub (ws' := [(a18, .inr (6, [.int 6, .int 6, .ref a20, .int 0])), (a20, .inl (G.2 0, 36, .inl (fun _ => 0)))]) [4, 3] (by decide) rfl
                    have hFc := va_free (wc := [(a18, .inr (6, [.int 6, .int 6, .ref a20, .int 0])), (a20, .inl (G.2 0, 36, .inl (fun _ => 0)))]) hD hS hA [4, 3] rfl
                    refine va_calli (va_runV (As := [.int 0]) (rest := []) ⟨hx, hb, hml, hown, hts⟩ (kX6_open_5 l G a18 a20 H.size) (cwV 1 hts gV_X11_146 rfl rfl rfl hv_X6_open ⟨Nat.le_of_ble_eq_true rfl, Nat.le_of_ble_eq_true rfl⟩) (g5_preV hPc hK hDc hN hT hS hFc (ci := 6) (q0 := 0) rfl rfl) rfl rfl hl.1 rfl (lv_room (Nat.le_of_ble_eq_true rfl)) dX11_wish_67 ⟨Nat.le_of_ble_eq_true rfl, Nat.le_of_ble_eq_true rfl⟩) hS (fun q _ h => hFc q h) hFc (fun r u t H1 locs ht hvm hw hB hz1 hk1 hS => ?_)
                    obtain ⟨hP1, hD1⟩ := hB
                    rw [ht] at hP1
                    obtain ⟨rfl, rfl⟩ := hw
                    obtain ⟨hP, hD⟩ := va_join (wr := [(a0, .inr (11, [.ref a1, .ref a2, .ref a3, .ref a4, .ref a5, .ref a6, .ref a7, .ref a8, .ref a9, .ref a10, .int 0, .int 0, .int (-1), .ref a11, .int 0, .ref a12, .int 0])), (a12, .inl (G.2 0, 5, .inl (fun _ => 0))), (a1, .inr (1, [.long 0, .int 1000, .int (-1), .int (-1), .int 0, .ref a13, .ref a14, .ref a15, .ref a16, .ref a17, .ref a18, .long 0, .ref a19]))]) (w1 := [(a20, .inl (G.2 0, 36, .inl (upd (upd (upd (upd (upd (upd (fun _ => 0) 0 0) 1 0) 2 0) 3 0) 4 0) 5 0))), (a18, .inr (6, [.int 6, .int 6, .ref a20, .int 1]))]) hP hD [4, 3] [0, 1, 2] rfl rfl (by decide) (by decide) hk1 hFc hP1 hD1
                    generalize H1 = H at hP hS ⊢
                    have hP : va_P G.1 vwCl [(a0, .inr (11, [.ref a1, .ref a2, .ref a3, .ref a4, .ref a5, .ref a6, .ref a7, .ref a8, .ref a9, .ref a10, .int 0, .int 0, .int (-1), .ref a11, .int 0, .ref a12, .int 0])), (a12, .inl (G.2 0, 5, .inl (fun _ => 0))), (a1, .inr (1, [.long 0, .int 1000, .int (-1), .int (-1), .int 0, .ref a13, .ref a14, .ref a15, .ref a16, .ref a17, .ref a18, .long 0, .ref a19])), (a20, .inl (G.2 0, 36, .inl (upd (upd (upd (upd (upd (upd (fun _ => 0) 0 0) 1 0) 2 0) 3 0) 4 0) 5 0))), (a18, .inr (6, [.int 6, .int 6, .ref a20, .int 1]))] H := hP
                    have hD : va_D A [(a0, .inr (11, [.ref a1, .ref a2, .ref a3, .ref a4, .ref a5, .ref a6, .ref a7, .ref a8, .ref a9, .ref a10, .int 0, .int 0, .int (-1), .ref a11, .int 0, .ref a12, .int 0])), (a12, .inl (G.2 0, 5, .inl (fun _ => 0))), (a1, .inr (1, [.long 0, .int 1000, .int (-1), .int (-1), .int 0, .ref a13, .ref a14, .ref a15, .ref a16, .ref a17, .ref a18, .long 0, .ref a19])), (a20, .inl (G.2 0, 36, .inl (upd (upd (upd (upd (upd (upd (fun _ => 0) 0 0) 1 0) 2 0) 3 0) 4 0) 5 0))), (a18, .inr (6, [.int 6, .int 6, .ref a20, .int 1]))] := hD
                    refine lv_istore (lv' := [(7, .int 0), (0, .ref a0), (1, .int n0), (2, .int n1), (3, .int n2), (4, .int n3), (5, .int n4), (6, .int n5)]) hx hb dX11_wish_70 hl (by decide) rfl (fun ls hl => ?_)
                    refine lv_aload_n hx hb dX11_wish_72 rfl (lv_at hl 1 rfl) ?_
                    refine va_get (D := G.1) (ci := 11) (v := .ref a1) (C := RX11) (T := TX11) (N := 17) hx hb hts inG_X11 hown hK hP 0 rfl rfl 0 (by decide) (hts _ fl_X11_12) (fun _ h9 => h9) rfl dX11_wish_73 ?_
                    refine va_get (D := G.1) (ci := 1) (v := .ref a18) (C := RX1) (T := TX1) (N := 13) hx hb hts inG_X1 hown hK hP 2 rfl rfl 10 (by decide) (hts _ fl_X11_309) (fun _ h9 => h9) rfl dX11_wish_76 ?_
                    refine lv_iload hx hb dX11_wish_79 (lv_at hl 0 rfl) ?_
                    refine lv_iload_n hx hb dX11_wish_81 rfl (lv_at hl 2 rfl) ?_
                    refine lv_iload_n hx hb dX11_wish_82 rfl (lv_at hl 3 rfl) ?_
                    refine lv_iload_n hx hb dX11_wish_83 rfl (lv_at hl 4 rfl) ?_
                    have hPc := hP.sub (ws' := [(a18, .inr (6, [.int 6, .int 6, .ref a20, .int 1])), (a20, .inl (G.2 0, 36, .inl (upd (upd (upd (upd (upd (upd (fun _ => 0) 0 0) 1 0) 2 0) 3 0) 4 0) 5 0)))]) [4, 3] rfl
                    have hDc := hD.sub (ws' := [(a18, .inr (6, [.int 6, .int 6, .ref a20, .int 1])), (a20, .inl (G.2 0, 36, .inl (upd (upd (upd (upd (upd (upd (fun _ => 0) 0 0) 1 0) 2 0) 3 0) 4 0) 5 0)))]) [4, 3] (by decide) rfl
                    have hFc := va_free (wc := [(a18, .inr (6, [.int 6, .int 6, .ref a20, .int 1])), (a20, .inl (G.2 0, 36, .inl (upd (upd (upd (upd (upd (upd (fun _ => 0) 0 0) 1 0) 2 0) 3 0) 4 0) 5 0)))]) hD hS hA [4, 3] rfl
                    refine va_callv (va_runV (As := [.int 0, .int n0, .int n1, .int n2]) (rest := []) ⟨hx, hb, hml, hown, hts⟩ (kX6_setLook_2 l G a18 a20 H.size n0 n1 n2 (upd (upd (upd (upd (upd (upd (fun _ => 0) 0 0) 1 0) 2 0) 3 0) 4 0) 5 0) ⟨by omega, by omega⟩ ⟨by omega, by omega⟩ ⟨by omega, by omega⟩) (cwV 4 hts gV_X11_268 rfl rfl rfl hv_X6_setLook ⟨Nat.le_of_ble_eq_true rfl, Nat.le_of_ble_eq_true rfl⟩) (g5_preV hPc hK hDc hN hT hS hFc (ci := 6) (q0 := 0) rfl rfl) rfl rfl hl.1 rfl (lv_room (Nat.le_of_ble_eq_true rfl)) dX11_wish_84 ⟨Nat.le_of_ble_eq_true rfl, Nat.le_of_ble_eq_true rfl⟩) hS (fun q _ h => hFc q h) hFc (fun u t H1 locs ht hvm hw hB hz1 hk1 hS => ?_)
                    obtain ⟨hP1, hD1⟩ := hB
                    rw [ht] at hP1
                    obtain rfl := hw
                    obtain ⟨hP, hD⟩ := va_join (wr := [(a0, .inr (11, [.ref a1, .ref a2, .ref a3, .ref a4, .ref a5, .ref a6, .ref a7, .ref a8, .ref a9, .ref a10, .int 0, .int 0, .int (-1), .ref a11, .int 0, .ref a12, .int 0])), (a12, .inl (G.2 0, 5, .inl (fun _ => 0))), (a1, .inr (1, [.long 0, .int 1000, .int (-1), .int (-1), .int 0, .ref a13, .ref a14, .ref a15, .ref a16, .ref a17, .ref a18, .long 0, .ref a19]))]) (w1 := [(a20, .inl (G.2 0, 36, .inl (upd (upd (upd (upd (upd (upd (upd (upd (upd (fun _ => 0) 0 0) 1 0) 2 0) 3 0) 4 0) 5 0) 0 n0) 1 n1) 2 n2))), (a18, .inr (6, [.int 6, .int 6, .ref a20, .int 1]))]) hP hD [4, 3] [0, 1, 2] rfl rfl (by decide) (by decide) hk1 hFc hP1 hD1
                    generalize H1 = H at hP hS ⊢
                    have hP : va_P G.1 vwCl [(a0, .inr (11, [.ref a1, .ref a2, .ref a3, .ref a4, .ref a5, .ref a6, .ref a7, .ref a8, .ref a9, .ref a10, .int 0, .int 0, .int (-1), .ref a11, .int 0, .ref a12, .int 0])), (a12, .inl (G.2 0, 5, .inl (fun _ => 0))), (a1, .inr (1, [.long 0, .int 1000, .int (-1), .int (-1), .int 0, .ref a13, .ref a14, .ref a15, .ref a16, .ref a17, .ref a18, .long 0, .ref a19])), (a20, .inl (G.2 0, 36, .inl (upd (upd (upd (upd (upd (upd (upd (upd (upd (fun _ => 0) 0 0) 1 0) 2 0) 3 0) 4 0) 5 0) 0 n0) 1 n1) 2 n2))), (a18, .inr (6, [.int 6, .int 6, .ref a20, .int 1]))] H := hP
                    have hD : va_D A [(a0, .inr (11, [.ref a1, .ref a2, .ref a3, .ref a4, .ref a5, .ref a6, .ref a7, .ref a8, .ref a9, .ref a10, .int 0, .int 0, .int (-1), .ref a11, .int 0, .ref a12, .int 0])), (a12, .inl (G.2 0, 5, .inl (fun _ => 0))), (a1, .inr (1, [.long 0, .int 1000, .int (-1), .int (-1), .int 0, .ref a13, .ref a14, .ref a15, .ref a16, .ref a17, .ref a18, .long 0, .ref a19])), (a20, .inl (G.2 0, 36, .inl (upd (upd (upd (upd (upd (upd (upd (upd (upd (fun _ => 0) 0 0) 1 0) 2 0) 3 0) 4 0) 5 0) 0 n0) 1 n1) 2 n2))), (a18, .inr (6, [.int 6, .int 6, .ref a20, .int 1]))] := hD
                    refine lv_aload_n hx hb dX11_wish_87 rfl (lv_at hl 1 rfl) ?_
                    refine va_get (D := G.1) (ci := 11) (v := .ref a1) (C := RX11) (T := TX11) (N := 17) hx hb hts inG_X11 hown hK hP 0 rfl rfl 0 (by decide) (hts _ fl_X11_12) (fun _ h9 => h9) rfl dX11_wish_88 ?_
                    refine va_get (D := G.1) (ci := 1) (v := .ref a18) (C := RX1) (T := TX1) (N := 13) hx hb hts inG_X1 hown hK hP 2 rfl rfl 10 (by decide) (hts _ fl_X11_309) (fun _ h9 => h9) rfl dX11_wish_91 ?_
                    refine lv_iload hx hb dX11_wish_94 (lv_at hl 0 rfl) ?_
                    refine lv_iconst (v := 3) hx hb dX11_wish_96 (by decide) ?_
                    refine lv_iload hx hb dX11_wish_97 (lv_at hl 5 rfl) ?_
                    have hPc := hP.sub (ws' := [(a18, .inr (6, [.int 6, .int 6, .ref a20, .int 1])), (a20, .inl (G.2 0, 36, .inl (upd (upd (upd (upd (upd (upd (upd (upd (upd (fun _ => 0) 0 0) 1 0) 2 0) 3 0) 4 0) 5 0) 0 n0) 1 n1) 2 n2)))]) [4, 3] rfl
                    have hDc := hD.sub (ws' := [(a18, .inr (6, [.int 6, .int 6, .ref a20, .int 1])), (a20, .inl (G.2 0, 36, .inl (upd (upd (upd (upd (upd (upd (upd (upd (upd (fun _ => 0) 0 0) 1 0) 2 0) 3 0) 4 0) 5 0) 0 n0) 1 n1) 2 n2)))]) [4, 3] (by decide) rfl
                    have hFc := va_free (wc := [(a18, .inr (6, [.int 6, .int 6, .ref a20, .int 1])), (a20, .inl (G.2 0, 36, .inl (upd (upd (upd (upd (upd (upd (upd (upd (upd (fun _ => 0) 0 0) 1 0) 2 0) 3 0) 4 0) 5 0) 0 n0) 1 n1) 2 n2)))]) hD hS hA [4, 3] rfl
                    refine va_callv (va_runV (As := [.int 0, .int 3, .int n3]) (rest := []) ⟨hx, hb, hml, hown, hts⟩ (kX6_set_60 l G a18 a20 H.size n3 (upd (upd (upd (upd (upd (upd (upd (upd (upd (fun _ => 0) 0 0) 1 0) 2 0) 3 0) 4 0) 5 0) 0 n0) 1 n1) 2 n2) ⟨by omega, by omega⟩) (cwV 3 hts gV_X11_149 rfl rfl rfl hv_X6_set ⟨Nat.le_of_ble_eq_true rfl, Nat.le_of_ble_eq_true rfl⟩) (g5_preV hPc hK hDc hN hT hS hFc (ci := 6) (q0 := 0) rfl rfl) rfl rfl hl.1 rfl (lv_room (Nat.le_of_ble_eq_true rfl)) dX11_wish_99 ⟨Nat.le_of_ble_eq_true rfl, Nat.le_of_ble_eq_true rfl⟩) hS (fun q _ h => hFc q h) hFc (fun u t H1 locs ht hvm hw hB hz1 hk1 hS => ?_)
                    obtain ⟨hP1, hD1⟩ := hB
                    rw [ht] at hP1
                    obtain rfl := hw
                    obtain ⟨hP, hD⟩ := va_join (wr := [(a0, .inr (11, [.ref a1, .ref a2, .ref a3, .ref a4, .ref a5, .ref a6, .ref a7, .ref a8, .ref a9, .ref a10, .int 0, .int 0, .int (-1), .ref a11, .int 0, .ref a12, .int 0])), (a12, .inl (G.2 0, 5, .inl (fun _ => 0))), (a1, .inr (1, [.long 0, .int 1000, .int (-1), .int (-1), .int 0, .ref a13, .ref a14, .ref a15, .ref a16, .ref a17, .ref a18, .long 0, .ref a19]))]) (w1 := [(a20, .inl (G.2 0, 36, .inl (upd (upd (upd (upd (upd (upd (upd (upd (upd (upd (fun _ => 0) 0 0) 1 0) 2 0) 3 0) 4 0) 5 0) 0 n0) 1 n1) 2 n2) 3 n3))), (a18, .inr (6, [.int 6, .int 6, .ref a20, .int 1]))]) hP hD [4, 3] [0, 1, 2] rfl rfl (by decide) (by decide) hk1 hFc hP1 hD1
                    generalize H1 = H at hP hS ⊢
                    have hP : va_P G.1 vwCl [(a0, .inr (11, [.ref a1, .ref a2, .ref a3, .ref a4, .ref a5, .ref a6, .ref a7, .ref a8, .ref a9, .ref a10, .int 0, .int 0, .int (-1), .ref a11, .int 0, .ref a12, .int 0])), (a12, .inl (G.2 0, 5, .inl (fun _ => 0))), (a1, .inr (1, [.long 0, .int 1000, .int (-1), .int (-1), .int 0, .ref a13, .ref a14, .ref a15, .ref a16, .ref a17, .ref a18, .long 0, .ref a19])), (a20, .inl (G.2 0, 36, .inl (upd (upd (upd (upd (upd (upd (upd (upd (upd (upd (fun _ => 0) 0 0) 1 0) 2 0) 3 0) 4 0) 5 0) 0 n0) 1 n1) 2 n2) 3 n3))), (a18, .inr (6, [.int 6, .int 6, .ref a20, .int 1]))] H := hP
                    have hD : va_D A [(a0, .inr (11, [.ref a1, .ref a2, .ref a3, .ref a4, .ref a5, .ref a6, .ref a7, .ref a8, .ref a9, .ref a10, .int 0, .int 0, .int (-1), .ref a11, .int 0, .ref a12, .int 0])), (a12, .inl (G.2 0, 5, .inl (fun _ => 0))), (a1, .inr (1, [.long 0, .int 1000, .int (-1), .int (-1), .int 0, .ref a13, .ref a14, .ref a15, .ref a16, .ref a17, .ref a18, .long 0, .ref a19])), (a20, .inl (G.2 0, 36, .inl (upd (upd (upd (upd (upd (upd (upd (upd (upd (upd (fun _ => 0) 0 0) 1 0) 2 0) 3 0) 4 0) 5 0) 0 n0) 1 n1) 2 n2) 3 n3))), (a18, .inr (6, [.int 6, .int 6, .ref a20, .int 1]))] := hD
                    refine lv_aload_n hx hb dX11_wish_102 rfl (lv_at hl 1 rfl) ?_
                    refine va_get (D := G.1) (ci := 11) (v := .ref a1) (C := RX11) (T := TX11) (N := 17) hx hb hts inG_X11 hown hK hP 0 rfl rfl 0 (by decide) (hts _ fl_X11_12) (fun _ h9 => h9) rfl dX11_wish_103 ?_
                    refine va_get (D := G.1) (ci := 1) (v := .ref a18) (C := RX1) (T := TX1) (N := 13) hx hb hts inG_X1 hown hK hP 2 rfl rfl 10 (by decide) (hts _ fl_X11_309) (fun _ h9 => h9) rfl dX11_wish_106 ?_
                    refine lv_iload hx hb dX11_wish_109 (lv_at hl 0 rfl) ?_
                    refine lv_iconst (v := 4) hx hb dX11_wish_111 (by decide) ?_
                    refine lv_iload hx hb dX11_wish_112 (lv_at hl 6 rfl) ?_
                    have hPc := hP.sub (ws' := [(a18, .inr (6, [.int 6, .int 6, .ref a20, .int 1])), (a20, .inl (G.2 0, 36, .inl (upd (upd (upd (upd (upd (upd (upd (upd (upd (upd (fun _ => 0) 0 0) 1 0) 2 0) 3 0) 4 0) 5 0) 0 n0) 1 n1) 2 n2) 3 n3)))]) [4, 3] rfl
                    have hDc := hD.sub (ws' := [(a18, .inr (6, [.int 6, .int 6, .ref a20, .int 1])), (a20, .inl (G.2 0, 36, .inl (upd (upd (upd (upd (upd (upd (upd (upd (upd (upd (fun _ => 0) 0 0) 1 0) 2 0) 3 0) 4 0) 5 0) 0 n0) 1 n1) 2 n2) 3 n3)))]) [4, 3] (by decide) rfl
                    have hFc := va_free (wc := [(a18, .inr (6, [.int 6, .int 6, .ref a20, .int 1])), (a20, .inl (G.2 0, 36, .inl (upd (upd (upd (upd (upd (upd (upd (upd (upd (upd (fun _ => 0) 0 0) 1 0) 2 0) 3 0) 4 0) 5 0) 0 n0) 1 n1) 2 n2) 3 n3)))]) hD hS hA [4, 3] rfl
                    refine va_callv (va_runV (As := [.int 0, .int 4, .int n4]) (rest := []) ⟨hx, hb, hml, hown, hts⟩ (kX6_set_61 l G a18 a20 H.size n4 (upd (upd (upd (upd (upd (upd (upd (upd (upd (upd (fun _ => 0) 0 0) 1 0) 2 0) 3 0) 4 0) 5 0) 0 n0) 1 n1) 2 n2) 3 n3) ⟨by omega, by omega⟩) (cwV 3 hts gV_X11_149 rfl rfl rfl hv_X6_set ⟨Nat.le_of_ble_eq_true rfl, Nat.le_of_ble_eq_true rfl⟩) (g5_preV hPc hK hDc hN hT hS hFc (ci := 6) (q0 := 0) rfl rfl) rfl rfl hl.1 rfl (lv_room (Nat.le_of_ble_eq_true rfl)) dX11_wish_114 ⟨Nat.le_of_ble_eq_true rfl, Nat.le_of_ble_eq_true rfl⟩) hS (fun q _ h => hFc q h) hFc (fun u t H1 locs ht hvm hw hB hz1 hk1 hS => ?_)
                    obtain ⟨hP1, hD1⟩ := hB
                    rw [ht] at hP1
                    obtain rfl := hw
                    obtain ⟨hP, hD⟩ := va_join (wr := [(a0, .inr (11, [.ref a1, .ref a2, .ref a3, .ref a4, .ref a5, .ref a6, .ref a7, .ref a8, .ref a9, .ref a10, .int 0, .int 0, .int (-1), .ref a11, .int 0, .ref a12, .int 0])), (a12, .inl (G.2 0, 5, .inl (fun _ => 0))), (a1, .inr (1, [.long 0, .int 1000, .int (-1), .int (-1), .int 0, .ref a13, .ref a14, .ref a15, .ref a16, .ref a17, .ref a18, .long 0, .ref a19]))]) (w1 := [(a20, .inl (G.2 0, 36, .inl (upd (upd (upd (upd (upd (upd (upd (upd (upd (upd (upd (fun _ => 0) 0 0) 1 0) 2 0) 3 0) 4 0) 5 0) 0 n0) 1 n1) 2 n2) 3 n3) 4 n4))), (a18, .inr (6, [.int 6, .int 6, .ref a20, .int 1]))]) hP hD [4, 3] [0, 1, 2] rfl rfl (by decide) (by decide) hk1 hFc hP1 hD1
                    generalize H1 = H at hP hS ⊢
                    have hP : va_P G.1 vwCl [(a0, .inr (11, [.ref a1, .ref a2, .ref a3, .ref a4, .ref a5, .ref a6, .ref a7, .ref a8, .ref a9, .ref a10, .int 0, .int 0, .int (-1), .ref a11, .int 0, .ref a12, .int 0])), (a12, .inl (G.2 0, 5, .inl (fun _ => 0))), (a1, .inr (1, [.long 0, .int 1000, .int (-1), .int (-1), .int 0, .ref a13, .ref a14, .ref a15, .ref a16, .ref a17, .ref a18, .long 0, .ref a19])), (a20, .inl (G.2 0, 36, .inl (upd (upd (upd (upd (upd (upd (upd (upd (upd (upd (upd (fun _ => 0) 0 0) 1 0) 2 0) 3 0) 4 0) 5 0) 0 n0) 1 n1) 2 n2) 3 n3) 4 n4))), (a18, .inr (6, [.int 6, .int 6, .ref a20, .int 1]))] H := hP
                    have hD : va_D A [(a0, .inr (11, [.ref a1, .ref a2, .ref a3, .ref a4, .ref a5, .ref a6, .ref a7, .ref a8, .ref a9, .ref a10, .int 0, .int 0, .int (-1), .ref a11, .int 0, .ref a12, .int 0])), (a12, .inl (G.2 0, 5, .inl (fun _ => 0))), (a1, .inr (1, [.long 0, .int 1000, .int (-1), .int (-1), .int 0, .ref a13, .ref a14, .ref a15, .ref a16, .ref a17, .ref a18, .long 0, .ref a19])), (a20, .inl (G.2 0, 36, .inl (upd (upd (upd (upd (upd (upd (upd (upd (upd (upd (upd (fun _ => 0) 0 0) 1 0) 2 0) 3 0) 4 0) 5 0) 0 n0) 1 n1) 2 n2) 3 n3) 4 n4))), (a18, .inr (6, [.int 6, .int 6, .ref a20, .int 1]))] := hD
                    refine lv_aload_n hx hb dX11_wish_117 rfl (lv_at hl 1 rfl) ?_
                    refine va_get (D := G.1) (ci := 11) (v := .ref a1) (C := RX11) (T := TX11) (N := 17) hx hb hts inG_X11 hown hK hP 0 rfl rfl 0 (by decide) (hts _ fl_X11_12) (fun _ h9 => h9) rfl dX11_wish_118 ?_
                    refine va_get (D := G.1) (ci := 1) (v := .ref a18) (C := RX1) (T := TX1) (N := 13) hx hb hts inG_X1 hown hK hP 2 rfl rfl 10 (by decide) (hts _ fl_X11_309) (fun _ h9 => h9) rfl dX11_wish_121 ?_
                    refine lv_iload hx hb dX11_wish_124 (lv_at hl 0 rfl) ?_
                    refine lv_iconst (v := 5) hx hb dX11_wish_126 (by decide) ?_
                    refine lv_iload hx hb dX11_wish_127 (lv_at hl 7 rfl) ?_
                    have hPc := hP.sub (ws' := [(a18, .inr (6, [.int 6, .int 6, .ref a20, .int 1])), (a20, .inl (G.2 0, 36, .inl (upd (upd (upd (upd (upd (upd (upd (upd (upd (upd (upd (fun _ => 0) 0 0) 1 0) 2 0) 3 0) 4 0) 5 0) 0 n0) 1 n1) 2 n2) 3 n3) 4 n4)))]) [4, 3] rfl
                    have hDc := hD.sub (ws' := [(a18, .inr (6, [.int 6, .int 6, .ref a20, .int 1])), (a20, .inl (G.2 0, 36, .inl (upd (upd (upd (upd (upd (upd (upd (upd (upd (upd (upd (fun _ => 0) 0 0) 1 0) 2 0) 3 0) 4 0) 5 0) 0 n0) 1 n1) 2 n2) 3 n3) 4 n4)))]) [4, 3] (by decide) rfl
                    have hFc := va_free (wc := [(a18, .inr (6, [.int 6, .int 6, .ref a20, .int 1])), (a20, .inl (G.2 0, 36, .inl (upd (upd (upd (upd (upd (upd (upd (upd (upd (upd (upd (fun _ => 0) 0 0) 1 0) 2 0) 3 0) 4 0) 5 0) 0 n0) 1 n1) 2 n2) 3 n3) 4 n4)))]) hD hS hA [4, 3] rfl
                    refine va_callv (va_runV (As := [.int 0, .int 5, .int n5]) (rest := []) ⟨hx, hb, hml, hown, hts⟩ (kX6_set_63 l G a18 a20 H.size n5 (upd (upd (upd (upd (upd (upd (upd (upd (upd (upd (upd (fun _ => 0) 0 0) 1 0) 2 0) 3 0) 4 0) 5 0) 0 n0) 1 n1) 2 n2) 3 n3) 4 n4) ⟨by omega, by omega⟩) (cwV 3 hts gV_X11_149 rfl rfl rfl hv_X6_set ⟨Nat.le_of_ble_eq_true rfl, Nat.le_of_ble_eq_true rfl⟩) (g5_preV hPc hK hDc hN hT hS hFc (ci := 6) (q0 := 0) rfl rfl) rfl rfl hl.1 rfl (lv_room (Nat.le_of_ble_eq_true rfl)) dX11_wish_129 ⟨Nat.le_of_ble_eq_true rfl, Nat.le_of_ble_eq_true rfl⟩) hS (fun q _ h => hFc q h) hFc (fun u t H1 locs ht hvm hw hB hz1 hk1 hS => ?_)
                    obtain ⟨hP1, hD1⟩ := hB
                    rw [ht] at hP1
                    obtain rfl := hw
                    obtain ⟨hP, hD⟩ := va_join (wr := [(a0, .inr (11, [.ref a1, .ref a2, .ref a3, .ref a4, .ref a5, .ref a6, .ref a7, .ref a8, .ref a9, .ref a10, .int 0, .int 0, .int (-1), .ref a11, .int 0, .ref a12, .int 0])), (a12, .inl (G.2 0, 5, .inl (fun _ => 0))), (a1, .inr (1, [.long 0, .int 1000, .int (-1), .int (-1), .int 0, .ref a13, .ref a14, .ref a15, .ref a16, .ref a17, .ref a18, .long 0, .ref a19]))]) (w1 := [(a20, .inl (G.2 0, 36, .inl (upd (upd (upd (upd (upd (upd (upd (upd (upd (upd (upd (upd (fun _ => 0) 0 0) 1 0) 2 0) 3 0) 4 0) 5 0) 0 n0) 1 n1) 2 n2) 3 n3) 4 n4) 5 n5))), (a18, .inr (6, [.int 6, .int 6, .ref a20, .int 1]))]) hP hD [4, 3] [0, 1, 2] rfl rfl (by decide) (by decide) hk1 hFc hP1 hD1
                    generalize H1 = H at hP hS ⊢
                    have hP : va_P G.1 vwCl [(a0, .inr (11, [.ref a1, .ref a2, .ref a3, .ref a4, .ref a5, .ref a6, .ref a7, .ref a8, .ref a9, .ref a10, .int 0, .int 0, .int (-1), .ref a11, .int 0, .ref a12, .int 0])), (a12, .inl (G.2 0, 5, .inl (fun _ => 0))), (a1, .inr (1, [.long 0, .int 1000, .int (-1), .int (-1), .int 0, .ref a13, .ref a14, .ref a15, .ref a16, .ref a17, .ref a18, .long 0, .ref a19])), (a20, .inl (G.2 0, 36, .inl (upd (upd (upd (upd (upd (upd (upd (upd (upd (upd (upd (upd (fun _ => 0) 0 0) 1 0) 2 0) 3 0) 4 0) 5 0) 0 n0) 1 n1) 2 n2) 3 n3) 4 n4) 5 n5))), (a18, .inr (6, [.int 6, .int 6, .ref a20, .int 1]))] H := hP
                    have hD : va_D A [(a0, .inr (11, [.ref a1, .ref a2, .ref a3, .ref a4, .ref a5, .ref a6, .ref a7, .ref a8, .ref a9, .ref a10, .int 0, .int 0, .int (-1), .ref a11, .int 0, .ref a12, .int 0])), (a12, .inl (G.2 0, 5, .inl (fun _ => 0))), (a1, .inr (1, [.long 0, .int 1000, .int (-1), .int (-1), .int 0, .ref a13, .ref a14, .ref a15, .ref a16, .ref a17, .ref a18, .long 0, .ref a19])), (a20, .inl (G.2 0, 36, .inl (upd (upd (upd (upd (upd (upd (upd (upd (upd (upd (upd (upd (fun _ => 0) 0 0) 1 0) 2 0) 3 0) 4 0) 5 0) 0 n0) 1 n1) 2 n2) 3 n3) 4 n4) 5 n5))), (a18, .inr (6, [.int 6, .int 6, .ref a20, .int 1]))] := hD
                    refine lv_aload_n hx hb dX11_wish_132 rfl (lv_at hl 1 rfl) ?_
                    refine lv_aload_n hx hb dX11_wish_133 rfl (lv_at hl 1 rfl) ?_
                    refine va_get (D := G.1) (ci := 11) (v := .ref a1) (C := RX11) (T := TX11) (N := 17) hx hb hts inG_X11 hown hK hP 0 rfl rfl 0 (by decide) (hts _ fl_X11_12) (fun _ h9 => h9) rfl dX11_wish_134 ?_
                    refine va_get (D := G.1) (ci := 1) (v := .ref a18) (C := RX1) (T := TX1) (N := 13) hx hb hts inG_X1 hown hK hP 2 rfl rfl 10 (by decide) (hts _ fl_X11_309) (fun _ h9 => h9) rfl dX11_wish_137 ?_
                    refine va_get (D := G.1) (ci := 6) (v := .int 1) (C := RX6) (T := TX6) (N := 4) hx hb hts inG_X6 hown hK hP 4 rfl rfl 3 (by decide) (hts _ fl_X11_238) (fun _ h9 => h9) rfl dX11_wish_140 ?_
                    have hPc := hP.sub (ws' := [(a0, .inr (11, [.ref a1, .ref a2, .ref a3, .ref a4, .ref a5, .ref a6, .ref a7, .ref a8, .ref a9, .ref a10, .int 0, .int 0, .int (-1), .ref a11, .int 0, .ref a12, .int 0]))]) [0] rfl
                    have hDc := hD.sub (ws' := [(a0, .inr (11, [.ref a1, .ref a2, .ref a3, .ref a4, .ref a5, .ref a6, .ref a7, .ref a8, .ref a9, .ref a10, .int 0, .int 0, .int (-1), .ref a11, .int 0, .ref a12, .int 0]))]) [0] (by decide) rfl
                    have hFc := va_free (wc := [(a0, .inr (11, [.ref a1, .ref a2, .ref a3, .ref a4, .ref a5, .ref a6, .ref a7, .ref a8, .ref a9, .ref a10, .int 0, .int 0, .int (-1), .ref a11, .int 0, .ref a12, .int 0]))]) hD hS hA [0] rfl
                    refine va_calli (va_runV (As := [.int 1]) (rest := []) ⟨hx, hb, hml, hown, hts⟩ (kX11_done_5 l G a0 a1 a2 a3 a4 a5 a6 a7 a8 a9 a10 a11 a12 H.size) (cwV 1 hts gV_X11_121 rfl rfl rfl hv_X11_done ⟨Nat.le_of_ble_eq_true rfl, Nat.le_of_ble_eq_true rfl⟩) (g5_preV hPc hK hDc hN hT hS hFc (ci := 11) (q0 := 0) rfl rfl) rfl rfl hl.1 rfl (lv_room (Nat.le_of_ble_eq_true rfl)) dX11_wish_143 ⟨Nat.le_of_ble_eq_true rfl, Nat.le_of_ble_eq_true rfl⟩) hS (fun q _ h => hFc q h) hFc (fun r u t H1 locs ht hvm hw hB hz1 hk1 hS => ?_)
                    obtain ⟨hP1, hD1⟩ := hB
                    rw [ht] at hP1
                    obtain ⟨rfl, rfl⟩ := hw
                    obtain ⟨hP, hD⟩ := va_join (wr := [(a12, .inl (G.2 0, 5, .inl (fun _ => 0))), (a1, .inr (1, [.long 0, .int 1000, .int (-1), .int (-1), .int 0, .ref a13, .ref a14, .ref a15, .ref a16, .ref a17, .ref a18, .long 0, .ref a19])), (a20, .inl (G.2 0, 36, .inl (upd (upd (upd (upd (upd (upd (upd (upd (upd (upd (upd (upd (fun _ => 0) 0 0) 1 0) 2 0) 3 0) 4 0) 5 0) 0 n0) 1 n1) 2 n2) 3 n3) 4 n4) 5 n5))), (a18, .inr (6, [.int 6, .int 6, .ref a20, .int 1]))]) (w1 := [(a0, .inr (11, [.ref a1, .ref a2, .ref a3, .ref a4, .ref a5, .ref a6, .ref a7, .ref a8, .ref a9, .ref a10, .int 0, .int 0, .int (-1), .ref a11, .int 0, .ref a12, .int 0]))]) hP hD [0] [1, 2, 3, 4] rfl rfl (by decide) (by decide) hk1 hFc hP1 hD1
                    generalize H1 = H at hP hS ⊢
                    have hP : va_P G.1 vwCl [(a12, .inl (G.2 0, 5, .inl (fun _ => 0))), (a1, .inr (1, [.long 0, .int 1000, .int (-1), .int (-1), .int 0, .ref a13, .ref a14, .ref a15, .ref a16, .ref a17, .ref a18, .long 0, .ref a19])), (a20, .inl (G.2 0, 36, .inl (upd (upd (upd (upd (upd (upd (upd (upd (upd (upd (upd (upd (fun _ => 0) 0 0) 1 0) 2 0) 3 0) 4 0) 5 0) 0 n0) 1 n1) 2 n2) 3 n3) 4 n4) 5 n5))), (a18, .inr (6, [.int 6, .int 6, .ref a20, .int 1])), (a0, .inr (11, [.ref a1, .ref a2, .ref a3, .ref a4, .ref a5, .ref a6, .ref a7, .ref a8, .ref a9, .ref a10, .int 0, .int 0, .int (-1), .ref a11, .int 0, .ref a12, .int 0]))] H := hP
                    have hD : va_D A [(a12, .inl (G.2 0, 5, .inl (fun _ => 0))), (a1, .inr (1, [.long 0, .int 1000, .int (-1), .int (-1), .int 0, .ref a13, .ref a14, .ref a15, .ref a16, .ref a17, .ref a18, .long 0, .ref a19])), (a20, .inl (G.2 0, 36, .inl (upd (upd (upd (upd (upd (upd (upd (upd (upd (upd (upd (upd (fun _ => 0) 0 0) 1 0) 2 0) 3 0) 4 0) 5 0) 0 n0) 1 n1) 2 n2) 3 n3) 4 n4) 5 n5))), (a18, .inr (6, [.int 6, .int 6, .ref a20, .int 1])), (a0, .inr (11, [.ref a1, .ref a2, .ref a3, .ref a4, .ref a5, .ref a6, .ref a7, .ref a8, .ref a9, .ref a10, .int 0, .int 0, .int (-1), .ref a11, .int 0, .ref a12, .int 0]))] := hD
                    have hP := hP.sub (ws' := []) [] rfl
                    have hD := hD.sub (ws' := []) [] (by decide) rfl
                    exact W.iret (v := 1) hx hb hr (fun t ht hW => ⟨⟨1, [], rfl, Or.inr (Or.inr (Or.inr (Or.inr (Or.inr (Or.inr (Or.inr (Or.inr (Or.inr (Or.inr (Or.inr (Or.inr (⟨i_22, i_23, i_24, i_25, i_26, i_27, i_38, i_39, i_46, i_47, i_54, i_55, rfl, rfl⟩)))))))))))), by rw [ht]; exact hP, hD⟩, hS.F ht⟩) hS.2.2 dX11_wish_146
                  ·
                    exact absurd c_60 (by decide)
                ·
                  exact absurd c_59 (by decide)
theorem fl_X0_19 : Cond.fieldLink RX0 19 "LateGlass$House" "wishes" "LLateGlass$Table;" ∈ tblG := tg 186 (by decide +kernel) (by decide +kernel)
theorem fl_X0_25 : Cond.fieldLink RX0 25 "LateGlass$Table" "rows" "I" ∈ tblG := tg 138 (by decide +kernel) (by decide +kernel)
theorem dX0_lacking_0 : decode cX0_lacking 0 = .ok (.iconst 0, 1) := by decide +kernel
theorem dX0_lacking_1 : decode cX0_lacking 1 = .ok (.istore_n 2, 1) := by decide +kernel
theorem dX0_lacking_2 : decode cX0_lacking 2 = .ok (.aload_n 0, 1) := by decide +kernel
theorem dX0_lacking_3 : decode cX0_lacking 3 = .ok (.getfield 9, 3) := by decide +kernel
theorem dX0_lacking_6 : decode cX0_lacking 6 = .ok (.getfield 19, 3) := by decide +kernel
theorem dX0_lacking_9 : decode cX0_lacking 9 = .ok (.astore_n 3, 1) := by decide +kernel
theorem dX0_lacking_10 : decode cX0_lacking 10 = .ok (.iconst 0, 1) := by decide +kernel
theorem dX0_lacking_11 : decode cX0_lacking 11 = .ok (.istore 4, 2) := by decide +kernel
theorem dX0_lacking_13 : decode cX0_lacking 13 = .ok (.iload 4, 2) := by decide +kernel
theorem dX0_lacking_15 : decode cX0_lacking 15 = .ok (.aload_n 3, 1) := by decide +kernel
theorem dX0_lacking_16 : decode cX0_lacking 16 = .ok (.getfield 25, 3) := by decide +kernel
theorem dX0_lacking_19 : decode cX0_lacking 19 = .ok (.if_icmp .ge 93, 3) := by decide +kernel
theorem dX0_lacking_22 : decode cX0_lacking 22 = .ok (.aload_n 0, 1) := by decide +kernel
theorem dX0_lacking_23 : decode cX0_lacking 23 = .ok (.getfield 15, 3) := by decide +kernel
theorem dX0_lacking_26 : decode cX0_lacking 26 = .ok (.aload_n 3, 1) := by decide +kernel
theorem dX0_lacking_27 : decode cX0_lacking 27 = .ok (.iload 4, 2) := by decide +kernel
theorem dX0_lacking_29 : decode cX0_lacking 29 = .ok (.iconst 0, 1) := by decide +kernel
theorem dX0_lacking_30 : decode cX0_lacking 30 = .ok (.invokevirtual 31, 3) := by decide +kernel
theorem dX0_lacking_33 : decode cX0_lacking 33 = .ok (.aload_n 3, 1) := by decide +kernel
theorem dX0_lacking_34 : decode cX0_lacking 34 = .ok (.iload 4, 2) := by decide +kernel
theorem dX0_lacking_36 : decode cX0_lacking 36 = .ok (.iconst 1, 1) := by decide +kernel
theorem dX0_lacking_37 : decode cX0_lacking 37 = .ok (.invokevirtual 31, 3) := by decide +kernel
theorem dX0_lacking_40 : decode cX0_lacking 40 = .ok (.aload_n 3, 1) := by decide +kernel
theorem dX0_lacking_41 : decode cX0_lacking 41 = .ok (.iload 4, 2) := by decide +kernel
theorem dX0_lacking_43 : decode cX0_lacking 43 = .ok (.iconst 2, 1) := by decide +kernel
theorem dX0_lacking_44 : decode cX0_lacking 44 = .ok (.invokevirtual 31, 3) := by decide +kernel
theorem dX0_lacking_47 : decode cX0_lacking 47 = .ok (.iload_n 1, 1) := by decide +kernel
theorem dX0_lacking_48 : decode cX0_lacking 48 = .ok (.invokevirtual 35, 3) := by decide +kernel
theorem dX0_lacking_51 : decode cX0_lacking 51 = .ok (.aload_n 0, 1) := by decide +kernel
theorem dX0_lacking_52 : decode cX0_lacking 52 = .ok (.getfield 15, 3) := by decide +kernel
theorem dX0_lacking_55 : decode cX0_lacking 55 = .ok (.aload_n 3, 1) := by decide +kernel
theorem dX0_lacking_56 : decode cX0_lacking 56 = .ok (.iload 4, 2) := by decide +kernel
theorem dX0_lacking_58 : decode cX0_lacking 58 = .ok (.iconst 4, 1) := by decide +kernel
theorem dX0_lacking_59 : decode cX0_lacking 59 = .ok (.invokevirtual 31, 3) := by decide +kernel
theorem dX0_lacking_62 : decode cX0_lacking 62 = .ok (.bipush 64, 2) := by decide +kernel
theorem dX0_lacking_64 : decode cX0_lacking 64 = .ok (.imul, 1) := by decide +kernel
theorem dX0_lacking_65 : decode cX0_lacking 65 = .ok (.aload_n 3, 1) := by decide +kernel
theorem dX0_lacking_66 : decode cX0_lacking 66 = .ok (.iload 4, 2) := by decide +kernel
theorem dX0_lacking_68 : decode cX0_lacking 68 = .ok (.iconst 3, 1) := by decide +kernel
theorem dX0_lacking_69 : decode cX0_lacking 69 = .ok (.invokevirtual 31, 3) := by decide +kernel
theorem dX0_lacking_72 : decode cX0_lacking 72 = .ok (.iadd, 1) := by decide +kernel
theorem dX0_lacking_73 : decode cX0_lacking 73 = .ok (.invokevirtual 41, 3) := by decide +kernel
theorem dX0_lacking_76 : decode cX0_lacking 76 = .ok (.istore 5, 2) := by decide +kernel
theorem dX0_lacking_78 : decode cX0_lacking 78 = .ok (.iload 5, 2) := by decide +kernel
theorem dX0_lacking_80 : decode cX0_lacking 80 = .ok (.aload_n 3, 1) := by decide +kernel
theorem dX0_lacking_81 : decode cX0_lacking 81 = .ok (.iload 4, 2) := by decide +kernel
theorem dX0_lacking_83 : decode cX0_lacking 83 = .ok (.iconst 5, 1) := by decide +kernel
theorem dX0_lacking_84 : decode cX0_lacking 84 = .ok (.invokevirtual 31, 3) := by decide +kernel
theorem dX0_lacking_87 : decode cX0_lacking 87 = .ok (.iconst 1, 1) := by decide +kernel
theorem dX0_lacking_88 : decode cX0_lacking 88 = .ok (.if_icmp .ne 7, 3) := by decide +kernel
theorem dX0_lacking_91 : decode cX0_lacking 91 = .ok (.iconst 1, 1) := by decide +kernel
theorem dX0_lacking_92 : decode cX0_lacking 92 = .ok (.goto 4, 3) := by decide +kernel
theorem dX0_lacking_95 : decode cX0_lacking 95 = .ok (.iconst 0, 1) := by decide +kernel
theorem dX0_lacking_96 : decode cX0_lacking 96 = .ok (.if_icmp .eq 10, 3) := by decide +kernel
theorem dX0_lacking_99 : decode cX0_lacking 99 = .ok (.iload_n 2, 1) := by decide +kernel
theorem dX0_lacking_100 : decode cX0_lacking 100 = .ok (.iconst 1, 1) := by decide +kernel
theorem dX0_lacking_101 : decode cX0_lacking 101 = .ok (.iload 4, 2) := by decide +kernel
theorem dX0_lacking_103 : decode cX0_lacking 103 = .ok (.ishl, 1) := by decide +kernel
theorem dX0_lacking_104 : decode cX0_lacking 104 = .ok (.ior, 1) := by decide +kernel
theorem dX0_lacking_105 : decode cX0_lacking 105 = .ok (.istore_n 2, 1) := by decide +kernel
theorem dX0_lacking_106 : decode cX0_lacking 106 = .ok (.iinc 4 1, 3) := by decide +kernel
theorem dX0_lacking_109 : decode cX0_lacking 109 = .ok (.goto (-96), 3) := by decide +kernel
theorem dX0_lacking_112 : decode cX0_lacking 112 = .ok (.iload_n 2, 1) := by decide +kernel
theorem dX0_lacking_113 : decode cX0_lacking 113 = .ok (.ireturn, 1) := by decide +kernel
set_option maxHeartbeats 4000000 in
set_option maxRecDepth 100000 in
theorem kX0_lacking (l : Launch) (G : g5_G) (a0 a1 a2 a3 a4 a5 a6 a7 a8 a9 a10 : Nat) (sz : Nat) (n0 : Int32) (h_n0 : 0 ≤ n0.toInt ∧ n0.toInt ≤ 0) : Met l yX0_lacking (wsG yX0_lacking cX0_lacking 6 (some .int)) ({ frames := 0, cells := 0, slots := 0, locals := 0 }) (va_Pc [.ref a0, .int n0] (g5_P G [(a0, .inr (0, [.ref a1, .ref a2, .int 0, .int 0, .int 0])), (a1, .inr (1, [.long 0, .int 1000, .int (-1), .int (-1), .int 0, .ref a3, .ref a4, .ref a5, .ref a6, .ref a7, .ref a8, .long 0, .ref a9])), (a8, .inr (6, [.int 6, .int 6, .ref a10, .int 0]))] sz)) (va_Qi (fun (r : Int32) (u : va_W) => ((r = 0) ∧ (u = [(a0, .inr (0, [.ref a1, .ref a2, .int 0, .int 0, .int 0])), (a1, .inr (1, [.long 0, .int 1000, .int (-1), .int (-1), .int 0, .ref a3, .ref a4, .ref a5, .ref a6, .ref a7, .ref a8, .long 0, .ref a9])), (a8, .inr (6, [.int 6, .int 6, .ref a10, .int 0]))]))) (g5_B G (va_A [(a0, .inr (0, [.ref a1, .ref a2, .int 0, .int 0, .int 0])), (a1, .inr (1, [.long 0, .int 1000, .int (-1), .int (-1), .int 0, .ref a3, .ref a4, .ref a5, .ref a6, .ref a7, .ref a8, .long 0, .ref a9])), (a8, .inr (6, [.int 6, .int 6, .ref a10, .int 0]))] sz)) (va_A [(a0, .inr (0, [.ref a1, .ref a2, .int 0, .int 0, .int 0])), (a1, .inr (1, [.long 0, .int 1000, .int (-1), .int (-1), .int 0, .ref a3, .ref a4, .ref a5, .ref a6, .ref a7, .ref a8, .long 0, .ref a9])), (a8, .inr (6, [.int 6, .int 6, .ref a10, .int 0]))] sz)) 0 0 (va_A [(a0, .inr (0, [.ref a1, .ref a2, .int 0, .int 0, .int 0])), (a1, .inr (1, [.long 0, .int 1000, .int (-1), .int (-1), .int 0, .ref a3, .ref a4, .ref a5, .ref a6, .ref a7, .ref a8, .long 0, .ref a9])), (a8, .inr (6, [.int 6, .int 6, .ref a10, .int 0]))] sz) := by
  refine Met.ofW (cc := cX0_lacking) (maxL := 6) (ret := (some .int)) (by decide) rfl ?_
  intro p e s m args below meth c s₁ B hml hv
  obtain ⟨rfl, hsz, hP, hK, hD0, hN, hT⟩ := hv
  have hx := B.exec
  have hb := B.bytes
  have hr := B.returns
  have hts : ∀ w ∈ tblG, w.before _ s = true := fun w h => atoms_spec (ws := (wsG yX0_lacking cX0_lacking 6 (some .int))) B.pre w (List.mem_cons_of_mem _ h)
  have hown : s.vm.findClass RX0 = some m.cls := findClass_of_methodNamed B.named
  have hlocks := B.notSynchronized
  subst hsz
  have hD := hD0.self (sz := s.heap.size)
  generalize hAe : va_A [(a0, .inr (0, [.ref a1, .ref a2, .int 0, .int 0, .int 0])), (a1, .inr (1, [.long 0, .int 1000, .int (-1), .int (-1), .int 0, .ref a3, .ref a4, .ref a5, .ref a6, .ref a7, .ref a8, .long 0, .ref a9])), (a8, .inr (6, [.int 6, .int 6, .ref a10, .int 0]))] s.heap.size = A at hD hT ⊢
  have hA : ∀ q : Nat, s.heap.size ≤ q → A q := fun q h => by rw [← hAe]; exact Or.inr h
  have hS : va_S A s.heap s.heap [] := va_S.rf
  have hP : va_P G.1 vwCl [(a0, .inr (0, [.ref a1, .ref a2, .int 0, .int 0, .int 0])), (a1, .inr (1, [.long 0, .int 1000, .int (-1), .int (-1), .int 0, .ref a3, .ref a4, .ref a5, .ref a6, .ref a7, .ref a8, .long 0, .ref a9])), (a8, .inr (6, [.int 6, .int 6, .ref a10, .int 0]))] s.heap := hP
  have hl := lv_entry ([.ref a0, .int n0]) (n := 6) (Nat.le_of_ble_eq_true rfl)
  rw [lg_entry_eq]
  generalize (lg_sl ([.ref a0, .int n0]) ++ List.replicate (6 - (lg_sl ([.ref a0, .int n0])).length) Slot.unset).toArray = ls at hl ⊢
  have hl : lv_has ls 6 [(0, .ref a0), (1, .int n0)] := hl
  refine lv_iconst (v := 0) hx hb dX0_lacking_0 (by decide) ?_
  refine lv_istore_n (lv' := [(2, .int 0), (0, .ref a0), (1, .int n0)]) hx hb dX0_lacking_1 rfl hl (by decide) rfl (fun ls hl => ?_)
  refine lv_aload_n hx hb dX0_lacking_2 rfl (lv_at hl 1 rfl) ?_
  refine va_get (D := G.1) (ci := 0) (v := .ref a1) (C := RX0) (T := TX0) (N := 5) hx hb hts inG_X0 hown hK hP 0 rfl rfl 0 (by decide) (hts _ fl_X0_9) (fun _ h9 => h9) rfl dX0_lacking_3 ?_
  refine va_get (D := G.1) (ci := 1) (v := .ref a8) (C := RX1) (T := TX1) (N := 13) hx hb hts inG_X1 hown hK hP 1 rfl rfl 10 (by decide) (hts _ fl_X0_19) (fun _ h9 => h9) rfl dX0_lacking_6 ?_
  refine lv_astore_n (lv' := [(3, .ref a8), (2, .int 0), (0, .ref a0), (1, .int n0)]) hx hb dX0_lacking_9 rfl hl (by decide) rfl (fun ls hl => ?_)
  refine lv_iconst (v := 0) hx hb dX0_lacking_10 (by decide) ?_
  refine lv_istore (lv' := [(4, .int 0), (3, .ref a8), (2, .int 0), (0, .ref a0), (1, .int n0)]) hx hb dX0_lacking_11 hl (by decide) rfl (fun ls hl => ?_)
  refine lv_iload hx hb dX0_lacking_13 (lv_at hl 0 rfl) ?_
  refine lv_aload_n hx hb dX0_lacking_15 rfl (lv_at hl 1 rfl) ?_
  refine va_get (D := G.1) (ci := 6) (v := .int 0) (C := RX6) (T := TX6) (N := 4) hx hb hts inG_X6 hown hK hP 2 rfl rfl 3 (by decide) (hts _ fl_X0_25) (fun _ h9 => h9) rfl dX0_lacking_16 ?_
  refine lv_icmp_ge (tgt := 112) hx hb dX0_lacking_19 (by decide) (fun c_1 => ?_) (fun c_1 => ?_)
  ·
    refine lv_iload_n hx hb dX0_lacking_112 rfl (lv_at hl 2 rfl) ?_
    exact W.iret (v := 0) hx hb hr (fun t ht hW => ⟨⟨0, [(a0, .inr (0, [.ref a1, .ref a2, .int 0, .int 0, .int 0])), (a1, .inr (1, [.long 0, .int 1000, .int (-1), .int (-1), .int 0, .ref a3, .ref a4, .ref a5, .ref a6, .ref a7, .ref a8, .long 0, .ref a9])), (a8, .inr (6, [.int 6, .int 6, .ref a10, .int 0]))], rfl, ⟨rfl, rfl⟩, by rw [ht]; exact hP, hD⟩, hS.F ht⟩) hS.2.2 dX0_lacking_113
  ·
    exact absurd c_1 (by decide)
theorem ml_X11_312 : Cond.methodLink RX11 312 yX0_lacking ∈ tblG := tg 1068 (by decide +kernel) (by decide +kernel)
theorem im_X0_lacking : Cond.instanceMethod yX0_lacking ∈ tblG := tg 1069 (by decide +kernel) (by decide +kernel)
theorem se_X0_lacking : Cond.selects RX0 yX0_lacking yX0_lacking ∈ tblG := tg 1070 (by decide +kernel) (by decide +kernel)
theorem cd_X0_lacking : Cond.code yX0_lacking cX0_lacking 6 (some .int) ∈ tblG := tg 1071 (by decide +kernel) (by decide +kernel)
theorem gW_X0_lacking : GoodIn tblG (wsG yX0_lacking cX0_lacking 6 (some .int)) := tgi cd_X0_lacking
theorem gV_X11_312 : GoodIn tblG (wsV RX11 312 RX0 yX0_lacking (wsG yX0_lacking cX0_lacking 6 (some .int))) := tgV ml_X11_312 im_X0_lacking se_X0_lacking ini_X0 gW_X0_lacking
theorem hv_X0_lacking : yX0_lacking.cls = RX0 ∧ yX0_lacking.cls ≠ "java/lang/invoke/MethodHandle" ∧ yX0_lacking.cls ≠ "java/lang/invoke/VarHandle" ∧ (parseMethodDescriptor yX0_lacking.desc).map (fun d => d.parameters.length) = some 1 := by decide +kernel
theorem dX11_lacks_0 : decode cX11_lacks 0 = .ok (.iload_n 1, 1) := by decide +kernel
theorem dX11_lacks_1 : decode cX11_lacks 1 = .ok (.ifCond .lt 19, 3) := by decide +kernel
theorem dX11_lacks_4 : decode cX11_lacks 4 = .ok (.iload_n 1, 1) := by decide +kernel
theorem dX11_lacks_5 : decode cX11_lacks 5 = .ok (.iconst 1, 1) := by decide +kernel
theorem dX11_lacks_6 : decode cX11_lacks 6 = .ok (.aload_n 0, 1) := by decide +kernel
theorem dX11_lacks_7 : decode cX11_lacks 7 = .ok (.getfield 12, 3) := by decide +kernel
theorem dX11_lacks_10 : decode cX11_lacks 10 = .ok (.getfield 306, 3) := by decide +kernel
theorem dX11_lacks_13 : decode cX11_lacks 13 = .ok (.getfield 238, 3) := by decide +kernel
theorem dX11_lacks_16 : decode cX11_lacks 16 = .ok (.ishl, 1) := by decide +kernel
theorem dX11_lacks_17 : decode cX11_lacks 17 = .ok (.if_icmp .lt 5, 3) := by decide +kernel
theorem dX11_lacks_20 : decode cX11_lacks 20 = .ok (.iconst (-1), 1) := by decide +kernel
theorem dX11_lacks_21 : decode cX11_lacks 21 = .ok (.ireturn, 1) := by decide +kernel
theorem dX11_lacks_22 : decode cX11_lacks 22 = .ok (.aload_n 0, 1) := by decide +kernel
theorem dX11_lacks_23 : decode cX11_lacks 23 = .ok (.getfield 52, 3) := by decide +kernel
theorem dX11_lacks_26 : decode cX11_lacks 26 = .ok (.iload_n 1, 1) := by decide +kernel
theorem dX11_lacks_27 : decode cX11_lacks 27 = .ok (.invokevirtual 312, 3) := by decide +kernel
theorem dX11_lacks_30 : decode cX11_lacks 30 = .ok (.ireturn, 1) := by decide +kernel
set_option maxHeartbeats 4000000 in
set_option maxRecDepth 100000 in
theorem kX11_lacks (l : Launch) (G : g5_G) (a0 a1 a2 a3 a4 a5 a6 a7 a8 a9 a10 a11 a12 a13 a14 a15 a16 a17 a18 a19 a20 a21 : Nat) (sz : Nat) (n0 : Int32) : Met l yX11_lacks (wsG yX11_lacks cX11_lacks 2 (some .int)) ({ frames := 1, cells := 0, slots := 0, locals := 25 }) (va_Pc [.ref a0, .int n0] (g5_P G [(a0, .inr (11, [.ref a1, .ref a2, .ref a3, .ref a4, .ref a5, .ref a6, .ref a7, .ref a8, .ref a9, .ref a10, .int 0, .int 0, .int (-1), .ref a11, .int 0, .ref a12, .int 0])), (a1, .inr (1, [.long 0, .int 1000, .int (-1), .int (-1), .int 0, .ref a13, .ref a14, .ref a15, .ref a16, .ref a17, .ref a18, .long 0, .ref a19])), (a17, .inr (6, [.int 8, .int 5, .ref a20, .int 0])), (a7, .inr (0, [.ref a1, .ref a4, .int 0, .int 0, .int 0])), (a18, .inr (6, [.int 6, .int 6, .ref a21, .int 0]))] sz)) (va_Qi (fun (r : Int32) (u : va_W) => ((n0.toInt < 0) ∧ (r = (-1)) ∧ (u = [])) ∨ ((n0.toInt ≥ 0) ∧ (n0.toInt < 1) ∧ (r = 0) ∧ (u = [])) ∨ ((n0.toInt ≥ 0) ∧ (n0.toInt ≥ 1) ∧ (r = (-1)) ∧ (u = []))) (g5_B G (va_A [(a0, .inr (11, [.ref a1, .ref a2, .ref a3, .ref a4, .ref a5, .ref a6, .ref a7, .ref a8, .ref a9, .ref a10, .int 0, .int 0, .int (-1), .ref a11, .int 0, .ref a12, .int 0])), (a1, .inr (1, [.long 0, .int 1000, .int (-1), .int (-1), .int 0, .ref a13, .ref a14, .ref a15, .ref a16, .ref a17, .ref a18, .long 0, .ref a19])), (a17, .inr (6, [.int 8, .int 5, .ref a20, .int 0])), (a7, .inr (0, [.ref a1, .ref a4, .int 0, .int 0, .int 0])), (a18, .inr (6, [.int 6, .int 6, .ref a21, .int 0]))] sz)) (va_A [(a0, .inr (11, [.ref a1, .ref a2, .ref a3, .ref a4, .ref a5, .ref a6, .ref a7, .ref a8, .ref a9, .ref a10, .int 0, .int 0, .int (-1), .ref a11, .int 0, .ref a12, .int 0])), (a1, .inr (1, [.long 0, .int 1000, .int (-1), .int (-1), .int 0, .ref a13, .ref a14, .ref a15, .ref a16, .ref a17, .ref a18, .long 0, .ref a19])), (a17, .inr (6, [.int 8, .int 5, .ref a20, .int 0])), (a7, .inr (0, [.ref a1, .ref a4, .int 0, .int 0, .int 0])), (a18, .inr (6, [.int 6, .int 6, .ref a21, .int 0]))] sz)) 0 0 (va_A [(a0, .inr (11, [.ref a1, .ref a2, .ref a3, .ref a4, .ref a5, .ref a6, .ref a7, .ref a8, .ref a9, .ref a10, .int 0, .int 0, .int (-1), .ref a11, .int 0, .ref a12, .int 0])), (a1, .inr (1, [.long 0, .int 1000, .int (-1), .int (-1), .int 0, .ref a13, .ref a14, .ref a15, .ref a16, .ref a17, .ref a18, .long 0, .ref a19])), (a17, .inr (6, [.int 8, .int 5, .ref a20, .int 0])), (a7, .inr (0, [.ref a1, .ref a4, .int 0, .int 0, .int 0])), (a18, .inr (6, [.int 6, .int 6, .ref a21, .int 0]))] sz) := by
  refine Met.ofW (cc := cX11_lacks) (maxL := 2) (ret := (some .int)) (by decide) rfl ?_
  intro p e s m args below meth c s₁ B hml hv
  obtain ⟨rfl, hsz, hP, hK, hD0, hN, hT⟩ := hv
  have hx := B.exec
  have hb := B.bytes
  have hr := B.returns
  have hts : ∀ w ∈ tblG, w.before _ s = true := fun w h => atoms_spec (ws := (wsG yX11_lacks cX11_lacks 2 (some .int))) B.pre w (List.mem_cons_of_mem _ h)
  have hown : s.vm.findClass RX11 = some m.cls := findClass_of_methodNamed B.named
  have hlocks := B.notSynchronized
  subst hsz
  have hD := hD0.self (sz := s.heap.size)
  generalize hAe : va_A [(a0, .inr (11, [.ref a1, .ref a2, .ref a3, .ref a4, .ref a5, .ref a6, .ref a7, .ref a8, .ref a9, .ref a10, .int 0, .int 0, .int (-1), .ref a11, .int 0, .ref a12, .int 0])), (a1, .inr (1, [.long 0, .int 1000, .int (-1), .int (-1), .int 0, .ref a13, .ref a14, .ref a15, .ref a16, .ref a17, .ref a18, .long 0, .ref a19])), (a17, .inr (6, [.int 8, .int 5, .ref a20, .int 0])), (a7, .inr (0, [.ref a1, .ref a4, .int 0, .int 0, .int 0])), (a18, .inr (6, [.int 6, .int 6, .ref a21, .int 0]))] s.heap.size = A at hD hT ⊢
  have hA : ∀ q : Nat, s.heap.size ≤ q → A q := fun q h => by rw [← hAe]; exact Or.inr h
  have hS : va_S A s.heap s.heap [] := va_S.rf
  have hP : va_P G.1 vwCl [(a0, .inr (11, [.ref a1, .ref a2, .ref a3, .ref a4, .ref a5, .ref a6, .ref a7, .ref a8, .ref a9, .ref a10, .int 0, .int 0, .int (-1), .ref a11, .int 0, .ref a12, .int 0])), (a1, .inr (1, [.long 0, .int 1000, .int (-1), .int (-1), .int 0, .ref a13, .ref a14, .ref a15, .ref a16, .ref a17, .ref a18, .long 0, .ref a19])), (a17, .inr (6, [.int 8, .int 5, .ref a20, .int 0])), (a7, .inr (0, [.ref a1, .ref a4, .int 0, .int 0, .int 0])), (a18, .inr (6, [.int 6, .int 6, .ref a21, .int 0]))] s.heap := hP
  have hl := lv_entry ([.ref a0, .int n0]) (n := 2) (Nat.le_of_ble_eq_true rfl)
  rw [lg_entry_eq]
  generalize (lg_sl ([.ref a0, .int n0]) ++ List.replicate (2 - (lg_sl ([.ref a0, .int n0])).length) Slot.unset).toArray = ls at hl ⊢
  have hl : lv_has ls 2 [(0, .ref a0), (1, .int n0)] := hl
  refine lv_iload_n hx hb dX11_lacks_0 rfl (lv_at hl 1 rfl) ?_
  refine lv_if_lt (tgt := 20) hx hb dX11_lacks_1 (by decide) (fun c_1 => ?_) (fun c_1 => ?_)
  ·
    have i_1 : n0.toInt < 0 := by have z := g5_lt (a := n0.toInt) (b := 0) (by rfl) (by decide) c_1; omega
    refine lv_iconst (v := (-1)) hx hb dX11_lacks_20 (by decide) ?_
    have hP := hP.sub (ws' := []) [] rfl
    have hD := hD.sub (ws' := []) [] (by decide) rfl
    exact W.iret (v := (-1)) hx hb hr (fun t ht hW => ⟨⟨(-1), [], rfl, Or.inl (⟨i_1, rfl, rfl⟩), by rw [ht]; exact hP, hD⟩, hS.F ht⟩) hS.2.2 dX11_lacks_21
  ·
    have i_1 : n0.toInt ≥ 0 := by have z := g5_ltN (a := n0.toInt) (b := 0) (by rfl) (by decide) c_1; omega
    refine lv_iload_n hx hb dX11_lacks_4 rfl (lv_at hl 1 rfl) ?_
    refine lv_iconst (v := 1) hx hb dX11_lacks_5 (by decide) ?_
    refine lv_aload_n hx hb dX11_lacks_6 rfl (lv_at hl 0 rfl) ?_
    refine va_get (D := G.1) (ci := 11) (v := .ref a1) (C := RX11) (T := TX11) (N := 17) hx hb hts inG_X11 hown hK hP 0 rfl rfl 0 (by decide) (hts _ fl_X11_12) (fun _ h9 => h9) rfl dX11_lacks_7 ?_
    refine va_get (D := G.1) (ci := 1) (v := .ref a17) (C := RX1) (T := TX1) (N := 13) hx hb hts inG_X1 hown hK hP 1 rfl rfl 9 (by decide) (hts _ fl_X11_306) (fun _ h9 => h9) rfl dX11_lacks_10 ?_
    refine va_get (D := G.1) (ci := 6) (v := .int 0) (C := RX6) (T := TX6) (N := 4) hx hb hts inG_X6 hown hK hP 2 rfl rfl 3 (by decide) (hts _ fl_X11_238) (fun _ h9 => h9) rfl dX11_lacks_13 ?_
    refine lv_ishl hx hb dX11_lacks_16 ?_
    refine g5_ti (v := 1) (by decide) ?_
    refine lv_icmp_lt (tgt := 22) hx hb dX11_lacks_17 (by decide) (fun c_2 => ?_) (fun c_2 => ?_)
    ·
      have i_2 : n0.toInt < 1 := by have z := g5_lt (a := n0.toInt) (b := 1) (by rfl) (by decide) c_2; omega
      refine lv_aload_n hx hb dX11_lacks_22 rfl (lv_at hl 0 rfl) ?_
      refine va_get (D := G.1) (ci := 11) (v := .ref a7) (C := RX11) (T := TX11) (N := 17) hx hb hts inG_X11 hown hK hP 0 rfl rfl 6 (by decide) (hts _ fl_X11_52) (fun _ h9 => h9) rfl dX11_lacks_23 ?_
      refine lv_iload_n hx hb dX11_lacks_26 rfl (lv_at hl 1 rfl) ?_
      have hPc := hP.sub (ws' := [(a7, .inr (0, [.ref a1, .ref a4, .int 0, .int 0, .int 0])), (a1, .inr (1, [.long 0, .int 1000, .int (-1), .int (-1), .int 0, .ref a13, .ref a14, .ref a15, .ref a16, .ref a17, .ref a18, .long 0, .ref a19])), (a18, .inr (6, [.int 6, .int 6, .ref a21, .int 0]))]) [3, 1, 4] rfl
      have hDc := hD.sub (ws' := [(a7, .inr (0, [.ref a1, .ref a4, .int 0, .int 0, .int 0])), (a1, .inr (1, [.long 0, .int 1000, .int (-1), .int (-1), .int 0, .ref a13, .ref a14, .ref a15, .ref a16, .ref a17, .ref a18, .long 0, .ref a19])), (a18, .inr (6, [.int 6, .int 6, .ref a21, .int 0]))]) [3, 1, 4] (by decide) rfl
      have hFc := va_free (wc := [(a7, .inr (0, [.ref a1, .ref a4, .int 0, .int 0, .int 0])), (a1, .inr (1, [.long 0, .int 1000, .int (-1), .int (-1), .int 0, .ref a13, .ref a14, .ref a15, .ref a16, .ref a17, .ref a18, .long 0, .ref a19])), (a18, .inr (6, [.int 6, .int 6, .ref a21, .int 0]))]) hD hS hA [3, 1, 4] rfl
      refine va_calli (va_runV (As := [.int n0]) (rest := []) ⟨hx, hb, hml, hown, hts⟩ (kX0_lacking l G a7 a1 a4 a13 a14 a15 a16 a17 a18 a19 a21 s.heap.size n0 ⟨by omega, by omega⟩) (cwV 1 hts gV_X11_312 rfl rfl rfl hv_X0_lacking ⟨Nat.le_of_ble_eq_true rfl, Nat.le_of_ble_eq_true rfl⟩) (g5_preV hPc hK hDc hN hT hS hFc (ci := 0) (q0 := 0) rfl rfl) rfl rfl hl.1 rfl (lv_room (Nat.le_of_ble_eq_true rfl)) dX11_lacks_27 ⟨Nat.le_of_ble_eq_true rfl, Nat.le_of_ble_eq_true rfl⟩) hS (fun q _ h => hFc q h) hFc (fun r u t H1 locs ht hvm hw hB hz1 hk1 hS => ?_)
      obtain ⟨hP1, hD1⟩ := hB
      rw [ht] at hP1
      obtain ⟨rfl, rfl⟩ := hw
      obtain ⟨hP, hD⟩ := va_join (wr := [(a0, .inr (11, [.ref a1, .ref a2, .ref a3, .ref a4, .ref a5, .ref a6, .ref a7, .ref a8, .ref a9, .ref a10, .int 0, .int 0, .int (-1), .ref a11, .int 0, .ref a12, .int 0])), (a17, .inr (6, [.int 8, .int 5, .ref a20, .int 0]))]) (w1 := [(a7, .inr (0, [.ref a1, .ref a4, .int 0, .int 0, .int 0])), (a1, .inr (1, [.long 0, .int 1000, .int (-1), .int (-1), .int 0, .ref a13, .ref a14, .ref a15, .ref a16, .ref a17, .ref a18, .long 0, .ref a19])), (a18, .inr (6, [.int 6, .int 6, .ref a21, .int 0]))]) hP hD [3, 1, 4] [0, 2] rfl rfl (by decide) (by decide) hk1 hFc hP1 hD1
      generalize H1 = H at hP hS ⊢
      have hP : va_P G.1 vwCl [(a0, .inr (11, [.ref a1, .ref a2, .ref a3, .ref a4, .ref a5, .ref a6, .ref a7, .ref a8, .ref a9, .ref a10, .int 0, .int 0, .int (-1), .ref a11, .int 0, .ref a12, .int 0])), (a17, .inr (6, [.int 8, .int 5, .ref a20, .int 0])), (a7, .inr (0, [.ref a1, .ref a4, .int 0, .int 0, .int 0])), (a1, .inr (1, [.long 0, .int 1000, .int (-1), .int (-1), .int 0, .ref a13, .ref a14, .ref a15, .ref a16, .ref a17, .ref a18, .long 0, .ref a19])), (a18, .inr (6, [.int 6, .int 6, .ref a21, .int 0]))] H := hP
      have hD : va_D A [(a0, .inr (11, [.ref a1, .ref a2, .ref a3, .ref a4, .ref a5, .ref a6, .ref a7, .ref a8, .ref a9, .ref a10, .int 0, .int 0, .int (-1), .ref a11, .int 0, .ref a12, .int 0])), (a17, .inr (6, [.int 8, .int 5, .ref a20, .int 0])), (a7, .inr (0, [.ref a1, .ref a4, .int 0, .int 0, .int 0])), (a1, .inr (1, [.long 0, .int 1000, .int (-1), .int (-1), .int 0, .ref a13, .ref a14, .ref a15, .ref a16, .ref a17, .ref a18, .long 0, .ref a19])), (a18, .inr (6, [.int 6, .int 6, .ref a21, .int 0]))] := hD
      have hP := hP.sub (ws' := []) [] rfl
      have hD := hD.sub (ws' := []) [] (by decide) rfl
      exact W.iret (v := 0) hx hb hr (fun t ht hW => ⟨⟨0, [], rfl, Or.inr (Or.inl (⟨i_1, i_2, rfl, rfl⟩)), by rw [ht]; exact hP, hD⟩, hS.F ht⟩) hS.2.2 dX11_lacks_30
    ·
      have i_2 : n0.toInt ≥ 1 := by have z := g5_ltN (a := n0.toInt) (b := 1) (by rfl) (by decide) c_2; omega
      refine lv_iconst (v := (-1)) hx hb dX11_lacks_20 (by decide) ?_
      have hP := hP.sub (ws' := []) [] rfl
      have hD := hD.sub (ws' := []) [] (by decide) rfl
      exact W.iret (v := (-1)) hx hb hr (fun t ht hW => ⟨⟨(-1), [], rfl, Or.inr (Or.inr (⟨i_1, i_2, rfl, rfl⟩)), by rw [ht]; exact hP, hD⟩, hS.F ht⟩) hS.2.2 dX11_lacks_21
theorem fl_X0_45 : Cond.fieldLink RX0 45 "LateGlass$Hanger" "fewest" "I" ∈ tblG := tg 357 (by decide +kernel) (by decide +kernel)
theorem fl_X0_48 : Cond.fieldLink RX0 48 "LateGlass$Hanger" "choices" "I" ∈ tblG := tg 359 (by decide +kernel) (by decide +kernel)
theorem fl_X0_51 : Cond.fieldLink RX0 51 "LateGlass$Hanger" "lowest" "I" ∈ tblG := tg 361 (by decide +kernel) (by decide +kernel)
theorem fl_X0_54 : Cond.fieldLink RX0 54 "LateGlass$House" "spots" "LLateGlass$Table;" ∈ tblG := tg 182 (by decide +kernel) (by decide +kernel)
theorem ki_J6_265 : Cond.constant RJ6 265 1431655765 ∈ tblG := tg 1089 (by decide +kernel) (by decide +kernel)
theorem ki_J6_266 : Cond.constant RJ6 266 858993459 ∈ tblG := tg 1090 (by decide +kernel) (by decide +kernel)
theorem ki_J6_267 : Cond.constant RJ6 267 252645135 ∈ tblG := tg 1091 (by decide +kernel) (by decide +kernel)
theorem dJ6_bitCount_0f7a4_0 : decode cJ6_bitCount_0f7a4 0 = .ok (.iload_n 0, 1) := by decide +kernel
theorem dJ6_bitCount_0f7a4_1 : decode cJ6_bitCount_0f7a4 1 = .ok (.iload_n 0, 1) := by decide +kernel
theorem dJ6_bitCount_0f7a4_2 : decode cJ6_bitCount_0f7a4 2 = .ok (.iconst 1, 1) := by decide +kernel
theorem dJ6_bitCount_0f7a4_3 : decode cJ6_bitCount_0f7a4 3 = .ok (.iushr, 1) := by decide +kernel
theorem dJ6_bitCount_0f7a4_4 : decode cJ6_bitCount_0f7a4 4 = .ok (.ldc_w 265, 3) := by decide +kernel
theorem dJ6_bitCount_0f7a4_7 : decode cJ6_bitCount_0f7a4 7 = .ok (.iand, 1) := by decide +kernel
theorem dJ6_bitCount_0f7a4_8 : decode cJ6_bitCount_0f7a4 8 = .ok (.isub, 1) := by decide +kernel
theorem dJ6_bitCount_0f7a4_9 : decode cJ6_bitCount_0f7a4 9 = .ok (.istore_n 0, 1) := by decide +kernel
theorem dJ6_bitCount_0f7a4_10 : decode cJ6_bitCount_0f7a4 10 = .ok (.iload_n 0, 1) := by decide +kernel
theorem dJ6_bitCount_0f7a4_11 : decode cJ6_bitCount_0f7a4 11 = .ok (.ldc_w 266, 3) := by decide +kernel
theorem dJ6_bitCount_0f7a4_14 : decode cJ6_bitCount_0f7a4 14 = .ok (.iand, 1) := by decide +kernel
theorem dJ6_bitCount_0f7a4_15 : decode cJ6_bitCount_0f7a4 15 = .ok (.iload_n 0, 1) := by decide +kernel
theorem dJ6_bitCount_0f7a4_16 : decode cJ6_bitCount_0f7a4 16 = .ok (.iconst 2, 1) := by decide +kernel
theorem dJ6_bitCount_0f7a4_17 : decode cJ6_bitCount_0f7a4 17 = .ok (.iushr, 1) := by decide +kernel
theorem dJ6_bitCount_0f7a4_18 : decode cJ6_bitCount_0f7a4 18 = .ok (.ldc_w 266, 3) := by decide +kernel
theorem dJ6_bitCount_0f7a4_21 : decode cJ6_bitCount_0f7a4 21 = .ok (.iand, 1) := by decide +kernel
theorem dJ6_bitCount_0f7a4_22 : decode cJ6_bitCount_0f7a4 22 = .ok (.iadd, 1) := by decide +kernel
theorem dJ6_bitCount_0f7a4_23 : decode cJ6_bitCount_0f7a4 23 = .ok (.istore_n 0, 1) := by decide +kernel
theorem dJ6_bitCount_0f7a4_24 : decode cJ6_bitCount_0f7a4 24 = .ok (.iload_n 0, 1) := by decide +kernel
theorem dJ6_bitCount_0f7a4_25 : decode cJ6_bitCount_0f7a4 25 = .ok (.iload_n 0, 1) := by decide +kernel
theorem dJ6_bitCount_0f7a4_26 : decode cJ6_bitCount_0f7a4 26 = .ok (.iconst 4, 1) := by decide +kernel
theorem dJ6_bitCount_0f7a4_27 : decode cJ6_bitCount_0f7a4 27 = .ok (.iushr, 1) := by decide +kernel
theorem dJ6_bitCount_0f7a4_28 : decode cJ6_bitCount_0f7a4 28 = .ok (.iadd, 1) := by decide +kernel
theorem dJ6_bitCount_0f7a4_29 : decode cJ6_bitCount_0f7a4 29 = .ok (.ldc_w 267, 3) := by decide +kernel
theorem dJ6_bitCount_0f7a4_32 : decode cJ6_bitCount_0f7a4 32 = .ok (.iand, 1) := by decide +kernel
theorem dJ6_bitCount_0f7a4_33 : decode cJ6_bitCount_0f7a4 33 = .ok (.istore_n 0, 1) := by decide +kernel
theorem dJ6_bitCount_0f7a4_34 : decode cJ6_bitCount_0f7a4 34 = .ok (.iload_n 0, 1) := by decide +kernel
theorem dJ6_bitCount_0f7a4_35 : decode cJ6_bitCount_0f7a4 35 = .ok (.iload_n 0, 1) := by decide +kernel
theorem dJ6_bitCount_0f7a4_36 : decode cJ6_bitCount_0f7a4 36 = .ok (.bipush 8, 2) := by decide +kernel
theorem dJ6_bitCount_0f7a4_38 : decode cJ6_bitCount_0f7a4 38 = .ok (.iushr, 1) := by decide +kernel
theorem dJ6_bitCount_0f7a4_39 : decode cJ6_bitCount_0f7a4 39 = .ok (.iadd, 1) := by decide +kernel
theorem dJ6_bitCount_0f7a4_40 : decode cJ6_bitCount_0f7a4 40 = .ok (.istore_n 0, 1) := by decide +kernel
theorem dJ6_bitCount_0f7a4_41 : decode cJ6_bitCount_0f7a4 41 = .ok (.iload_n 0, 1) := by decide +kernel
theorem dJ6_bitCount_0f7a4_42 : decode cJ6_bitCount_0f7a4 42 = .ok (.iload_n 0, 1) := by decide +kernel
theorem dJ6_bitCount_0f7a4_43 : decode cJ6_bitCount_0f7a4 43 = .ok (.bipush 16, 2) := by decide +kernel
theorem dJ6_bitCount_0f7a4_45 : decode cJ6_bitCount_0f7a4 45 = .ok (.iushr, 1) := by decide +kernel
theorem dJ6_bitCount_0f7a4_46 : decode cJ6_bitCount_0f7a4 46 = .ok (.iadd, 1) := by decide +kernel
theorem dJ6_bitCount_0f7a4_47 : decode cJ6_bitCount_0f7a4 47 = .ok (.istore_n 0, 1) := by decide +kernel
theorem dJ6_bitCount_0f7a4_48 : decode cJ6_bitCount_0f7a4 48 = .ok (.iload_n 0, 1) := by decide +kernel
theorem dJ6_bitCount_0f7a4_49 : decode cJ6_bitCount_0f7a4 49 = .ok (.bipush 63, 2) := by decide +kernel
theorem dJ6_bitCount_0f7a4_51 : decode cJ6_bitCount_0f7a4 51 = .ok (.iand, 1) := by decide +kernel
theorem dJ6_bitCount_0f7a4_52 : decode cJ6_bitCount_0f7a4 52 = .ok (.ireturn, 1) := by decide +kernel
set_option maxHeartbeats 4000000 in
set_option maxRecDepth 100000 in
theorem kJ6_bitCount_0f7a4 (l : Launch) (G : g5_G) (sz : Nat) : Met l yJ6_bitCount_0f7a4 (wsG yJ6_bitCount_0f7a4 cJ6_bitCount_0f7a4 1 (some .int)) ({ frames := 0, cells := 0, slots := 0, locals := 0 }) (va_Pc [.int 0] (g5_P G [] sz)) (va_Qi (fun (r : Int32) (u : va_W) => ((r = 0) ∧ (u = []))) (g5_B G (va_A [] sz)) (va_A [] sz)) 0 0 (va_A [] sz) := by
  refine Met.ofW (cc := cJ6_bitCount_0f7a4) (maxL := 1) (ret := (some .int)) (by decide) rfl ?_
  intro p e s m args below meth c s₁ B hml hv
  obtain ⟨rfl, hsz, hP, hK, hD0, hN, hT⟩ := hv
  have hx := B.exec
  have hb := B.bytes
  have hr := B.returns
  have hts : ∀ w ∈ tblG, w.before _ s = true := fun w h => atoms_spec (ws := (wsG yJ6_bitCount_0f7a4 cJ6_bitCount_0f7a4 1 (some .int))) B.pre w (List.mem_cons_of_mem _ h)
  have hown : s.vm.findClass RJ6 = some m.cls := findClass_of_methodNamed B.named
  have hlocks := B.notSynchronized
  subst hsz
  have hD := hD0.self (sz := s.heap.size)
  generalize hAe : va_A [] s.heap.size = A at hD hT ⊢
  have hA : ∀ q : Nat, s.heap.size ≤ q → A q := fun q h => by rw [← hAe]; exact Or.inr h
  have hS : va_S A s.heap s.heap [] := va_S.rf
  have hP : va_P G.1 vwCl [] s.heap := hP
  have hl := lv_entry ([.int 0]) (n := 1) (Nat.le_of_ble_eq_true rfl)
  rw [lg_entry_eq]
  generalize (lg_sl ([.int 0]) ++ List.replicate (1 - (lg_sl ([.int 0])).length) Slot.unset).toArray = ls at hl ⊢
  have hl : lv_has ls 1 [(0, .int 0)] := hl
  refine lv_iload_n hx hb dJ6_bitCount_0f7a4_0 rfl (lv_at hl 0 rfl) ?_
  refine lv_iload_n hx hb dJ6_bitCount_0f7a4_1 rfl (lv_at hl 0 rfl) ?_
  refine lv_iconst (v := 1) hx hb dJ6_bitCount_0f7a4_2 (by decide) ?_
  refine lv_iushr (v := 0) hx hb dJ6_bitCount_0f7a4_3 (by decide) ?_
  refine lv_ldcw (v := 1431655765) hx hb hown (hts _ ki_J6_265) dJ6_bitCount_0f7a4_4 ?_
  refine lv_iand hx hb dJ6_bitCount_0f7a4_7 ?_
  refine g5_ti (v := 0) (by decide) ?_
  refine lv_isub hx hb dJ6_bitCount_0f7a4_8 ?_
  refine g5_ti (v := 0) (by decide) ?_
  refine lv_istore_n (lv' := [(0, .int 0)]) hx hb dJ6_bitCount_0f7a4_9 rfl hl (by decide) rfl (fun ls hl => ?_)
  refine lv_iload_n hx hb dJ6_bitCount_0f7a4_10 rfl (lv_at hl 0 rfl) ?_
  refine lv_ldcw (v := 858993459) hx hb hown (hts _ ki_J6_266) dJ6_bitCount_0f7a4_11 ?_
  refine lv_iand hx hb dJ6_bitCount_0f7a4_14 ?_
  refine g5_ti (v := 0) (by decide) ?_
  refine lv_iload_n hx hb dJ6_bitCount_0f7a4_15 rfl (lv_at hl 0 rfl) ?_
  refine lv_iconst (v := 2) hx hb dJ6_bitCount_0f7a4_16 (by decide) ?_
  refine lv_iushr (v := 0) hx hb dJ6_bitCount_0f7a4_17 (by decide) ?_
  refine lv_ldcw (v := 858993459) hx hb hown (hts _ ki_J6_266) dJ6_bitCount_0f7a4_18 ?_
  refine lv_iand hx hb dJ6_bitCount_0f7a4_21 ?_
  refine g5_ti (v := 0) (by decide) ?_
  refine lv_iadd hx hb dJ6_bitCount_0f7a4_22 ?_
  refine g5_ti (v := 0) (by decide) ?_
  refine lv_istore_n (lv' := [(0, .int 0)]) hx hb dJ6_bitCount_0f7a4_23 rfl hl (by decide) rfl (fun ls hl => ?_)
  refine lv_iload_n hx hb dJ6_bitCount_0f7a4_24 rfl (lv_at hl 0 rfl) ?_
  refine lv_iload_n hx hb dJ6_bitCount_0f7a4_25 rfl (lv_at hl 0 rfl) ?_
  refine lv_iconst (v := 4) hx hb dJ6_bitCount_0f7a4_26 (by decide) ?_
  refine lv_iushr (v := 0) hx hb dJ6_bitCount_0f7a4_27 (by decide) ?_
  refine lv_iadd hx hb dJ6_bitCount_0f7a4_28 ?_
  refine g5_ti (v := 0) (by decide) ?_
  refine lv_ldcw (v := 252645135) hx hb hown (hts _ ki_J6_267) dJ6_bitCount_0f7a4_29 ?_
  refine lv_iand hx hb dJ6_bitCount_0f7a4_32 ?_
  refine g5_ti (v := 0) (by decide) ?_
  refine lv_istore_n (lv' := [(0, .int 0)]) hx hb dJ6_bitCount_0f7a4_33 rfl hl (by decide) rfl (fun ls hl => ?_)
  refine lv_iload_n hx hb dJ6_bitCount_0f7a4_34 rfl (lv_at hl 0 rfl) ?_
  refine lv_iload_n hx hb dJ6_bitCount_0f7a4_35 rfl (lv_at hl 0 rfl) ?_
  refine lv_bipush (v := 8) hx hb dJ6_bitCount_0f7a4_36 (by decide) ?_
  refine lv_iushr (v := 0) hx hb dJ6_bitCount_0f7a4_38 (by decide) ?_
  refine lv_iadd hx hb dJ6_bitCount_0f7a4_39 ?_
  refine g5_ti (v := 0) (by decide) ?_
  refine lv_istore_n (lv' := [(0, .int 0)]) hx hb dJ6_bitCount_0f7a4_40 rfl hl (by decide) rfl (fun ls hl => ?_)
  refine lv_iload_n hx hb dJ6_bitCount_0f7a4_41 rfl (lv_at hl 0 rfl) ?_
  refine lv_iload_n hx hb dJ6_bitCount_0f7a4_42 rfl (lv_at hl 0 rfl) ?_
  refine lv_bipush (v := 16) hx hb dJ6_bitCount_0f7a4_43 (by decide) ?_
  refine lv_iushr (v := 0) hx hb dJ6_bitCount_0f7a4_45 (by decide) ?_
  refine lv_iadd hx hb dJ6_bitCount_0f7a4_46 ?_
  refine g5_ti (v := 0) (by decide) ?_
  refine lv_istore_n (lv' := [(0, .int 0)]) hx hb dJ6_bitCount_0f7a4_47 rfl hl (by decide) rfl (fun ls hl => ?_)
  refine lv_iload_n hx hb dJ6_bitCount_0f7a4_48 rfl (lv_at hl 0 rfl) ?_
  refine lv_bipush (v := 63) hx hb dJ6_bitCount_0f7a4_49 (by decide) ?_
  refine lv_iand hx hb dJ6_bitCount_0f7a4_51 ?_
  refine g5_ti (v := 0) (by decide) ?_
  exact W.iret (v := 0) hx hb hr (fun t ht hW => ⟨⟨0, [], rfl, ⟨rfl, rfl⟩, by rw [ht]; exact hP, hD⟩, hS.F ht⟩) hS.2.2 dJ6_bitCount_0f7a4_52
theorem ml_X0_57 : Cond.methodLink RX0 57 yJ6_bitCount_0f7a4 ∈ tblG := tg 1086 (by decide +kernel) (by decide +kernel)
theorem st_J6_bitCount_0f7a4 : Cond.static yJ6_bitCount_0f7a4 ∈ tblG := tg 1087 (by decide +kernel) (by decide +kernel)
theorem ini_J6 : Cond.initialized RJ6 ∈ tblG := tg 110 (by decide +kernel) (by decide +kernel)
theorem cd_J6_bitCount_0f7a4 : Cond.code yJ6_bitCount_0f7a4 cJ6_bitCount_0f7a4 1 (some .int) ∈ tblG := tg 1088 (by decide +kernel) (by decide +kernel)
theorem gW_J6_bitCount_0f7a4 : GoodIn tblG (wsG yJ6_bitCount_0f7a4 cJ6_bitCount_0f7a4 1 (some .int)) := tgi cd_J6_bitCount_0f7a4
theorem gS_X0_57 : GoodIn tblG (va_wsS RX0 57 yJ6_bitCount_0f7a4 (wsG yJ6_bitCount_0f7a4 cJ6_bitCount_0f7a4 1 (some .int))) := tgS ml_X0_57 st_J6_bitCount_0f7a4 ini_J6 gW_J6_bitCount_0f7a4
theorem hs_J6_bitCount_0f7a4 : yJ6_bitCount_0f7a4.cls ≠ "java/lang/invoke/MethodHandle" ∧ yJ6_bitCount_0f7a4.cls ≠ "java/lang/invoke/VarHandle" ∧ (parseMethodDescriptor yJ6_bitCount_0f7a4.desc).map (fun d => d.parameters.length) = some 1 := by decide +kernel
set_option maxHeartbeats 4000000 in
set_option maxRecDepth 100000 in
theorem kX0_lacking_2 (l : Launch) (G : g5_G) (a0 a1 a2 a3 a4 a5 a6 a7 a8 a9 a10 : Nat) (sz : Nat) : Met l yX0_lacking (wsG yX0_lacking cX0_lacking 6 (some .int)) ({ frames := 0, cells := 0, slots := 0, locals := 0 }) (va_Pc [.ref a0, .int 0] (g5_P G [(a0, .inr (0, [.ref a1, .ref a2, .int (-1), .int 0, .int (-1)])), (a1, .inr (1, [.long 0, .int 1000, .int (-1), .int (-1), .int 0, .ref a3, .ref a4, .ref a5, .ref a6, .ref a7, .ref a8, .long 0, .ref a9])), (a8, .inr (6, [.int 6, .int 6, .ref a10, .int 0]))] sz)) (va_Qi (fun (r : Int32) (u : va_W) => ((r = 0) ∧ (u = [(a0, .inr (0, [.ref a1, .ref a2, .int (-1), .int 0, .int (-1)])), (a1, .inr (1, [.long 0, .int 1000, .int (-1), .int (-1), .int 0, .ref a3, .ref a4, .ref a5, .ref a6, .ref a7, .ref a8, .long 0, .ref a9])), (a8, .inr (6, [.int 6, .int 6, .ref a10, .int 0]))]))) (g5_B G (va_A [(a0, .inr (0, [.ref a1, .ref a2, .int (-1), .int 0, .int (-1)])), (a1, .inr (1, [.long 0, .int 1000, .int (-1), .int (-1), .int 0, .ref a3, .ref a4, .ref a5, .ref a6, .ref a7, .ref a8, .long 0, .ref a9])), (a8, .inr (6, [.int 6, .int 6, .ref a10, .int 0]))] sz)) (va_A [(a0, .inr (0, [.ref a1, .ref a2, .int (-1), .int 0, .int (-1)])), (a1, .inr (1, [.long 0, .int 1000, .int (-1), .int (-1), .int 0, .ref a3, .ref a4, .ref a5, .ref a6, .ref a7, .ref a8, .long 0, .ref a9])), (a8, .inr (6, [.int 6, .int 6, .ref a10, .int 0]))] sz)) 0 0 (va_A [(a0, .inr (0, [.ref a1, .ref a2, .int (-1), .int 0, .int (-1)])), (a1, .inr (1, [.long 0, .int 1000, .int (-1), .int (-1), .int 0, .ref a3, .ref a4, .ref a5, .ref a6, .ref a7, .ref a8, .long 0, .ref a9])), (a8, .inr (6, [.int 6, .int 6, .ref a10, .int 0]))] sz) := by
  refine Met.ofW (cc := cX0_lacking) (maxL := 6) (ret := (some .int)) (by decide) rfl ?_
  intro p e s m args below meth c s₁ B hml hv
  obtain ⟨rfl, hsz, hP, hK, hD0, hN, hT⟩ := hv
  have hx := B.exec
  have hb := B.bytes
  have hr := B.returns
  have hts : ∀ w ∈ tblG, w.before _ s = true := fun w h => atoms_spec (ws := (wsG yX0_lacking cX0_lacking 6 (some .int))) B.pre w (List.mem_cons_of_mem _ h)
  have hown : s.vm.findClass RX0 = some m.cls := findClass_of_methodNamed B.named
  have hlocks := B.notSynchronized
  subst hsz
  have hD := hD0.self (sz := s.heap.size)
  generalize hAe : va_A [(a0, .inr (0, [.ref a1, .ref a2, .int (-1), .int 0, .int (-1)])), (a1, .inr (1, [.long 0, .int 1000, .int (-1), .int (-1), .int 0, .ref a3, .ref a4, .ref a5, .ref a6, .ref a7, .ref a8, .long 0, .ref a9])), (a8, .inr (6, [.int 6, .int 6, .ref a10, .int 0]))] s.heap.size = A at hD hT ⊢
  have hA : ∀ q : Nat, s.heap.size ≤ q → A q := fun q h => by rw [← hAe]; exact Or.inr h
  have hS : va_S A s.heap s.heap [] := va_S.rf
  have hP : va_P G.1 vwCl [(a0, .inr (0, [.ref a1, .ref a2, .int (-1), .int 0, .int (-1)])), (a1, .inr (1, [.long 0, .int 1000, .int (-1), .int (-1), .int 0, .ref a3, .ref a4, .ref a5, .ref a6, .ref a7, .ref a8, .long 0, .ref a9])), (a8, .inr (6, [.int 6, .int 6, .ref a10, .int 0]))] s.heap := hP
  have hl := lv_entry ([.ref a0, .int 0]) (n := 6) (Nat.le_of_ble_eq_true rfl)
  rw [lg_entry_eq]
  generalize (lg_sl ([.ref a0, .int 0]) ++ List.replicate (6 - (lg_sl ([.ref a0, .int 0])).length) Slot.unset).toArray = ls at hl ⊢
  have hl : lv_has ls 6 [(0, .ref a0), (1, .int 0)] := hl
  refine lv_iconst (v := 0) hx hb dX0_lacking_0 (by decide) ?_
  refine lv_istore_n (lv' := [(2, .int 0), (0, .ref a0), (1, .int 0)]) hx hb dX0_lacking_1 rfl hl (by decide) rfl (fun ls hl => ?_)
  refine lv_aload_n hx hb dX0_lacking_2 rfl (lv_at hl 1 rfl) ?_
  refine va_get (D := G.1) (ci := 0) (v := .ref a1) (C := RX0) (T := TX0) (N := 5) hx hb hts inG_X0 hown hK hP 0 rfl rfl 0 (by decide) (hts _ fl_X0_9) (fun _ h9 => h9) rfl dX0_lacking_3 ?_
  refine va_get (D := G.1) (ci := 1) (v := .ref a8) (C := RX1) (T := TX1) (N := 13) hx hb hts inG_X1 hown hK hP 1 rfl rfl 10 (by decide) (hts _ fl_X0_19) (fun _ h9 => h9) rfl dX0_lacking_6 ?_
  refine lv_astore_n (lv' := [(3, .ref a8), (2, .int 0), (0, .ref a0), (1, .int 0)]) hx hb dX0_lacking_9 rfl hl (by decide) rfl (fun ls hl => ?_)
  refine lv_iconst (v := 0) hx hb dX0_lacking_10 (by decide) ?_
  refine lv_istore (lv' := [(4, .int 0), (3, .ref a8), (2, .int 0), (0, .ref a0), (1, .int 0)]) hx hb dX0_lacking_11 hl (by decide) rfl (fun ls hl => ?_)
  refine lv_iload hx hb dX0_lacking_13 (lv_at hl 0 rfl) ?_
  refine lv_aload_n hx hb dX0_lacking_15 rfl (lv_at hl 1 rfl) ?_
  refine va_get (D := G.1) (ci := 6) (v := .int 0) (C := RX6) (T := TX6) (N := 4) hx hb hts inG_X6 hown hK hP 2 rfl rfl 3 (by decide) (hts _ fl_X0_25) (fun _ h9 => h9) rfl dX0_lacking_16 ?_
  refine lv_icmp_ge (tgt := 112) hx hb dX0_lacking_19 (by decide) (fun c_1 => ?_) (fun c_1 => ?_)
  ·
    refine lv_iload_n hx hb dX0_lacking_112 rfl (lv_at hl 2 rfl) ?_
    exact W.iret (v := 0) hx hb hr (fun t ht hW => ⟨⟨0, [(a0, .inr (0, [.ref a1, .ref a2, .int (-1), .int 0, .int (-1)])), (a1, .inr (1, [.long 0, .int 1000, .int (-1), .int (-1), .int 0, .ref a3, .ref a4, .ref a5, .ref a6, .ref a7, .ref a8, .long 0, .ref a9])), (a8, .inr (6, [.int 6, .int 6, .ref a10, .int 0]))], rfl, ⟨rfl, rfl⟩, by rw [ht]; exact hP, hD⟩, hS.F ht⟩) hS.2.2 dX0_lacking_113
  ·
    exact absurd c_1 (by decide)
theorem ml_X0_63 : Cond.methodLink RX0 63 yX0_lacking ∈ tblG := tg 1092 (by decide +kernel) (by decide +kernel)
theorem gV_X0_63 : GoodIn tblG (wsV RX0 63 RX0 yX0_lacking (wsG yX0_lacking cX0_lacking 6 (some .int))) := tgV ml_X0_63 im_X0_lacking se_X0_lacking ini_X0 gW_X0_lacking
theorem dX0_search_0 : decode cX0_search 0 = .ok (.aload_n 0, 1) := by decide +kernel
theorem dX0_search_1 : decode cX0_search 1 = .ok (.iconst (-1), 1) := by decide +kernel
theorem dX0_search_2 : decode cX0_search 2 = .ok (.putfield 45, 3) := by decide +kernel
theorem dX0_search_5 : decode cX0_search 5 = .ok (.aload_n 0, 1) := by decide +kernel
theorem dX0_search_6 : decode cX0_search 6 = .ok (.iconst 0, 1) := by decide +kernel
theorem dX0_search_7 : decode cX0_search 7 = .ok (.putfield 48, 3) := by decide +kernel
theorem dX0_search_10 : decode cX0_search 10 = .ok (.aload_n 0, 1) := by decide +kernel
theorem dX0_search_11 : decode cX0_search 11 = .ok (.iconst (-1), 1) := by decide +kernel
theorem dX0_search_12 : decode cX0_search 12 = .ok (.putfield 51, 3) := by decide +kernel
theorem dX0_search_15 : decode cX0_search 15 = .ok (.iconst 0, 1) := by decide +kernel
theorem dX0_search_16 : decode cX0_search 16 = .ok (.istore_n 1, 1) := by decide +kernel
theorem dX0_search_17 : decode cX0_search 17 = .ok (.iload_n 1, 1) := by decide +kernel
theorem dX0_search_18 : decode cX0_search 18 = .ok (.iconst 1, 1) := by decide +kernel
theorem dX0_search_19 : decode cX0_search 19 = .ok (.aload_n 0, 1) := by decide +kernel
theorem dX0_search_20 : decode cX0_search 20 = .ok (.getfield 9, 3) := by decide +kernel
theorem dX0_search_23 : decode cX0_search 23 = .ok (.getfield 54, 3) := by decide +kernel
theorem dX0_search_26 : decode cX0_search 26 = .ok (.getfield 25, 3) := by decide +kernel
theorem dX0_search_29 : decode cX0_search 29 = .ok (.ishl, 1) := by decide +kernel
theorem dX0_search_30 : decode cX0_search 30 = .ok (.if_icmp .ge 81, 3) := by decide +kernel
theorem dX0_search_33 : decode cX0_search 33 = .ok (.iload_n 1, 1) := by decide +kernel
theorem dX0_search_34 : decode cX0_search 34 = .ok (.invokestatic 57, 3) := by decide +kernel
theorem dX0_search_37 : decode cX0_search 37 = .ok (.istore_n 2, 1) := by decide +kernel
theorem dX0_search_38 : decode cX0_search 38 = .ok (.aload_n 0, 1) := by decide +kernel
theorem dX0_search_39 : decode cX0_search 39 = .ok (.getfield 45, 3) := by decide +kernel
theorem dX0_search_42 : decode cX0_search 42 = .ok (.iconst (-1), 1) := by decide +kernel
theorem dX0_search_43 : decode cX0_search 43 = .ok (.if_icmp .eq 11, 3) := by decide +kernel
theorem dX0_search_46 : decode cX0_search 46 = .ok (.iload_n 2, 1) := by decide +kernel
theorem dX0_search_47 : decode cX0_search 47 = .ok (.aload_n 0, 1) := by decide +kernel
theorem dX0_search_48 : decode cX0_search 48 = .ok (.getfield 45, 3) := by decide +kernel
theorem dX0_search_51 : decode cX0_search 51 = .ok (.if_icmp .gt 7, 3) := by decide +kernel
theorem dX0_search_54 : decode cX0_search 54 = .ok (.iconst 1, 1) := by decide +kernel
theorem dX0_search_55 : decode cX0_search 55 = .ok (.goto 4, 3) := by decide +kernel
theorem dX0_search_58 : decode cX0_search 58 = .ok (.iconst 0, 1) := by decide +kernel
theorem dX0_search_59 : decode cX0_search 59 = .ok (.istore_n 3, 1) := by decide +kernel
theorem dX0_search_60 : decode cX0_search 60 = .ok (.iload_n 3, 1) := by decide +kernel
theorem dX0_search_61 : decode cX0_search 61 = .ok (.ifCond .eq 44, 3) := by decide +kernel
theorem dX0_search_64 : decode cX0_search 64 = .ok (.aload_n 0, 1) := by decide +kernel
theorem dX0_search_65 : decode cX0_search 65 = .ok (.iload_n 1, 1) := by decide +kernel
theorem dX0_search_66 : decode cX0_search 66 = .ok (.invokevirtual 63, 3) := by decide +kernel
theorem dX0_search_69 : decode cX0_search 69 = .ok (.ifCond .ne 36, 3) := by decide +kernel
theorem dX0_search_72 : decode cX0_search 72 = .ok (.iload_n 2, 1) := by decide +kernel
theorem dX0_search_73 : decode cX0_search 73 = .ok (.aload_n 0, 1) := by decide +kernel
theorem dX0_search_74 : decode cX0_search 74 = .ok (.getfield 45, 3) := by decide +kernel
theorem dX0_search_77 : decode cX0_search 77 = .ok (.if_icmp .eq 18, 3) := by decide +kernel
theorem dX0_search_80 : decode cX0_search 80 = .ok (.aload_n 0, 1) := by decide +kernel
theorem dX0_search_81 : decode cX0_search 81 = .ok (.iload_n 2, 1) := by decide +kernel
theorem dX0_search_82 : decode cX0_search 82 = .ok (.putfield 45, 3) := by decide +kernel
theorem dX0_search_85 : decode cX0_search 85 = .ok (.aload_n 0, 1) := by decide +kernel
theorem dX0_search_86 : decode cX0_search 86 = .ok (.iconst 0, 1) := by decide +kernel
theorem dX0_search_87 : decode cX0_search 87 = .ok (.putfield 48, 3) := by decide +kernel
theorem dX0_search_90 : decode cX0_search 90 = .ok (.aload_n 0, 1) := by decide +kernel
theorem dX0_search_91 : decode cX0_search 91 = .ok (.iload_n 1, 1) := by decide +kernel
theorem dX0_search_92 : decode cX0_search 92 = .ok (.putfield 51, 3) := by decide +kernel
theorem dX0_search_95 : decode cX0_search 95 = .ok (.aload_n 0, 1) := by decide +kernel
theorem dX0_search_96 : decode cX0_search 96 = .ok (.dup, 1) := by decide +kernel
theorem dX0_search_97 : decode cX0_search 97 = .ok (.getfield 48, 3) := by decide +kernel
theorem dX0_search_100 : decode cX0_search 100 = .ok (.iconst 1, 1) := by decide +kernel
theorem dX0_search_101 : decode cX0_search 101 = .ok (.iadd, 1) := by decide +kernel
theorem dX0_search_102 : decode cX0_search 102 = .ok (.putfield 48, 3) := by decide +kernel
theorem dX0_search_105 : decode cX0_search 105 = .ok (.iinc 1 1, 3) := by decide +kernel
theorem dX0_search_108 : decode cX0_search 108 = .ok (.goto (-91), 3) := by decide +kernel
theorem dX0_search_111 : decode cX0_search 111 = .ok (.return_, 1) := by decide +kernel
set_option maxHeartbeats 4000000 in
set_option maxRecDepth 100000 in
theorem kX0_search (l : Launch) (G : g5_G) (a0 a1 a2 a3 a4 a5 a6 a7 a8 a9 a10 a11 : Nat) (sz : Nat) : Met l yX0_search (wsG yX0_search cX0_search 4 none) ({ frames := 1, cells := 0, slots := 0, locals := 25 }) (va_Pc [.ref a0] (g5_P G [(a0, .inr (0, [.ref a1, .ref a2, .int 0, .int 0, .int 0])), (a1, .inr (1, [.long 0, .int 1000, .int (-1), .int (-1), .int 0, .ref a3, .ref a4, .ref a5, .ref a6, .ref a7, .ref a8, .long 0, .ref a9])), (a7, .inr (6, [.int 8, .int 5, .ref a10, .int 0])), (a8, .inr (6, [.int 6, .int 6, .ref a11, .int 0]))] sz)) (va_Qv (fun (u : va_W) => ((u = [(a7, .inr (6, [.int 8, .int 5, .ref a10, .int 0])), (a0, .inr (0, [.ref a1, .ref a2, .int 0, .int 1, .int 0])), (a1, .inr (1, [.long 0, .int 1000, .int (-1), .int (-1), .int 0, .ref a3, .ref a4, .ref a5, .ref a6, .ref a7, .ref a8, .long 0, .ref a9])), (a8, .inr (6, [.int 6, .int 6, .ref a11, .int 0]))]))) (g5_B G (va_A [(a0, .inr (0, [.ref a1, .ref a2, .int 0, .int 0, .int 0])), (a1, .inr (1, [.long 0, .int 1000, .int (-1), .int (-1), .int 0, .ref a3, .ref a4, .ref a5, .ref a6, .ref a7, .ref a8, .long 0, .ref a9])), (a7, .inr (6, [.int 8, .int 5, .ref a10, .int 0])), (a8, .inr (6, [.int 6, .int 6, .ref a11, .int 0]))] sz)) (va_A [(a0, .inr (0, [.ref a1, .ref a2, .int 0, .int 0, .int 0])), (a1, .inr (1, [.long 0, .int 1000, .int (-1), .int (-1), .int 0, .ref a3, .ref a4, .ref a5, .ref a6, .ref a7, .ref a8, .long 0, .ref a9])), (a7, .inr (6, [.int 8, .int 5, .ref a10, .int 0])), (a8, .inr (6, [.int 6, .int 6, .ref a11, .int 0]))] sz)) 0 0 (va_A [(a0, .inr (0, [.ref a1, .ref a2, .int 0, .int 0, .int 0])), (a1, .inr (1, [.long 0, .int 1000, .int (-1), .int (-1), .int 0, .ref a3, .ref a4, .ref a5, .ref a6, .ref a7, .ref a8, .long 0, .ref a9])), (a7, .inr (6, [.int 8, .int 5, .ref a10, .int 0])), (a8, .inr (6, [.int 6, .int 6, .ref a11, .int 0]))] sz) := by
  refine Met.ofW (cc := cX0_search) (maxL := 4) (ret := none) (by decide) rfl ?_
  intro p e s m args below meth c s₁ B hml hv
  obtain ⟨rfl, hsz, hP, hK, hD0, hN, hT⟩ := hv
  have hx := B.exec
  have hb := B.bytes
  have hr := B.returns
  have hts : ∀ w ∈ tblG, w.before _ s = true := fun w h => atoms_spec (ws := (wsG yX0_search cX0_search 4 none)) B.pre w (List.mem_cons_of_mem _ h)
  have hown : s.vm.findClass RX0 = some m.cls := findClass_of_methodNamed B.named
  have hlocks := B.notSynchronized
  subst hsz
  have hD := hD0.self (sz := s.heap.size)
  generalize hAe : va_A [(a0, .inr (0, [.ref a1, .ref a2, .int 0, .int 0, .int 0])), (a1, .inr (1, [.long 0, .int 1000, .int (-1), .int (-1), .int 0, .ref a3, .ref a4, .ref a5, .ref a6, .ref a7, .ref a8, .long 0, .ref a9])), (a7, .inr (6, [.int 8, .int 5, .ref a10, .int 0])), (a8, .inr (6, [.int 6, .int 6, .ref a11, .int 0]))] s.heap.size = A at hD hT ⊢
  have hA : ∀ q : Nat, s.heap.size ≤ q → A q := fun q h => by rw [← hAe]; exact Or.inr h
  have hS : va_S A s.heap s.heap [] := va_S.rf
  have hP : va_P G.1 vwCl [(a0, .inr (0, [.ref a1, .ref a2, .int 0, .int 0, .int 0])), (a1, .inr (1, [.long 0, .int 1000, .int (-1), .int (-1), .int 0, .ref a3, .ref a4, .ref a5, .ref a6, .ref a7, .ref a8, .long 0, .ref a9])), (a7, .inr (6, [.int 8, .int 5, .ref a10, .int 0])), (a8, .inr (6, [.int 6, .int 6, .ref a11, .int 0]))] s.heap := hP
  have hl := lv_entry ([.ref a0]) (n := 4) (Nat.le_of_ble_eq_true rfl)
  rw [lg_entry_eq]
  generalize (lg_sl ([.ref a0]) ++ List.replicate (4 - (lg_sl ([.ref a0])).length) Slot.unset).toArray = ls at hl ⊢
  have hl : lv_has ls 4 [(0, .ref a0)] := hl
  refine lv_aload_n hx hb dX0_search_0 rfl (lv_at hl 0 rfl) ?_
  refine lv_iconst (v := (-1)) hx hb dX0_search_1 (by decide) ?_
  refine va_put (D := G.1) (ci := 0) (v := .int (-1)) (ty := .int) (C := RX0) (T := TX0) (N := 5) hx hb hts inG_X0 tyX0 tyX0_ok nmX0 hown hK hP hD hS 0 rfl rfl 2 (by decide) (hts _ fl_X0_45) (fun _ h9 => h9) rfl (by decide +kernel) rfl rfl (Nat.le_of_ble_eq_true rfl) dX0_search_2 (fun H locs hP hD hS => ?_)
  have hP : va_P G.1 vwCl [(a0, .inr (0, [.ref a1, .ref a2, .int (-1), .int 0, .int 0])), (a1, .inr (1, [.long 0, .int 1000, .int (-1), .int (-1), .int 0, .ref a3, .ref a4, .ref a5, .ref a6, .ref a7, .ref a8, .long 0, .ref a9])), (a7, .inr (6, [.int 8, .int 5, .ref a10, .int 0])), (a8, .inr (6, [.int 6, .int 6, .ref a11, .int 0]))] H := hP
  have hD : va_D A [(a0, .inr (0, [.ref a1, .ref a2, .int (-1), .int 0, .int 0])), (a1, .inr (1, [.long 0, .int 1000, .int (-1), .int (-1), .int 0, .ref a3, .ref a4, .ref a5, .ref a6, .ref a7, .ref a8, .long 0, .ref a9])), (a7, .inr (6, [.int 8, .int 5, .ref a10, .int 0])), (a8, .inr (6, [.int 6, .int 6, .ref a11, .int 0]))] := hD
  refine lv_aload_n hx hb dX0_search_5 rfl (lv_at hl 0 rfl) ?_
  refine lv_iconst (v := 0) hx hb dX0_search_6 (by decide) ?_
  refine va_put (D := G.1) (ci := 0) (v := .int 0) (ty := .int) (C := RX0) (T := TX0) (N := 5) hx hb hts inG_X0 tyX0 tyX0_ok nmX0 hown hK hP hD hS 0 rfl rfl 3 (by decide) (hts _ fl_X0_48) (fun _ h9 => h9) rfl (by decide +kernel) rfl rfl (Nat.le_of_ble_eq_true rfl) dX0_search_7 (fun H locs hP hD hS => ?_)
  have hP : va_P G.1 vwCl [(a0, .inr (0, [.ref a1, .ref a2, .int (-1), .int 0, .int 0])), (a1, .inr (1, [.long 0, .int 1000, .int (-1), .int (-1), .int 0, .ref a3, .ref a4, .ref a5, .ref a6, .ref a7, .ref a8, .long 0, .ref a9])), (a7, .inr (6, [.int 8, .int 5, .ref a10, .int 0])), (a8, .inr (6, [.int 6, .int 6, .ref a11, .int 0]))] H := hP
  have hD : va_D A [(a0, .inr (0, [.ref a1, .ref a2, .int (-1), .int 0, .int 0])), (a1, .inr (1, [.long 0, .int 1000, .int (-1), .int (-1), .int 0, .ref a3, .ref a4, .ref a5, .ref a6, .ref a7, .ref a8, .long 0, .ref a9])), (a7, .inr (6, [.int 8, .int 5, .ref a10, .int 0])), (a8, .inr (6, [.int 6, .int 6, .ref a11, .int 0]))] := hD
  refine lv_aload_n hx hb dX0_search_10 rfl (lv_at hl 0 rfl) ?_
  refine lv_iconst (v := (-1)) hx hb dX0_search_11 (by decide) ?_
  refine va_put (D := G.1) (ci := 0) (v := .int (-1)) (ty := .int) (C := RX0) (T := TX0) (N := 5) hx hb hts inG_X0 tyX0 tyX0_ok nmX0 hown hK hP hD hS 0 rfl rfl 4 (by decide) (hts _ fl_X0_51) (fun _ h9 => h9) rfl (by decide +kernel) rfl rfl (Nat.le_of_ble_eq_true rfl) dX0_search_12 (fun H locs hP hD hS => ?_)
  have hP : va_P G.1 vwCl [(a0, .inr (0, [.ref a1, .ref a2, .int (-1), .int 0, .int (-1)])), (a1, .inr (1, [.long 0, .int 1000, .int (-1), .int (-1), .int 0, .ref a3, .ref a4, .ref a5, .ref a6, .ref a7, .ref a8, .long 0, .ref a9])), (a7, .inr (6, [.int 8, .int 5, .ref a10, .int 0])), (a8, .inr (6, [.int 6, .int 6, .ref a11, .int 0]))] H := hP
  have hD : va_D A [(a0, .inr (0, [.ref a1, .ref a2, .int (-1), .int 0, .int (-1)])), (a1, .inr (1, [.long 0, .int 1000, .int (-1), .int (-1), .int 0, .ref a3, .ref a4, .ref a5, .ref a6, .ref a7, .ref a8, .long 0, .ref a9])), (a7, .inr (6, [.int 8, .int 5, .ref a10, .int 0])), (a8, .inr (6, [.int 6, .int 6, .ref a11, .int 0]))] := hD
  refine lv_iconst (v := 0) hx hb dX0_search_15 (by decide) ?_
  refine lv_istore_n (lv' := [(1, .int 0), (0, .ref a0)]) hx hb dX0_search_16 rfl hl (by decide) rfl (fun ls hl => ?_)
  refine lv_iload_n hx hb dX0_search_17 rfl (lv_at hl 0 rfl) ?_
  refine lv_iconst (v := 1) hx hb dX0_search_18 (by decide) ?_
  refine lv_aload_n hx hb dX0_search_19 rfl (lv_at hl 1 rfl) ?_
  refine va_get (D := G.1) (ci := 0) (v := .ref a1) (C := RX0) (T := TX0) (N := 5) hx hb hts inG_X0 hown hK hP 0 rfl rfl 0 (by decide) (hts _ fl_X0_9) (fun _ h9 => h9) rfl dX0_search_20 ?_
  refine va_get (D := G.1) (ci := 1) (v := .ref a7) (C := RX1) (T := TX1) (N := 13) hx hb hts inG_X1 hown hK hP 1 rfl rfl 9 (by decide) (hts _ fl_X0_54) (fun _ h9 => h9) rfl dX0_search_23 ?_
  refine va_get (D := G.1) (ci := 6) (v := .int 0) (C := RX6) (T := TX6) (N := 4) hx hb hts inG_X6 hown hK hP 2 rfl rfl 3 (by decide) (hts _ fl_X0_25) (fun _ h9 => h9) rfl dX0_search_26 ?_
  refine lv_ishl hx hb dX0_search_29 ?_
  refine g5_ti (v := 1) (by decide) ?_
  refine lv_icmp_ge (tgt := 111) hx hb dX0_search_30 (by decide) (fun c_1 => ?_) (fun c_1 => ?_)
  ·
    exact absurd c_1 (by decide)
  ·
    refine lv_iload_n hx hb dX0_search_33 rfl (lv_at hl 0 rfl) ?_
    have hPc := hP.sub (ws' := []) [] rfl
    have hDc := hD.sub (ws' := []) [] (by decide) rfl
    have hFc := va_free (wc := []) hD hS hA [] rfl
    refine va_calli (va_runS (As := [.int 0]) (rest := []) ⟨hx, hb, hml, hown, hts⟩ (kJ6_bitCount_0f7a4 l G H.size) (va_cwS 1 hts gS_X0_57 rfl rfl rfl hs_J6_bitCount_0f7a4 ⟨Nat.le_of_ble_eq_true rfl, Nat.le_of_ble_eq_true rfl⟩) (g5_preS hPc hK hDc hN hT hS hFc) rfl rfl hl.1 rfl (lv_room (Nat.le_of_ble_eq_true rfl)) dX0_search_34 ⟨Nat.le_of_ble_eq_true rfl, Nat.le_of_ble_eq_true rfl⟩) hS (fun q _ h => hFc q h) hFc (fun r u t H1 locs ht hvm hw hB hz1 hk1 hS => ?_)
    obtain ⟨hP1, hD1⟩ := hB
    rw [ht] at hP1
    obtain ⟨rfl, rfl⟩ := hw
    have hP := g5_same hP hk1
    generalize H1 = H at hP hS ⊢
    refine lv_istore_n (lv' := [(2, .int 0), (1, .int 0), (0, .ref a0)]) hx hb dX0_search_37 rfl hl (by decide) rfl (fun ls hl => ?_)
    refine lv_aload_n hx hb dX0_search_38 rfl (lv_at hl 2 rfl) ?_
    refine va_get (D := G.1) (ci := 0) (v := .int (-1)) (C := RX0) (T := TX0) (N := 5) hx hb hts inG_X0 hown hK hP 0 rfl rfl 2 (by decide) (hts _ fl_X0_45) (fun _ h9 => h9) rfl dX0_search_39 ?_
    refine lv_iconst (v := (-1)) hx hb dX0_search_42 (by decide) ?_
    refine lv_icmp_eq (tgt := 54) hx hb dX0_search_43 (by decide) (fun c_2 => ?_) (fun c_2 => ?_)
    ·
      refine lv_iconst (v := 1) hx hb dX0_search_54 (by decide) ?_
      refine lv_goto (tgt := 59) hx hb dX0_search_55 (by decide) ?_
      refine lv_istore_n (lv' := [(3, .int 1), (2, .int 0), (1, .int 0), (0, .ref a0)]) hx hb dX0_search_59 rfl hl (by decide) rfl (fun ls hl => ?_)
      refine lv_iload_n hx hb dX0_search_60 rfl (lv_at hl 0 rfl) ?_
      refine lv_if_eq (tgt := 105) hx hb dX0_search_61 (by decide) (fun c_3 => ?_) (fun c_3 => ?_)
      ·
        exact absurd c_3 (by decide)
      ·
        refine lv_aload_n hx hb dX0_search_64 rfl (lv_at hl 3 rfl) ?_
        refine lv_iload_n hx hb dX0_search_65 rfl (lv_at hl 2 rfl) ?_
        have hPc := hP.sub (ws' := [(a0, .inr (0, [.ref a1, .ref a2, .int (-1), .int 0, .int (-1)])), (a1, .inr (1, [.long 0, .int 1000, .int (-1), .int (-1), .int 0, .ref a3, .ref a4, .ref a5, .ref a6, .ref a7, .ref a8, .long 0, .ref a9])), (a8, .inr (6, [.int 6, .int 6, .ref a11, .int 0]))]) [0, 1, 3] rfl
        have hDc := hD.sub (ws' := [(a0, .inr (0, [.ref a1, .ref a2, .int (-1), .int 0, .int (-1)])), (a1, .inr (1, [.long 0, .int 1000, .int (-1), .int (-1), .int 0, .ref a3, .ref a4, .ref a5, .ref a6, .ref a7, .ref a8, .long 0, .ref a9])), (a8, .inr (6, [.int 6, .int 6, .ref a11, .int 0]))]) [0, 1, 3] (by decide) rfl
        have hFc := va_free (wc := [(a0, .inr (0, [.ref a1, .ref a2, .int (-1), .int 0, .int (-1)])), (a1, .inr (1, [.long 0, .int 1000, .int (-1), .int (-1), .int 0, .ref a3, .ref a4, .ref a5, .ref a6, .ref a7, .ref a8, .long 0, .ref a9])), (a8, .inr (6, [.int 6, .int 6, .ref a11, .int 0]))]) hD hS hA [0, 1, 3] rfl
        refine va_calli (va_runV (As := [.int 0]) (rest := []) ⟨hx, hb, hml, hown, hts⟩ (kX0_lacking_2 l G a0 a1 a2 a3 a4 a5 a6 a7 a8 a9 a11 H.size) (cwV 1 hts gV_X0_63 rfl rfl rfl hv_X0_lacking ⟨Nat.le_of_ble_eq_true rfl, Nat.le_of_ble_eq_true rfl⟩) (g5_preV hPc hK hDc hN hT hS hFc (ci := 0) (q0 := 0) rfl rfl) rfl rfl hl.1 rfl (lv_room (Nat.le_of_ble_eq_true rfl)) dX0_search_66 ⟨Nat.le_of_ble_eq_true rfl, Nat.le_of_ble_eq_true rfl⟩) hS (fun q _ h => hFc q h) hFc (fun r u t H1 locs ht hvm hw hB hz1 hk1 hS => ?_)
        obtain ⟨hP1, hD1⟩ := hB
        rw [ht] at hP1
        obtain ⟨rfl, rfl⟩ := hw
        obtain ⟨hP, hD⟩ := va_join (wr := [(a7, .inr (6, [.int 8, .int 5, .ref a10, .int 0]))]) (w1 := [(a0, .inr (0, [.ref a1, .ref a2, .int (-1), .int 0, .int (-1)])), (a1, .inr (1, [.long 0, .int 1000, .int (-1), .int (-1), .int 0, .ref a3, .ref a4, .ref a5, .ref a6, .ref a7, .ref a8, .long 0, .ref a9])), (a8, .inr (6, [.int 6, .int 6, .ref a11, .int 0]))]) hP hD [0, 1, 3] [2] rfl rfl (by decide) (by decide) hk1 hFc hP1 hD1
        generalize H1 = H at hP hS ⊢
        have hP : va_P G.1 vwCl [(a7, .inr (6, [.int 8, .int 5, .ref a10, .int 0])), (a0, .inr (0, [.ref a1, .ref a2, .int (-1), .int 0, .int (-1)])), (a1, .inr (1, [.long 0, .int 1000, .int (-1), .int (-1), .int 0, .ref a3, .ref a4, .ref a5, .ref a6, .ref a7, .ref a8, .long 0, .ref a9])), (a8, .inr (6, [.int 6, .int 6, .ref a11, .int 0]))] H := hP
        have hD : va_D A [(a7, .inr (6, [.int 8, .int 5, .ref a10, .int 0])), (a0, .inr (0, [.ref a1, .ref a2, .int (-1), .int 0, .int (-1)])), (a1, .inr (1, [.long 0, .int 1000, .int (-1), .int (-1), .int 0, .ref a3, .ref a4, .ref a5, .ref a6, .ref a7, .ref a8, .long 0, .ref a9])), (a8, .inr (6, [.int 6, .int 6, .ref a11, .int 0]))] := hD
        refine lv_if_ne (tgt := 105) hx hb dX0_search_69 (by decide) (fun c_4 => ?_) (fun c_4 => ?_)
        ·
          exact absurd c_4 (by decide)
        ·
          refine lv_iload_n hx hb dX0_search_72 rfl (lv_at hl 1 rfl) ?_
          refine lv_aload_n hx hb dX0_search_73 rfl (lv_at hl 3 rfl) ?_
          refine va_get (D := G.1) (ci := 0) (v := .int (-1)) (C := RX0) (T := TX0) (N := 5) hx hb hts inG_X0 hown hK hP 1 rfl rfl 2 (by decide) (hts _ fl_X0_45) (fun _ h9 => h9) rfl dX0_search_74 ?_
          refine lv_icmp_eq (tgt := 95) hx hb dX0_search_77 (by decide) (fun c_5 => ?_) (fun c_5 => ?_)
          ·
            exact absurd c_5 (by decide)
          ·
            refine lv_aload_n hx hb dX0_search_80 rfl (lv_at hl 3 rfl) ?_
            refine lv_iload_n hx hb dX0_search_81 rfl (lv_at hl 1 rfl) ?_
            refine va_put (D := G.1) (ci := 0) (v := .int 0) (ty := .int) (C := RX0) (T := TX0) (N := 5) hx hb hts inG_X0 tyX0 tyX0_ok nmX0 hown hK hP hD hS 1 rfl rfl 2 (by decide) (hts _ fl_X0_45) (fun _ h9 => h9) rfl (by decide +kernel) rfl rfl (Nat.le_of_ble_eq_true rfl) dX0_search_82 (fun H locs hP hD hS => ?_)
            have hP : va_P G.1 vwCl [(a7, .inr (6, [.int 8, .int 5, .ref a10, .int 0])), (a0, .inr (0, [.ref a1, .ref a2, .int 0, .int 0, .int (-1)])), (a1, .inr (1, [.long 0, .int 1000, .int (-1), .int (-1), .int 0, .ref a3, .ref a4, .ref a5, .ref a6, .ref a7, .ref a8, .long 0, .ref a9])), (a8, .inr (6, [.int 6, .int 6, .ref a11, .int 0]))] H := hP
            have hD : va_D A [(a7, .inr (6, [.int 8, .int 5, .ref a10, .int 0])), (a0, .inr (0, [.ref a1, .ref a2, .int 0, .int 0, .int (-1)])), (a1, .inr (1, [.long 0, .int 1000, .int (-1), .int (-1), .int 0, .ref a3, .ref a4, .ref a5, .ref a6, .ref a7, .ref a8, .long 0, .ref a9])), (a8, .inr (6, [.int 6, .int 6, .ref a11, .int 0]))] := hD
            refine lv_aload_n hx hb dX0_search_85 rfl (lv_at hl 3 rfl) ?_
            refine lv_iconst (v := 0) hx hb dX0_search_86 (by decide) ?_
            refine va_put (D := G.1) (ci := 0) (v := .int 0) (ty := .int) (C := RX0) (T := TX0) (N := 5) hx hb hts inG_X0 tyX0 tyX0_ok nmX0 hown hK hP hD hS 1 rfl rfl 3 (by decide) (hts _ fl_X0_48) (fun _ h9 => h9) rfl (by decide +kernel) rfl rfl (Nat.le_of_ble_eq_true rfl) dX0_search_87 (fun H locs hP hD hS => ?_)
            have hP : va_P G.1 vwCl [(a7, .inr (6, [.int 8, .int 5, .ref a10, .int 0])), (a0, .inr (0, [.ref a1, .ref a2, .int 0, .int 0, .int (-1)])), (a1, .inr (1, [.long 0, .int 1000, .int (-1), .int (-1), .int 0, .ref a3, .ref a4, .ref a5, .ref a6, .ref a7, .ref a8, .long 0, .ref a9])), (a8, .inr (6, [.int 6, .int 6, .ref a11, .int 0]))] H := hP
            have hD : va_D A [(a7, .inr (6, [.int 8, .int 5, .ref a10, .int 0])), (a0, .inr (0, [.ref a1, .ref a2, .int 0, .int 0, .int (-1)])), (a1, .inr (1, [.long 0, .int 1000, .int (-1), .int (-1), .int 0, .ref a3, .ref a4, .ref a5, .ref a6, .ref a7, .ref a8, .long 0, .ref a9])), (a8, .inr (6, [.int 6, .int 6, .ref a11, .int 0]))] := hD
            refine lv_aload_n hx hb dX0_search_90 rfl (lv_at hl 3 rfl) ?_
            refine lv_iload_n hx hb dX0_search_91 rfl (lv_at hl 2 rfl) ?_
            refine va_put (D := G.1) (ci := 0) (v := .int 0) (ty := .int) (C := RX0) (T := TX0) (N := 5) hx hb hts inG_X0 tyX0 tyX0_ok nmX0 hown hK hP hD hS 1 rfl rfl 4 (by decide) (hts _ fl_X0_51) (fun _ h9 => h9) rfl (by decide +kernel) rfl rfl (Nat.le_of_ble_eq_true rfl) dX0_search_92 (fun H locs hP hD hS => ?_)
            have hP : va_P G.1 vwCl [(a7, .inr (6, [.int 8, .int 5, .ref a10, .int 0])), (a0, .inr (0, [.ref a1, .ref a2, .int 0, .int 0, .int 0])), (a1, .inr (1, [.long 0, .int 1000, .int (-1), .int (-1), .int 0, .ref a3, .ref a4, .ref a5, .ref a6, .ref a7, .ref a8, .long 0, .ref a9])), (a8, .inr (6, [.int 6, .int 6, .ref a11, .int 0]))] H := hP
            have hD : va_D A [(a7, .inr (6, [.int 8, .int 5, .ref a10, .int 0])), (a0, .inr (0, [.ref a1, .ref a2, .int 0, .int 0, .int 0])), (a1, .inr (1, [.long 0, .int 1000, .int (-1), .int (-1), .int 0, .ref a3, .ref a4, .ref a5, .ref a6, .ref a7, .ref a8, .long 0, .ref a9])), (a8, .inr (6, [.int 6, .int 6, .ref a11, .int 0]))] := hD
            refine lv_aload_n hx hb dX0_search_95 rfl (lv_at hl 3 rfl) ?_
            refine lv_dup hx hb dX0_search_96 rfl ?_
            refine va_get (D := G.1) (ci := 0) (v := .int 0) (C := RX0) (T := TX0) (N := 5) hx hb hts inG_X0 hown hK hP 1 rfl rfl 3 (by decide) (hts _ fl_X0_48) (fun _ h9 => h9) rfl dX0_search_97 ?_
            refine lv_iconst (v := 1) hx hb dX0_search_100 (by decide) ?_
            refine lv_iadd hx hb dX0_search_101 ?_
            refine g5_ti (v := 1) (by decide) ?_
            refine va_put (D := G.1) (ci := 0) (v := .int 1) (ty := .int) (C := RX0) (T := TX0) (N := 5) hx hb hts inG_X0 tyX0 tyX0_ok nmX0 hown hK hP hD hS 1 rfl rfl 3 (by decide) (hts _ fl_X0_48) (fun _ h9 => h9) rfl (by decide +kernel) rfl rfl (Nat.le_of_ble_eq_true rfl) dX0_search_102 (fun H locs hP hD hS => ?_)
            have hP : va_P G.1 vwCl [(a7, .inr (6, [.int 8, .int 5, .ref a10, .int 0])), (a0, .inr (0, [.ref a1, .ref a2, .int 0, .int 1, .int 0])), (a1, .inr (1, [.long 0, .int 1000, .int (-1), .int (-1), .int 0, .ref a3, .ref a4, .ref a5, .ref a6, .ref a7, .ref a8, .long 0, .ref a9])), (a8, .inr (6, [.int 6, .int 6, .ref a11, .int 0]))] H := hP
            have hD : va_D A [(a7, .inr (6, [.int 8, .int 5, .ref a10, .int 0])), (a0, .inr (0, [.ref a1, .ref a2, .int 0, .int 1, .int 0])), (a1, .inr (1, [.long 0, .int 1000, .int (-1), .int (-1), .int 0, .ref a3, .ref a4, .ref a5, .ref a6, .ref a7, .ref a8, .long 0, .ref a9])), (a8, .inr (6, [.int 6, .int 6, .ref a11, .int 0]))] := hD
            refine lv_iinc (v := 1) (lv' := [(1, .int 1), (3, .int 1), (2, .int 0), (0, .ref a0)]) hx hb dX0_search_105 hl (k := 2) rfl (by decide) (by decide) rfl (fun ls hl => ?_)
            refine lv_goto (tgt := 17) hx hb dX0_search_108 (by decide) ?_
            refine lv_iload_n hx hb dX0_search_17 rfl (lv_at hl 0 rfl) ?_
            refine lv_iconst (v := 1) hx hb dX0_search_18 (by decide) ?_
            refine lv_aload_n hx hb dX0_search_19 rfl (lv_at hl 3 rfl) ?_
            refine va_get (D := G.1) (ci := 0) (v := .ref a1) (C := RX0) (T := TX0) (N := 5) hx hb hts inG_X0 hown hK hP 1 rfl rfl 0 (by decide) (hts _ fl_X0_9) (fun _ h9 => h9) rfl dX0_search_20 ?_
            refine va_get (D := G.1) (ci := 1) (v := .ref a7) (C := RX1) (T := TX1) (N := 13) hx hb hts inG_X1 hown hK hP 2 rfl rfl 9 (by decide) (hts _ fl_X0_54) (fun _ h9 => h9) rfl dX0_search_23 ?_
            refine va_get (D := G.1) (ci := 6) (v := .int 0) (C := RX6) (T := TX6) (N := 4) hx hb hts inG_X6 hown hK hP 0 rfl rfl 3 (by decide) (hts _ fl_X0_25) (fun _ h9 => h9) rfl dX0_search_26 ?_
            refine lv_ishl hx hb dX0_search_29 ?_
            refine g5_ti (v := 1) (by decide) ?_
            refine lv_icmp_ge (tgt := 111) hx hb dX0_search_30 (by decide) (fun c_6 => ?_) (fun c_6 => ?_)
            ·
              exact W.vret hx hb hr (fun t ht hW => ⟨⟨[(a7, .inr (6, [.int 8, .int 5, .ref a10, .int 0])), (a0, .inr (0, [.ref a1, .ref a2, .int 0, .int 1, .int 0])), (a1, .inr (1, [.long 0, .int 1000, .int (-1), .int (-1), .int 0, .ref a3, .ref a4, .ref a5, .ref a6, .ref a7, .ref a8, .long 0, .ref a9])), (a8, .inr (6, [.int 6, .int 6, .ref a11, .int 0]))], rfl, rfl, by rw [ht]; exact hP, hD⟩, hS.F ht⟩) hS.2.2 dX0_search_111
            ·
              exact absurd c_6 (by decide)
    ·
      exact absurd c_2 (by decide)
theorem ml_X11_315 : Cond.methodLink RX11 315 yX0_search ∈ tblG := tg 1082 (by decide +kernel) (by decide +kernel)
theorem im_X0_search : Cond.instanceMethod yX0_search ∈ tblG := tg 1083 (by decide +kernel) (by decide +kernel)
theorem se_X0_search : Cond.selects RX0 yX0_search yX0_search ∈ tblG := tg 1084 (by decide +kernel) (by decide +kernel)
theorem cd_X0_search : Cond.code yX0_search cX0_search 4 none ∈ tblG := tg 1085 (by decide +kernel) (by decide +kernel)
theorem gW_X0_search : GoodIn tblG (wsG yX0_search cX0_search 4 none) := tgi cd_X0_search
theorem gV_X11_315 : GoodIn tblG (wsV RX11 315 RX0 yX0_search (wsG yX0_search cX0_search 4 none)) := tgV ml_X11_315 im_X0_search se_X0_search ini_X0 gW_X0_search
theorem hv_X0_search : yX0_search.cls = RX0 ∧ yX0_search.cls ≠ "java/lang/invoke/MethodHandle" ∧ yX0_search.cls ≠ "java/lang/invoke/VarHandle" ∧ (parseMethodDescriptor yX0_search.desc).map (fun d => d.parameters.length) = some 0 := by decide +kernel
theorem fl_X11_324 : Cond.fieldLink RX11 324 "LateGlass$Hanger" "lowest" "I" ∈ tblG := tg 362 (by decide +kernel) (by decide +kernel)
theorem fl_X11_321 : Cond.fieldLink RX11 321 "LateGlass$Hanger" "choices" "I" ∈ tblG := tg 360 (by decide +kernel) (by decide +kernel)
theorem fl_X11_318 : Cond.fieldLink RX11 318 "LateGlass$Hanger" "fewest" "I" ∈ tblG := tg 358 (by decide +kernel) (by decide +kernel)
theorem dX11_hang_0 : decode cX11_hang 0 = .ok (.iload_n 1, 1) := by decide +kernel
theorem dX11_hang_1 : decode cX11_hang 1 = .ok (.ifCond .lt 8, 3) := by decide +kernel
theorem dX11_hang_4 : decode cX11_hang 4 = .ok (.iload_n 1, 1) := by decide +kernel
theorem dX11_hang_5 : decode cX11_hang 5 = .ok (.iconst 2, 1) := by decide +kernel
theorem dX11_hang_6 : decode cX11_hang 6 = .ok (.if_icmp .le 5, 3) := by decide +kernel
theorem dX11_hang_9 : decode cX11_hang 9 = .ok (.iconst (-1), 1) := by decide +kernel
theorem dX11_hang_10 : decode cX11_hang 10 = .ok (.ireturn, 1) := by decide +kernel
theorem dX11_hang_11 : decode cX11_hang 11 = .ok (.aload_n 0, 1) := by decide +kernel
theorem dX11_hang_12 : decode cX11_hang 12 = .ok (.getfield 52, 3) := by decide +kernel
theorem dX11_hang_15 : decode cX11_hang 15 = .ok (.invokevirtual 315, 3) := by decide +kernel
theorem dX11_hang_18 : decode cX11_hang 18 = .ok (.iload_n 1, 1) := by decide +kernel
theorem dX11_hang_19 : decode cX11_hang 19 = .ok (.ifCond .ne 13, 3) := by decide +kernel
theorem dX11_hang_22 : decode cX11_hang 22 = .ok (.aload_n 0, 1) := by decide +kernel
theorem dX11_hang_23 : decode cX11_hang 23 = .ok (.getfield 52, 3) := by decide +kernel
theorem dX11_hang_26 : decode cX11_hang 26 = .ok (.getfield 318, 3) := by decide +kernel
theorem dX11_hang_29 : decode cX11_hang 29 = .ok (.goto 25, 3) := by decide +kernel
theorem dX11_hang_32 : decode cX11_hang 32 = .ok (.iload_n 1, 1) := by decide +kernel
theorem dX11_hang_33 : decode cX11_hang 33 = .ok (.iconst 1, 1) := by decide +kernel
theorem dX11_hang_34 : decode cX11_hang 34 = .ok (.if_icmp .ne 13, 3) := by decide +kernel
theorem dX11_hang_37 : decode cX11_hang 37 = .ok (.aload_n 0, 1) := by decide +kernel
theorem dX11_hang_38 : decode cX11_hang 38 = .ok (.getfield 52, 3) := by decide +kernel
theorem dX11_hang_41 : decode cX11_hang 41 = .ok (.getfield 321, 3) := by decide +kernel
theorem dX11_hang_44 : decode cX11_hang 44 = .ok (.goto 10, 3) := by decide +kernel
theorem dX11_hang_47 : decode cX11_hang 47 = .ok (.aload_n 0, 1) := by decide +kernel
theorem dX11_hang_48 : decode cX11_hang 48 = .ok (.getfield 52, 3) := by decide +kernel
theorem dX11_hang_51 : decode cX11_hang 51 = .ok (.getfield 324, 3) := by decide +kernel
theorem dX11_hang_54 : decode cX11_hang 54 = .ok (.ireturn, 1) := by decide +kernel
set_option maxHeartbeats 4000000 in
set_option maxRecDepth 100000 in
theorem kX11_hang (l : Launch) (G : g5_G) (a0 a1 a2 a3 a4 a5 a6 a7 a8 a9 a10 a11 a12 a13 a14 a15 a16 a17 a18 a19 a20 a21 : Nat) (sz : Nat) (n0 : Int32) : Met l yX11_hang (wsG yX11_hang cX11_hang 2 (some .int)) ({ frames := 2, cells := 0, slots := 0, locals := 48 }) (va_Pc [.ref a0, .int n0] (g5_P G [(a0, .inr (11, [.ref a1, .ref a2, .ref a3, .ref a4, .ref a5, .ref a6, .ref a7, .ref a8, .ref a9, .ref a10, .int 0, .int 0, .int (-1), .ref a11, .int 0, .ref a12, .int 0])), (a7, .inr (0, [.ref a1, .ref a4, .int 0, .int 0, .int 0])), (a1, .inr (1, [.long 0, .int 1000, .int (-1), .int (-1), .int 0, .ref a13, .ref a14, .ref a15, .ref a16, .ref a17, .ref a18, .long 0, .ref a19])), (a17, .inr (6, [.int 8, .int 5, .ref a20, .int 0])), (a18, .inr (6, [.int 6, .int 6, .ref a21, .int 0]))] sz)) (va_Qi (fun (r : Int32) (u : va_W) => ((n0.toInt < 0) ∧ (r = (-1)) ∧ (u = [])) ∨ ((n0.toInt ≥ 0) ∧ (n0.toInt ≤ 2) ∧ (n0.toInt ≠ 0) ∧ (n0.toInt ≠ 1) ∧ (r = 0) ∧ (u = [])) ∨ ((n0.toInt ≥ 0) ∧ (n0.toInt ≤ 2) ∧ (n0.toInt ≠ 0) ∧ (n0.toInt = 1) ∧ (r = 1) ∧ (u = [])) ∨ ((n0.toInt ≥ 0) ∧ (n0.toInt ≤ 2) ∧ (n0.toInt = 0) ∧ (r = 0) ∧ (u = [])) ∨ ((n0.toInt ≥ 0) ∧ (n0.toInt > 2) ∧ (r = (-1)) ∧ (u = []))) (g5_B G (va_A [(a0, .inr (11, [.ref a1, .ref a2, .ref a3, .ref a4, .ref a5, .ref a6, .ref a7, .ref a8, .ref a9, .ref a10, .int 0, .int 0, .int (-1), .ref a11, .int 0, .ref a12, .int 0])), (a7, .inr (0, [.ref a1, .ref a4, .int 0, .int 0, .int 0])), (a1, .inr (1, [.long 0, .int 1000, .int (-1), .int (-1), .int 0, .ref a13, .ref a14, .ref a15, .ref a16, .ref a17, .ref a18, .long 0, .ref a19])), (a17, .inr (6, [.int 8, .int 5, .ref a20, .int 0])), (a18, .inr (6, [.int 6, .int 6, .ref a21, .int 0]))] sz)) (va_A [(a0, .inr (11, [.ref a1, .ref a2, .ref a3, .ref a4, .ref a5, .ref a6, .ref a7, .ref a8, .ref a9, .ref a10, .int 0, .int 0, .int (-1), .ref a11, .int 0, .ref a12, .int 0])), (a7, .inr (0, [.ref a1, .ref a4, .int 0, .int 0, .int 0])), (a1, .inr (1, [.long 0, .int 1000, .int (-1), .int (-1), .int 0, .ref a13, .ref a14, .ref a15, .ref a16, .ref a17, .ref a18, .long 0, .ref a19])), (a17, .inr (6, [.int 8, .int 5, .ref a20, .int 0])), (a18, .inr (6, [.int 6, .int 6, .ref a21, .int 0]))] sz)) 0 0 (va_A [(a0, .inr (11, [.ref a1, .ref a2, .ref a3, .ref a4, .ref a5, .ref a6, .ref a7, .ref a8, .ref a9, .ref a10, .int 0, .int 0, .int (-1), .ref a11, .int 0, .ref a12, .int 0])), (a7, .inr (0, [.ref a1, .ref a4, .int 0, .int 0, .int 0])), (a1, .inr (1, [.long 0, .int 1000, .int (-1), .int (-1), .int 0, .ref a13, .ref a14, .ref a15, .ref a16, .ref a17, .ref a18, .long 0, .ref a19])), (a17, .inr (6, [.int 8, .int 5, .ref a20, .int 0])), (a18, .inr (6, [.int 6, .int 6, .ref a21, .int 0]))] sz) := by
  refine Met.ofW (cc := cX11_hang) (maxL := 2) (ret := (some .int)) (by decide) rfl ?_
  intro p e s m args below meth c s₁ B hml hv
  obtain ⟨rfl, hsz, hP, hK, hD0, hN, hT⟩ := hv
  have hx := B.exec
  have hb := B.bytes
  have hr := B.returns
  have hts : ∀ w ∈ tblG, w.before _ s = true := fun w h => atoms_spec (ws := (wsG yX11_hang cX11_hang 2 (some .int))) B.pre w (List.mem_cons_of_mem _ h)
  have hown : s.vm.findClass RX11 = some m.cls := findClass_of_methodNamed B.named
  have hlocks := B.notSynchronized
  subst hsz
  have hD := hD0.self (sz := s.heap.size)
  generalize hAe : va_A [(a0, .inr (11, [.ref a1, .ref a2, .ref a3, .ref a4, .ref a5, .ref a6, .ref a7, .ref a8, .ref a9, .ref a10, .int 0, .int 0, .int (-1), .ref a11, .int 0, .ref a12, .int 0])), (a7, .inr (0, [.ref a1, .ref a4, .int 0, .int 0, .int 0])), (a1, .inr (1, [.long 0, .int 1000, .int (-1), .int (-1), .int 0, .ref a13, .ref a14, .ref a15, .ref a16, .ref a17, .ref a18, .long 0, .ref a19])), (a17, .inr (6, [.int 8, .int 5, .ref a20, .int 0])), (a18, .inr (6, [.int 6, .int 6, .ref a21, .int 0]))] s.heap.size = A at hD hT ⊢
  have hA : ∀ q : Nat, s.heap.size ≤ q → A q := fun q h => by rw [← hAe]; exact Or.inr h
  have hS : va_S A s.heap s.heap [] := va_S.rf
  have hP : va_P G.1 vwCl [(a0, .inr (11, [.ref a1, .ref a2, .ref a3, .ref a4, .ref a5, .ref a6, .ref a7, .ref a8, .ref a9, .ref a10, .int 0, .int 0, .int (-1), .ref a11, .int 0, .ref a12, .int 0])), (a7, .inr (0, [.ref a1, .ref a4, .int 0, .int 0, .int 0])), (a1, .inr (1, [.long 0, .int 1000, .int (-1), .int (-1), .int 0, .ref a13, .ref a14, .ref a15, .ref a16, .ref a17, .ref a18, .long 0, .ref a19])), (a17, .inr (6, [.int 8, .int 5, .ref a20, .int 0])), (a18, .inr (6, [.int 6, .int 6, .ref a21, .int 0]))] s.heap := hP
  have hl := lv_entry ([.ref a0, .int n0]) (n := 2) (Nat.le_of_ble_eq_true rfl)
  rw [lg_entry_eq]
  generalize (lg_sl ([.ref a0, .int n0]) ++ List.replicate (2 - (lg_sl ([.ref a0, .int n0])).length) Slot.unset).toArray = ls at hl ⊢
  have hl : lv_has ls 2 [(0, .ref a0), (1, .int n0)] := hl
  refine lv_iload_n hx hb dX11_hang_0 rfl (lv_at hl 1 rfl) ?_
  refine lv_if_lt (tgt := 9) hx hb dX11_hang_1 (by decide) (fun c_1 => ?_) (fun c_1 => ?_)
  ·
    have i_1 : n0.toInt < 0 := by have z := g5_lt (a := n0.toInt) (b := 0) (by rfl) (by decide) c_1; omega
    refine lv_iconst (v := (-1)) hx hb dX11_hang_9 (by decide) ?_
    have hP := hP.sub (ws' := []) [] rfl
    have hD := hD.sub (ws' := []) [] (by decide) rfl
    exact W.iret (v := (-1)) hx hb hr (fun t ht hW => ⟨⟨(-1), [], rfl, Or.inl (⟨i_1, rfl, rfl⟩), by rw [ht]; exact hP, hD⟩, hS.F ht⟩) hS.2.2 dX11_hang_10
  ·
    have i_1 : n0.toInt ≥ 0 := by have z := g5_ltN (a := n0.toInt) (b := 0) (by rfl) (by decide) c_1; omega
    refine lv_iload_n hx hb dX11_hang_4 rfl (lv_at hl 1 rfl) ?_
    refine lv_iconst (v := 2) hx hb dX11_hang_5 (by decide) ?_
    refine lv_icmp_le (tgt := 11) hx hb dX11_hang_6 (by decide) (fun c_2 => ?_) (fun c_2 => ?_)
    ·
      have i_2 : n0.toInt ≤ 2 := by have z := g5_le (a := n0.toInt) (b := 2) (by rfl) (by decide) c_2; omega
      refine lv_aload_n hx hb dX11_hang_11 rfl (lv_at hl 0 rfl) ?_
      refine va_get (D := G.1) (ci := 11) (v := .ref a7) (C := RX11) (T := TX11) (N := 17) hx hb hts inG_X11 hown hK hP 0 rfl rfl 6 (by decide) (hts _ fl_X11_52) (fun _ h9 => h9) rfl dX11_hang_12 ?_
      have hPc := hP.sub (ws' := [(a7, .inr (0, [.ref a1, .ref a4, .int 0, .int 0, .int 0])), (a1, .inr (1, [.long 0, .int 1000, .int (-1), .int (-1), .int 0, .ref a13, .ref a14, .ref a15, .ref a16, .ref a17, .ref a18, .long 0, .ref a19])), (a17, .inr (6, [.int 8, .int 5, .ref a20, .int 0])), (a18, .inr (6, [.int 6, .int 6, .ref a21, .int 0]))]) [1, 2, 3, 4] rfl
      have hDc := hD.sub (ws' := [(a7, .inr (0, [.ref a1, .ref a4, .int 0, .int 0, .int 0])), (a1, .inr (1, [.long 0, .int 1000, .int (-1), .int (-1), .int 0, .ref a13, .ref a14, .ref a15, .ref a16, .ref a17, .ref a18, .long 0, .ref a19])), (a17, .inr (6, [.int 8, .int 5, .ref a20, .int 0])), (a18, .inr (6, [.int 6, .int 6, .ref a21, .int 0]))]) [1, 2, 3, 4] (by decide) rfl
      have hFc := va_free (wc := [(a7, .inr (0, [.ref a1, .ref a4, .int 0, .int 0, .int 0])), (a1, .inr (1, [.long 0, .int 1000, .int (-1), .int (-1), .int 0, .ref a13, .ref a14, .ref a15, .ref a16, .ref a17, .ref a18, .long 0, .ref a19])), (a17, .inr (6, [.int 8, .int 5, .ref a20, .int 0])), (a18, .inr (6, [.int 6, .int 6, .ref a21, .int 0]))]) hD hS hA [1, 2, 3, 4] rfl
      refine va_callv (va_runV (As := []) (rest := []) ⟨hx, hb, hml, hown, hts⟩ (kX0_search l G a7 a1 a4 a13 a14 a15 a16 a17 a18 a19 a20 a21 s.heap.size) (cwV 0 hts gV_X11_315 rfl rfl rfl hv_X0_search ⟨Nat.le_of_ble_eq_true rfl, Nat.le_of_ble_eq_true rfl⟩) (g5_preV hPc hK hDc hN hT hS hFc (ci := 0) (q0 := 0) rfl rfl) rfl rfl hl.1 rfl (lv_room (Nat.le_of_ble_eq_true rfl)) dX11_hang_15 ⟨Nat.le_of_ble_eq_true rfl, Nat.le_of_ble_eq_true rfl⟩) hS (fun q _ h => hFc q h) hFc (fun u t H1 locs ht hvm hw hB hz1 hk1 hS => ?_)
      obtain ⟨hP1, hD1⟩ := hB
      rw [ht] at hP1
      obtain rfl := hw
      obtain ⟨hP, hD⟩ := va_join (wr := [(a0, .inr (11, [.ref a1, .ref a2, .ref a3, .ref a4, .ref a5, .ref a6, .ref a7, .ref a8, .ref a9, .ref a10, .int 0, .int 0, .int (-1), .ref a11, .int 0, .ref a12, .int 0]))]) (w1 := [(a17, .inr (6, [.int 8, .int 5, .ref a20, .int 0])), (a7, .inr (0, [.ref a1, .ref a4, .int 0, .int 1, .int 0])), (a1, .inr (1, [.long 0, .int 1000, .int (-1), .int (-1), .int 0, .ref a13, .ref a14, .ref a15, .ref a16, .ref a17, .ref a18, .long 0, .ref a19])), (a18, .inr (6, [.int 6, .int 6, .ref a21, .int 0]))]) hP hD [1, 2, 3, 4] [0] rfl rfl (by decide) (by decide) hk1 hFc hP1 hD1
      generalize H1 = H at hP hS ⊢
      have hP : va_P G.1 vwCl [(a0, .inr (11, [.ref a1, .ref a2, .ref a3, .ref a4, .ref a5, .ref a6, .ref a7, .ref a8, .ref a9, .ref a10, .int 0, .int 0, .int (-1), .ref a11, .int 0, .ref a12, .int 0])), (a17, .inr (6, [.int 8, .int 5, .ref a20, .int 0])), (a7, .inr (0, [.ref a1, .ref a4, .int 0, .int 1, .int 0])), (a1, .inr (1, [.long 0, .int 1000, .int (-1), .int (-1), .int 0, .ref a13, .ref a14, .ref a15, .ref a16, .ref a17, .ref a18, .long 0, .ref a19])), (a18, .inr (6, [.int 6, .int 6, .ref a21, .int 0]))] H := hP
      have hD : va_D A [(a0, .inr (11, [.ref a1, .ref a2, .ref a3, .ref a4, .ref a5, .ref a6, .ref a7, .ref a8, .ref a9, .ref a10, .int 0, .int 0, .int (-1), .ref a11, .int 0, .ref a12, .int 0])), (a17, .inr (6, [.int 8, .int 5, .ref a20, .int 0])), (a7, .inr (0, [.ref a1, .ref a4, .int 0, .int 1, .int 0])), (a1, .inr (1, [.long 0, .int 1000, .int (-1), .int (-1), .int 0, .ref a13, .ref a14, .ref a15, .ref a16, .ref a17, .ref a18, .long 0, .ref a19])), (a18, .inr (6, [.int 6, .int 6, .ref a21, .int 0]))] := hD
      refine lv_iload_n hx hb dX11_hang_18 rfl (lv_at hl 1 rfl) ?_
      refine lv_if_ne (tgt := 32) hx hb dX11_hang_19 (by decide) (fun c_3 => ?_) (fun c_3 => ?_)
      ·
        have i_3 : n0.toInt ≠ 0 := by have z := g5_ne (a := n0.toInt) (b := 0) (by rfl) (by decide) c_3; omega
        refine lv_iload_n hx hb dX11_hang_32 rfl (lv_at hl 1 rfl) ?_
        refine lv_iconst (v := 1) hx hb dX11_hang_33 (by decide) ?_
        refine lv_icmp_ne (tgt := 47) hx hb dX11_hang_34 (by decide) (fun c_4 => ?_) (fun c_4 => ?_)
        ·
          have i_4 : n0.toInt ≠ 1 := by have z := g5_ne (a := n0.toInt) (b := 1) (by rfl) (by decide) c_4; omega
          refine lv_aload_n hx hb dX11_hang_47 rfl (lv_at hl 0 rfl) ?_
          refine va_get (D := G.1) (ci := 11) (v := .ref a7) (C := RX11) (T := TX11) (N := 17) hx hb hts inG_X11 hown hK hP 0 rfl rfl 6 (by decide) (hts _ fl_X11_52) (fun _ h9 => h9) rfl dX11_hang_48 ?_
          refine va_get (D := G.1) (ci := 0) (v := .int 0) (C := RX0) (T := TX0) (N := 5) hx hb hts inG_X0 hown hK hP 2 rfl rfl 4 (by decide) (hts _ fl_X11_324) (fun _ h9 => h9) rfl dX11_hang_51 ?_
          have hP := hP.sub (ws' := []) [] rfl
          have hD := hD.sub (ws' := []) [] (by decide) rfl
          exact W.iret (v := 0) hx hb hr (fun t ht hW => ⟨⟨0, [], rfl, Or.inr (Or.inl (⟨i_1, i_2, i_3, i_4, rfl, rfl⟩)), by rw [ht]; exact hP, hD⟩, hS.F ht⟩) hS.2.2 dX11_hang_54
        ·
          have i_4 : n0.toInt = 1 := by have z := g5_neN (a := n0.toInt) (b := 1) (by rfl) (by decide) c_4; omega
          refine lv_aload_n hx hb dX11_hang_37 rfl (lv_at hl 0 rfl) ?_
          refine va_get (D := G.1) (ci := 11) (v := .ref a7) (C := RX11) (T := TX11) (N := 17) hx hb hts inG_X11 hown hK hP 0 rfl rfl 6 (by decide) (hts _ fl_X11_52) (fun _ h9 => h9) rfl dX11_hang_38 ?_
          refine va_get (D := G.1) (ci := 0) (v := .int 1) (C := RX0) (T := TX0) (N := 5) hx hb hts inG_X0 hown hK hP 2 rfl rfl 3 (by decide) (hts _ fl_X11_321) (fun _ h9 => h9) rfl dX11_hang_41 ?_
          refine lv_goto (tgt := 54) hx hb dX11_hang_44 (by decide) ?_
          have hP := hP.sub (ws' := []) [] rfl
          have hD := hD.sub (ws' := []) [] (by decide) rfl
          exact W.iret (v := 1) hx hb hr (fun t ht hW => ⟨⟨1, [], rfl, Or.inr (Or.inr (Or.inl (⟨i_1, i_2, i_3, i_4, rfl, rfl⟩))), by rw [ht]; exact hP, hD⟩, hS.F ht⟩) hS.2.2 dX11_hang_54
      ·
        have i_3 : n0.toInt = 0 := by have z := g5_neN (a := n0.toInt) (b := 0) (by rfl) (by decide) c_3; omega
        refine lv_aload_n hx hb dX11_hang_22 rfl (lv_at hl 0 rfl) ?_
        refine va_get (D := G.1) (ci := 11) (v := .ref a7) (C := RX11) (T := TX11) (N := 17) hx hb hts inG_X11 hown hK hP 0 rfl rfl 6 (by decide) (hts _ fl_X11_52) (fun _ h9 => h9) rfl dX11_hang_23 ?_
        refine va_get (D := G.1) (ci := 0) (v := .int 0) (C := RX0) (T := TX0) (N := 5) hx hb hts inG_X0 hown hK hP 2 rfl rfl 2 (by decide) (hts _ fl_X11_318) (fun _ h9 => h9) rfl dX11_hang_26 ?_
        refine lv_goto (tgt := 54) hx hb dX11_hang_29 (by decide) ?_
        have hP := hP.sub (ws' := []) [] rfl
        have hD := hD.sub (ws' := []) [] (by decide) rfl
        exact W.iret (v := 0) hx hb hr (fun t ht hW => ⟨⟨0, [], rfl, Or.inr (Or.inr (Or.inr (Or.inl (⟨i_1, i_2, i_3, rfl, rfl⟩)))), by rw [ht]; exact hP, hD⟩, hS.F ht⟩) hS.2.2 dX11_hang_54
    ·
      have i_2 : n0.toInt > 2 := by have z := g5_leN (a := n0.toInt) (b := 2) (by rfl) (by decide) c_2; omega
      refine lv_iconst (v := (-1)) hx hb dX11_hang_9 (by decide) ?_
      have hP := hP.sub (ws' := []) [] rfl
      have hD := hD.sub (ws' := []) [] (by decide) rfl
      exact W.iret (v := (-1)) hx hb hr (fun t ht hW => ⟨⟨(-1), [], rfl, Or.inr (Or.inr (Or.inr (Or.inr (⟨i_1, i_2, rfl, rfl⟩)))), by rw [ht]; exact hP, hD⟩, hS.F ht⟩) hS.2.2 dX11_hang_10
theorem dX11_canWalk_0 : decode cX11_canWalk 0 = .ok (.aload_n 0, 1) := by decide +kernel
theorem dX11_canWalk_1 : decode cX11_canWalk 1 = .ok (.getfield 12, 3) := by decide +kernel
theorem dX11_canWalk_4 : decode cX11_canWalk 4 = .ok (.getfield 167, 3) := by decide +kernel
theorem dX11_canWalk_7 : decode cX11_canWalk 7 = .ok (.iload_n 1, 1) := by decide +kernel
theorem dX11_canWalk_8 : decode cX11_canWalk 8 = .ok (.invokevirtual 160, 3) := by decide +kernel
theorem dX11_canWalk_11 : decode cX11_canWalk 11 = .ok (.ifCond .eq 35, 3) := by decide +kernel
theorem dX11_canWalk_14 : decode cX11_canWalk 14 = .ok (.iload_n 2, 1) := by decide +kernel
theorem dX11_canWalk_15 : decode cX11_canWalk 15 = .ok (.invokestatic 97, 3) := by decide +kernel
theorem dX11_canWalk_18 : decode cX11_canWalk 18 = .ok (.ifCond .eq 28, 3) := by decide +kernel
theorem dX11_canWalk_21 : decode cX11_canWalk 21 = .ok (.aload_n 0, 1) := by decide +kernel
theorem dX11_canWalk_22 : decode cX11_canWalk 22 = .ok (.getfield 12, 3) := by decide +kernel
theorem dX11_canWalk_25 : decode cX11_canWalk 25 = .ok (.getfield 111, 3) := by decide +kernel
theorem dX11_canWalk_28 : decode cX11_canWalk 28 = .ok (.iload_n 2, 1) := by decide +kernel
theorem dX11_canWalk_29 : decode cX11_canWalk 29 = .ok (.invokestatic 115, 3) := by decide +kernel
theorem dX11_canWalk_32 : decode cX11_canWalk 32 = .ok (.ifCond .ne 14, 3) := by decide +kernel
theorem dX11_canWalk_35 : decode cX11_canWalk 35 = .ok (.iload_n 3, 1) := by decide +kernel
theorem dX11_canWalk_36 : decode cX11_canWalk 36 = .ok (.invokestatic 127, 3) := by decide +kernel
theorem dX11_canWalk_39 : decode cX11_canWalk 39 = .ok (.ifCond .eq 7, 3) := by decide +kernel
theorem dX11_canWalk_42 : decode cX11_canWalk 42 = .ok (.iconst 1, 1) := by decide +kernel
theorem dX11_canWalk_43 : decode cX11_canWalk 43 = .ok (.goto 4, 3) := by decide +kernel
theorem dX11_canWalk_46 : decode cX11_canWalk 46 = .ok (.iconst 0, 1) := by decide +kernel
theorem dX11_canWalk_47 : decode cX11_canWalk 47 = .ok (.ireturn, 1) := by decide +kernel
