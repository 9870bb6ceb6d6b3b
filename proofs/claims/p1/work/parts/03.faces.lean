theorem dX11_isCell_0 : decode cX11_isCell 0 = .ok (.iload_n 0, 1) := by decide +kernel
theorem dX11_isCell_1 : decode cX11_isCell 1 = .ok (.ifCond .lt 13, 3) := by decide +kernel
theorem dX11_isCell_4 : decode cX11_isCell 4 = .ok (.iload_n 0, 1) := by decide +kernel
theorem dX11_isCell_5 : decode cX11_isCell 5 = .ok (.bipush 64, 2) := by decide +kernel
theorem dX11_isCell_7 : decode cX11_isCell 7 = .ok (.if_icmp .ge 7, 3) := by decide +kernel
theorem dX11_isCell_10 : decode cX11_isCell 10 = .ok (.iconst 1, 1) := by decide +kernel
theorem dX11_isCell_11 : decode cX11_isCell 11 = .ok (.goto 4, 3) := by decide +kernel
theorem dX11_isCell_14 : decode cX11_isCell 14 = .ok (.iconst 0, 1) := by decide +kernel
theorem dX11_isCell_15 : decode cX11_isCell 15 = .ok (.ireturn, 1) := by decide +kernel
set_option maxHeartbeats 4000000 in
set_option maxRecDepth 100000 in
theorem kX11_isCell (l : Launch) (G : g5_G) (sz : Nat) (n0 : Int32) : Met l yX11_isCell (wsG yX11_isCell cX11_isCell 1 (some .boolean)) ({ frames := 0, cells := 0, slots := 0, locals := 0 }) (va_Pc [.int n0] (g5_P G [] sz)) (va_Qi (fun (r : Int32) (u : va_W) => (n0.toInt < 0 ∧ r = 0 ∧ u = []) ∨ (n0.toInt ≥ 0 ∧ n0.toInt ≥ 64 ∧ r = 0 ∧ u = []) ∨ (n0.toInt ≥ 0 ∧ n0.toInt < 64 ∧ r = 1 ∧ u = [])) (g5_B G (va_A [] sz)) (va_A [] sz)) 0 0 (va_A [] sz) := by
  refine Met.ofW (cc := cX11_isCell) (maxL := 1) (ret := (some .boolean)) (by decide) rfl ?_
  intro p e s m args below meth c s₁ B hml hv
  obtain ⟨rfl, hsz, hP, hK, hD0, hN⟩ := hv
  have hx := B.exec
  have hb := B.bytes
  have hr := B.returns
  have hts : ∀ w ∈ tblG, w.before _ s = true := fun w h => atoms_spec (ws := (wsG yX11_isCell cX11_isCell 1 (some .boolean))) B.pre w (List.mem_cons_of_mem _ h)
  have hown : s.vm.findClass RX11 = some m.cls := findClass_of_methodNamed B.named
  have hlocks := B.notSynchronized
  subst hsz
  have hD := hD0.self (sz := s.heap.size)
  generalize hAe : va_A [] s.heap.size = A at hD ⊢
  have hA : ∀ q : Nat, s.heap.size ≤ q → A q := fun q h => by rw [← hAe]; exact Or.inr h
  have hS : va_S A s.heap s.heap [] := va_S.rf
  have hP : va_P G.1 vwCl [] s.heap := hP
  have hl := lv_entry ([.int n0]) (n := 1) (Nat.le_of_ble_eq_true rfl)
  rw [lg_entry_eq]
  generalize (lg_sl ([.int n0]) ++ List.replicate (1 - (lg_sl ([.int n0])).length) Slot.unset).toArray = ls at hl ⊢
  have hl : lv_has ls 1 [(0, .int n0)] := hl
  refine lv_iload_n hx hb dX11_isCell_0 rfl (lv_at hl 0 rfl) ?_
  refine lv_if_lt (tgt := 14) hx hb dX11_isCell_1 (by decide) (fun c_1 => ?_) (fun c_1 => ?_)
  ·
    have i_1 : n0.toInt < 0 := by have z := g5_lt (a := n0.toInt) (b := 0) (by rfl) (by decide) c_1; omega
    refine lv_iconst (v := 0) hx hb dX11_isCell_14 (by decide) ?_
    exact W.zret (v := 0) hx hb hr rfl (fun t ht hW => ⟨⟨0, [], rfl, Or.inl (⟨i_1, rfl, rfl⟩), by rw [ht]; exact hP, hD⟩, hS.F ht⟩) hS.2.2 dX11_isCell_15
  ·
    have i_1 : n0.toInt ≥ 0 := by have z := g5_ltN (a := n0.toInt) (b := 0) (by rfl) (by decide) c_1; omega
    refine lv_iload_n hx hb dX11_isCell_4 rfl (lv_at hl 0 rfl) ?_
    refine lv_bipush (v := 64) hx hb dX11_isCell_5 (by decide) ?_
    refine lv_icmp_ge (tgt := 14) hx hb dX11_isCell_7 (by decide) (fun c_2 => ?_) (fun c_2 => ?_)
    ·
      have i_2 : n0.toInt ≥ 64 := by have z := g5_ge (a := n0.toInt) (b := 64) (by rfl) (by decide) c_2; omega
      refine lv_iconst (v := 0) hx hb dX11_isCell_14 (by decide) ?_
      exact W.zret (v := 0) hx hb hr rfl (fun t ht hW => ⟨⟨0, [], rfl, Or.inr (Or.inl (⟨i_1, i_2, rfl, rfl⟩)), by rw [ht]; exact hP, hD⟩, hS.F ht⟩) hS.2.2 dX11_isCell_15
    ·
      have i_2 : n0.toInt < 64 := by have z := g5_geN (a := n0.toInt) (b := 64) (by rfl) (by decide) c_2; omega
      refine lv_iconst (v := 1) hx hb dX11_isCell_10 (by decide) ?_
      refine lv_goto (tgt := 15) hx hb dX11_isCell_11 (by decide) ?_
      exact W.zret (v := 1) hx hb hr rfl (fun t ht hW => ⟨⟨1, [], rfl, Or.inr (Or.inr (⟨i_1, i_2, rfl, rfl⟩)), by rw [ht]; exact hP, hD⟩, hS.F ht⟩) hS.2.2 dX11_isCell_15
theorem dX11_isCellOrNone_0 : decode cX11_isCellOrNone 0 = .ok (.iload_n 0, 1) := by decide +kernel
theorem dX11_isCellOrNone_1 : decode cX11_isCellOrNone 1 = .ok (.iconst (-1), 1) := by decide +kernel
theorem dX11_isCellOrNone_2 : decode cX11_isCellOrNone 2 = .ok (.if_icmp .lt 13, 3) := by decide +kernel
theorem dX11_isCellOrNone_5 : decode cX11_isCellOrNone 5 = .ok (.iload_n 0, 1) := by decide +kernel
theorem dX11_isCellOrNone_6 : decode cX11_isCellOrNone 6 = .ok (.bipush 64, 2) := by decide +kernel
theorem dX11_isCellOrNone_8 : decode cX11_isCellOrNone 8 = .ok (.if_icmp .ge 7, 3) := by decide +kernel
theorem dX11_isCellOrNone_11 : decode cX11_isCellOrNone 11 = .ok (.iconst 1, 1) := by decide +kernel
theorem dX11_isCellOrNone_12 : decode cX11_isCellOrNone 12 = .ok (.goto 4, 3) := by decide +kernel
theorem dX11_isCellOrNone_15 : decode cX11_isCellOrNone 15 = .ok (.iconst 0, 1) := by decide +kernel
theorem dX11_isCellOrNone_16 : decode cX11_isCellOrNone 16 = .ok (.ireturn, 1) := by decide +kernel
set_option maxHeartbeats 4000000 in
set_option maxRecDepth 100000 in
theorem kX11_isCellOrNone (l : Launch) (G : g5_G) (sz : Nat) (n0 : Int32) : Met l yX11_isCellOrNone (wsG yX11_isCellOrNone cX11_isCellOrNone 1 (some .boolean)) ({ frames := 0, cells := 0, slots := 0, locals := 0 }) (va_Pc [.int n0] (g5_P G [] sz)) (va_Qi (fun (r : Int32) (u : va_W) => (n0.toInt < (-1) ∧ r = 0 ∧ u = []) ∨ (n0.toInt ≥ (-1) ∧ n0.toInt ≥ 64 ∧ r = 0 ∧ u = []) ∨ (n0.toInt ≥ (-1) ∧ n0.toInt < 64 ∧ r = 1 ∧ u = [])) (g5_B G (va_A [] sz)) (va_A [] sz)) 0 0 (va_A [] sz) := by
  refine Met.ofW (cc := cX11_isCellOrNone) (maxL := 1) (ret := (some .boolean)) (by decide) rfl ?_
  intro p e s m args below meth c s₁ B hml hv
  obtain ⟨rfl, hsz, hP, hK, hD0, hN⟩ := hv
  have hx := B.exec
  have hb := B.bytes
  have hr := B.returns
  have hts : ∀ w ∈ tblG, w.before _ s = true := fun w h => atoms_spec (ws := (wsG yX11_isCellOrNone cX11_isCellOrNone 1 (some .boolean))) B.pre w (List.mem_cons_of_mem _ h)
  have hown : s.vm.findClass RX11 = some m.cls := findClass_of_methodNamed B.named
  have hlocks := B.notSynchronized
  subst hsz
  have hD := hD0.self (sz := s.heap.size)
  generalize hAe : va_A [] s.heap.size = A at hD ⊢
  have hA : ∀ q : Nat, s.heap.size ≤ q → A q := fun q h => by rw [← hAe]; exact Or.inr h
  have hS : va_S A s.heap s.heap [] := va_S.rf
  have hP : va_P G.1 vwCl [] s.heap := hP
  have hl := lv_entry ([.int n0]) (n := 1) (Nat.le_of_ble_eq_true rfl)
  rw [lg_entry_eq]
  generalize (lg_sl ([.int n0]) ++ List.replicate (1 - (lg_sl ([.int n0])).length) Slot.unset).toArray = ls at hl ⊢
  have hl : lv_has ls 1 [(0, .int n0)] := hl
  refine lv_iload_n hx hb dX11_isCellOrNone_0 rfl (lv_at hl 0 rfl) ?_
  refine lv_iconst (v := (-1)) hx hb dX11_isCellOrNone_1 (by decide) ?_
  refine lv_icmp_lt (tgt := 15) hx hb dX11_isCellOrNone_2 (by decide) (fun c_1 => ?_) (fun c_1 => ?_)
  ·
    have i_1 : n0.toInt < (-1) := by have z := g5_lt (a := n0.toInt) (b := (-1)) (by rfl) (by decide) c_1; omega
    refine lv_iconst (v := 0) hx hb dX11_isCellOrNone_15 (by decide) ?_
    exact W.zret (v := 0) hx hb hr rfl (fun t ht hW => ⟨⟨0, [], rfl, Or.inl (⟨i_1, rfl, rfl⟩), by rw [ht]; exact hP, hD⟩, hS.F ht⟩) hS.2.2 dX11_isCellOrNone_16
  ·
    have i_1 : n0.toInt ≥ (-1) := by have z := g5_ltN (a := n0.toInt) (b := (-1)) (by rfl) (by decide) c_1; omega
    refine lv_iload_n hx hb dX11_isCellOrNone_5 rfl (lv_at hl 0 rfl) ?_
    refine lv_bipush (v := 64) hx hb dX11_isCellOrNone_6 (by decide) ?_
    refine lv_icmp_ge (tgt := 15) hx hb dX11_isCellOrNone_8 (by decide) (fun c_2 => ?_) (fun c_2 => ?_)
    ·
      have i_2 : n0.toInt ≥ 64 := by have z := g5_ge (a := n0.toInt) (b := 64) (by rfl) (by decide) c_2; omega
      refine lv_iconst (v := 0) hx hb dX11_isCellOrNone_15 (by decide) ?_
      exact W.zret (v := 0) hx hb hr rfl (fun t ht hW => ⟨⟨0, [], rfl, Or.inr (Or.inl (⟨i_1, i_2, rfl, rfl⟩)), by rw [ht]; exact hP, hD⟩, hS.F ht⟩) hS.2.2 dX11_isCellOrNone_16
    ·
      have i_2 : n0.toInt < 64 := by have z := g5_geN (a := n0.toInt) (b := 64) (by rfl) (by decide) c_2; omega
      refine lv_iconst (v := 1) hx hb dX11_isCellOrNone_11 (by decide) ?_
      refine lv_goto (tgt := 16) hx hb dX11_isCellOrNone_12 (by decide) ?_
      exact W.zret (v := 1) hx hb hr rfl (fun t ht hW => ⟨⟨1, [], rfl, Or.inr (Or.inr (⟨i_1, i_2, rfl, rfl⟩)), by rw [ht]; exact hP, hD⟩, hS.F ht⟩) hS.2.2 dX11_isCellOrNone_16
theorem dX11_isHour_0 : decode cX11_isHour 0 = .ok (.iload_n 0, 1) := by decide +kernel
theorem dX11_isHour_1 : decode cX11_isHour 1 = .ok (.ifCond .lt 13, 3) := by decide +kernel
theorem dX11_isHour_4 : decode cX11_isHour 4 = .ok (.iload_n 0, 1) := by decide +kernel
theorem dX11_isHour_5 : decode cX11_isHour 5 = .ok (.bipush 24, 2) := by decide +kernel
theorem dX11_isHour_7 : decode cX11_isHour 7 = .ok (.if_icmp .ge 7, 3) := by decide +kernel
theorem dX11_isHour_10 : decode cX11_isHour 10 = .ok (.iconst 1, 1) := by decide +kernel
theorem dX11_isHour_11 : decode cX11_isHour 11 = .ok (.goto 4, 3) := by decide +kernel
theorem dX11_isHour_14 : decode cX11_isHour 14 = .ok (.iconst 0, 1) := by decide +kernel
theorem dX11_isHour_15 : decode cX11_isHour 15 = .ok (.ireturn, 1) := by decide +kernel
set_option maxHeartbeats 4000000 in
set_option maxRecDepth 100000 in
theorem kX11_isHour (l : Launch) (G : g5_G) (sz : Nat) (n0 : Int32) : Met l yX11_isHour (wsG yX11_isHour cX11_isHour 1 (some .boolean)) ({ frames := 0, cells := 0, slots := 0, locals := 0 }) (va_Pc [.int n0] (g5_P G [] sz)) (va_Qi (fun (r : Int32) (u : va_W) => (n0.toInt < 0 ∧ r = 0 ∧ u = []) ∨ (n0.toInt ≥ 0 ∧ n0.toInt ≥ 24 ∧ r = 0 ∧ u = []) ∨ (n0.toInt ≥ 0 ∧ n0.toInt < 24 ∧ r = 1 ∧ u = [])) (g5_B G (va_A [] sz)) (va_A [] sz)) 0 0 (va_A [] sz) := by
  refine Met.ofW (cc := cX11_isHour) (maxL := 1) (ret := (some .boolean)) (by decide) rfl ?_
  intro p e s m args below meth c s₁ B hml hv
  obtain ⟨rfl, hsz, hP, hK, hD0, hN⟩ := hv
  have hx := B.exec
  have hb := B.bytes
  have hr := B.returns
  have hts : ∀ w ∈ tblG, w.before _ s = true := fun w h => atoms_spec (ws := (wsG yX11_isHour cX11_isHour 1 (some .boolean))) B.pre w (List.mem_cons_of_mem _ h)
  have hown : s.vm.findClass RX11 = some m.cls := findClass_of_methodNamed B.named
  have hlocks := B.notSynchronized
  subst hsz
  have hD := hD0.self (sz := s.heap.size)
  generalize hAe : va_A [] s.heap.size = A at hD ⊢
  have hA : ∀ q : Nat, s.heap.size ≤ q → A q := fun q h => by rw [← hAe]; exact Or.inr h
  have hS : va_S A s.heap s.heap [] := va_S.rf
  have hP : va_P G.1 vwCl [] s.heap := hP
  have hl := lv_entry ([.int n0]) (n := 1) (Nat.le_of_ble_eq_true rfl)
  rw [lg_entry_eq]
  generalize (lg_sl ([.int n0]) ++ List.replicate (1 - (lg_sl ([.int n0])).length) Slot.unset).toArray = ls at hl ⊢
  have hl : lv_has ls 1 [(0, .int n0)] := hl
  refine lv_iload_n hx hb dX11_isHour_0 rfl (lv_at hl 0 rfl) ?_
  refine lv_if_lt (tgt := 14) hx hb dX11_isHour_1 (by decide) (fun c_1 => ?_) (fun c_1 => ?_)
  ·
    have i_1 : n0.toInt < 0 := by have z := g5_lt (a := n0.toInt) (b := 0) (by rfl) (by decide) c_1; omega
    refine lv_iconst (v := 0) hx hb dX11_isHour_14 (by decide) ?_
    exact W.zret (v := 0) hx hb hr rfl (fun t ht hW => ⟨⟨0, [], rfl, Or.inl (⟨i_1, rfl, rfl⟩), by rw [ht]; exact hP, hD⟩, hS.F ht⟩) hS.2.2 dX11_isHour_15
  ·
    have i_1 : n0.toInt ≥ 0 := by have z := g5_ltN (a := n0.toInt) (b := 0) (by rfl) (by decide) c_1; omega
    refine lv_iload_n hx hb dX11_isHour_4 rfl (lv_at hl 0 rfl) ?_
    refine lv_bipush (v := 24) hx hb dX11_isHour_5 (by decide) ?_
    refine lv_icmp_ge (tgt := 14) hx hb dX11_isHour_7 (by decide) (fun c_2 => ?_) (fun c_2 => ?_)
    ·
      have i_2 : n0.toInt ≥ 24 := by have z := g5_ge (a := n0.toInt) (b := 24) (by rfl) (by decide) c_2; omega
      refine lv_iconst (v := 0) hx hb dX11_isHour_14 (by decide) ?_
      exact W.zret (v := 0) hx hb hr rfl (fun t ht hW => ⟨⟨0, [], rfl, Or.inr (Or.inl (⟨i_1, i_2, rfl, rfl⟩)), by rw [ht]; exact hP, hD⟩, hS.F ht⟩) hS.2.2 dX11_isHour_15
    ·
      have i_2 : n0.toInt < 24 := by have z := g5_geN (a := n0.toInt) (b := 24) (by rfl) (by decide) c_2; omega
      refine lv_iconst (v := 1) hx hb dX11_isHour_10 (by decide) ?_
      refine lv_goto (tgt := 15) hx hb dX11_isHour_11 (by decide) ?_
      exact W.zret (v := 1) hx hb hr rfl (fun t ht hW => ⟨⟨1, [], rfl, Or.inr (Or.inr (⟨i_1, i_2, rfl, rfl⟩)), by rw [ht]; exact hP, hD⟩, hS.F ht⟩) hS.2.2 dX11_isHour_15
theorem dX11_isSort_0 : decode cX11_isSort 0 = .ok (.iload_n 0, 1) := by decide +kernel
theorem dX11_isSort_1 : decode cX11_isSort 1 = .ok (.ifCond .lt 13, 3) := by decide +kernel
theorem dX11_isSort_4 : decode cX11_isSort 4 = .ok (.iload_n 0, 1) := by decide +kernel
theorem dX11_isSort_5 : decode cX11_isSort 5 = .ok (.bipush 6, 2) := by decide +kernel
theorem dX11_isSort_7 : decode cX11_isSort 7 = .ok (.if_icmp .ge 7, 3) := by decide +kernel
theorem dX11_isSort_10 : decode cX11_isSort 10 = .ok (.iconst 1, 1) := by decide +kernel
theorem dX11_isSort_11 : decode cX11_isSort 11 = .ok (.goto 4, 3) := by decide +kernel
theorem dX11_isSort_14 : decode cX11_isSort 14 = .ok (.iconst 0, 1) := by decide +kernel
theorem dX11_isSort_15 : decode cX11_isSort 15 = .ok (.ireturn, 1) := by decide +kernel
set_option maxHeartbeats 4000000 in
set_option maxRecDepth 100000 in
theorem kX11_isSort (l : Launch) (G : g5_G) (sz : Nat) (n0 : Int32) : Met l yX11_isSort (wsG yX11_isSort cX11_isSort 1 (some .boolean)) ({ frames := 0, cells := 0, slots := 0, locals := 0 }) (va_Pc [.int n0] (g5_P G [] sz)) (va_Qi (fun (r : Int32) (u : va_W) => (n0.toInt < 0 ∧ r = 0 ∧ u = []) ∨ (n0.toInt ≥ 0 ∧ n0.toInt ≥ 6 ∧ r = 0 ∧ u = []) ∨ (n0.toInt ≥ 0 ∧ n0.toInt < 6 ∧ r = 1 ∧ u = [])) (g5_B G (va_A [] sz)) (va_A [] sz)) 0 0 (va_A [] sz) := by
  refine Met.ofW (cc := cX11_isSort) (maxL := 1) (ret := (some .boolean)) (by decide) rfl ?_
  intro p e s m args below meth c s₁ B hml hv
  obtain ⟨rfl, hsz, hP, hK, hD0, hN⟩ := hv
  have hx := B.exec
  have hb := B.bytes
  have hr := B.returns
  have hts : ∀ w ∈ tblG, w.before _ s = true := fun w h => atoms_spec (ws := (wsG yX11_isSort cX11_isSort 1 (some .boolean))) B.pre w (List.mem_cons_of_mem _ h)
  have hown : s.vm.findClass RX11 = some m.cls := findClass_of_methodNamed B.named
  have hlocks := B.notSynchronized
  subst hsz
  have hD := hD0.self (sz := s.heap.size)
  generalize hAe : va_A [] s.heap.size = A at hD ⊢
  have hA : ∀ q : Nat, s.heap.size ≤ q → A q := fun q h => by rw [← hAe]; exact Or.inr h
  have hS : va_S A s.heap s.heap [] := va_S.rf
  have hP : va_P G.1 vwCl [] s.heap := hP
  have hl := lv_entry ([.int n0]) (n := 1) (Nat.le_of_ble_eq_true rfl)
  rw [lg_entry_eq]
  generalize (lg_sl ([.int n0]) ++ List.replicate (1 - (lg_sl ([.int n0])).length) Slot.unset).toArray = ls at hl ⊢
  have hl : lv_has ls 1 [(0, .int n0)] := hl
  refine lv_iload_n hx hb dX11_isSort_0 rfl (lv_at hl 0 rfl) ?_
  refine lv_if_lt (tgt := 14) hx hb dX11_isSort_1 (by decide) (fun c_1 => ?_) (fun c_1 => ?_)
  ·
    have i_1 : n0.toInt < 0 := by have z := g5_lt (a := n0.toInt) (b := 0) (by rfl) (by decide) c_1; omega
    refine lv_iconst (v := 0) hx hb dX11_isSort_14 (by decide) ?_
    exact W.zret (v := 0) hx hb hr rfl (fun t ht hW => ⟨⟨0, [], rfl, Or.inl (⟨i_1, rfl, rfl⟩), by rw [ht]; exact hP, hD⟩, hS.F ht⟩) hS.2.2 dX11_isSort_15
  ·
    have i_1 : n0.toInt ≥ 0 := by have z := g5_ltN (a := n0.toInt) (b := 0) (by rfl) (by decide) c_1; omega
    refine lv_iload_n hx hb dX11_isSort_4 rfl (lv_at hl 0 rfl) ?_
    refine lv_bipush (v := 6) hx hb dX11_isSort_5 (by decide) ?_
    refine lv_icmp_ge (tgt := 14) hx hb dX11_isSort_7 (by decide) (fun c_2 => ?_) (fun c_2 => ?_)
    ·
      have i_2 : n0.toInt ≥ 6 := by have z := g5_ge (a := n0.toInt) (b := 6) (by rfl) (by decide) c_2; omega
      refine lv_iconst (v := 0) hx hb dX11_isSort_14 (by decide) ?_
      exact W.zret (v := 0) hx hb hr rfl (fun t ht hW => ⟨⟨0, [], rfl, Or.inr (Or.inl (⟨i_1, i_2, rfl, rfl⟩)), by rw [ht]; exact hP, hD⟩, hS.F ht⟩) hS.2.2 dX11_isSort_15
    ·
      have i_2 : n0.toInt < 6 := by have z := g5_geN (a := n0.toInt) (b := 6) (by rfl) (by decide) c_2; omega
      refine lv_iconst (v := 1) hx hb dX11_isSort_10 (by decide) ?_
      refine lv_goto (tgt := 15) hx hb dX11_isSort_11 (by decide) ?_
      exact W.zret (v := 1) hx hb hr rfl (fun t ht hW => ⟨⟨1, [], rfl, Or.inr (Or.inr (⟨i_1, i_2, rfl, rfl⟩)), by rw [ht]; exact hP, hD⟩, hS.F ht⟩) hS.2.2 dX11_isSort_15
theorem dX11_isDust_0 : decode cX11_isDust 0 = .ok (.iload_n 0, 1) := by decide +kernel
theorem dX11_isDust_1 : decode cX11_isDust 1 = .ok (.ifCond .lt 13, 3) := by decide +kernel
theorem dX11_isDust_4 : decode cX11_isDust 4 = .ok (.iload_n 0, 1) := by decide +kernel
theorem dX11_isDust_5 : decode cX11_isDust 5 = .ok (.bipush 10, 2) := by decide +kernel
theorem dX11_isDust_7 : decode cX11_isDust 7 = .ok (.if_icmp .gt 7, 3) := by decide +kernel
theorem dX11_isDust_10 : decode cX11_isDust 10 = .ok (.iconst 1, 1) := by decide +kernel
theorem dX11_isDust_11 : decode cX11_isDust 11 = .ok (.goto 4, 3) := by decide +kernel
theorem dX11_isDust_14 : decode cX11_isDust 14 = .ok (.iconst 0, 1) := by decide +kernel
theorem dX11_isDust_15 : decode cX11_isDust 15 = .ok (.ireturn, 1) := by decide +kernel
set_option maxHeartbeats 4000000 in
set_option maxRecDepth 100000 in
theorem kX11_isDust (l : Launch) (G : g5_G) (sz : Nat) (n0 : Int32) : Met l yX11_isDust (wsG yX11_isDust cX11_isDust 1 (some .boolean)) ({ frames := 0, cells := 0, slots := 0, locals := 0 }) (va_Pc [.int n0] (g5_P G [] sz)) (va_Qi (fun (r : Int32) (u : va_W) => (n0.toInt < 0 ∧ r = 0 ∧ u = []) ∨ (n0.toInt ≥ 0 ∧ n0.toInt > 10 ∧ r = 0 ∧ u = []) ∨ (n0.toInt ≥ 0 ∧ n0.toInt ≤ 10 ∧ r = 1 ∧ u = [])) (g5_B G (va_A [] sz)) (va_A [] sz)) 0 0 (va_A [] sz) := by
  refine Met.ofW (cc := cX11_isDust) (maxL := 1) (ret := (some .boolean)) (by decide) rfl ?_
  intro p e s m args below meth c s₁ B hml hv
  obtain ⟨rfl, hsz, hP, hK, hD0, hN⟩ := hv
  have hx := B.exec
  have hb := B.bytes
  have hr := B.returns
  have hts : ∀ w ∈ tblG, w.before _ s = true := fun w h => atoms_spec (ws := (wsG yX11_isDust cX11_isDust 1 (some .boolean))) B.pre w (List.mem_cons_of_mem _ h)
  have hown : s.vm.findClass RX11 = some m.cls := findClass_of_methodNamed B.named
  have hlocks := B.notSynchronized
  subst hsz
  have hD := hD0.self (sz := s.heap.size)
  generalize hAe : va_A [] s.heap.size = A at hD ⊢
  have hA : ∀ q : Nat, s.heap.size ≤ q → A q := fun q h => by rw [← hAe]; exact Or.inr h
  have hS : va_S A s.heap s.heap [] := va_S.rf
  have hP : va_P G.1 vwCl [] s.heap := hP
  have hl := lv_entry ([.int n0]) (n := 1) (Nat.le_of_ble_eq_true rfl)
  rw [lg_entry_eq]
  generalize (lg_sl ([.int n0]) ++ List.replicate (1 - (lg_sl ([.int n0])).length) Slot.unset).toArray = ls at hl ⊢
  have hl : lv_has ls 1 [(0, .int n0)] := hl
  refine lv_iload_n hx hb dX11_isDust_0 rfl (lv_at hl 0 rfl) ?_
  refine lv_if_lt (tgt := 14) hx hb dX11_isDust_1 (by decide) (fun c_1 => ?_) (fun c_1 => ?_)
  ·
    have i_1 : n0.toInt < 0 := by have z := g5_lt (a := n0.toInt) (b := 0) (by rfl) (by decide) c_1; omega
    refine lv_iconst (v := 0) hx hb dX11_isDust_14 (by decide) ?_
    exact W.zret (v := 0) hx hb hr rfl (fun t ht hW => ⟨⟨0, [], rfl, Or.inl (⟨i_1, rfl, rfl⟩), by rw [ht]; exact hP, hD⟩, hS.F ht⟩) hS.2.2 dX11_isDust_15
  ·
    have i_1 : n0.toInt ≥ 0 := by have z := g5_ltN (a := n0.toInt) (b := 0) (by rfl) (by decide) c_1; omega
    refine lv_iload_n hx hb dX11_isDust_4 rfl (lv_at hl 0 rfl) ?_
    refine lv_bipush (v := 10) hx hb dX11_isDust_5 (by decide) ?_
    refine lv_icmp_gt (tgt := 14) hx hb dX11_isDust_7 (by decide) (fun c_2 => ?_) (fun c_2 => ?_)
    ·
      have i_2 : n0.toInt > 10 := by have z := g5_gt (a := n0.toInt) (b := 10) (by rfl) (by decide) c_2; omega
      refine lv_iconst (v := 0) hx hb dX11_isDust_14 (by decide) ?_
      exact W.zret (v := 0) hx hb hr rfl (fun t ht hW => ⟨⟨0, [], rfl, Or.inr (Or.inl (⟨i_1, i_2, rfl, rfl⟩)), by rw [ht]; exact hP, hD⟩, hS.F ht⟩) hS.2.2 dX11_isDust_15
    ·
      have i_2 : n0.toInt ≤ 10 := by have z := g5_gtN (a := n0.toInt) (b := 10) (by rfl) (by decide) c_2; omega
      refine lv_iconst (v := 1) hx hb dX11_isDust_10 (by decide) ?_
      refine lv_goto (tgt := 15) hx hb dX11_isDust_11 (by decide) ?_
      exact W.zret (v := 1) hx hb hr rfl (fun t ht hW => ⟨⟨1, [], rfl, Or.inr (Or.inr (⟨i_1, i_2, rfl, rfl⟩)), by rw [ht]; exact hP, hD⟩, hS.F ht⟩) hS.2.2 dX11_isDust_15
theorem dX11_isFlag_0 : decode cX11_isFlag 0 = .ok (.iload_n 0, 1) := by decide +kernel
theorem dX11_isFlag_1 : decode cX11_isFlag 1 = .ok (.ifCond .eq 8, 3) := by decide +kernel
theorem dX11_isFlag_4 : decode cX11_isFlag 4 = .ok (.iload_n 0, 1) := by decide +kernel
theorem dX11_isFlag_5 : decode cX11_isFlag 5 = .ok (.iconst 1, 1) := by decide +kernel
theorem dX11_isFlag_6 : decode cX11_isFlag 6 = .ok (.if_icmp .ne 7, 3) := by decide +kernel
theorem dX11_isFlag_9 : decode cX11_isFlag 9 = .ok (.iconst 1, 1) := by decide +kernel
theorem dX11_isFlag_10 : decode cX11_isFlag 10 = .ok (.goto 4, 3) := by decide +kernel
theorem dX11_isFlag_13 : decode cX11_isFlag 13 = .ok (.iconst 0, 1) := by decide +kernel
theorem dX11_isFlag_14 : decode cX11_isFlag 14 = .ok (.ireturn, 1) := by decide +kernel
set_option maxHeartbeats 4000000 in
set_option maxRecDepth 100000 in
theorem kX11_isFlag (l : Launch) (G : g5_G) (sz : Nat) (n0 : Int32) : Met l yX11_isFlag (wsG yX11_isFlag cX11_isFlag 1 (some .boolean)) ({ frames := 0, cells := 0, slots := 0, locals := 0 }) (va_Pc [.int n0] (g5_P G [] sz)) (va_Qi (fun (r : Int32) (u : va_W) => (n0.toInt = 0 ∧ r = 1 ∧ u = []) ∨ (n0.toInt ≠ 0 ∧ n0.toInt ≠ 1 ∧ r = 0 ∧ u = []) ∨ (n0.toInt ≠ 0 ∧ n0.toInt = 1 ∧ r = 1 ∧ u = [])) (g5_B G (va_A [] sz)) (va_A [] sz)) 0 0 (va_A [] sz) := by
  refine Met.ofW (cc := cX11_isFlag) (maxL := 1) (ret := (some .boolean)) (by decide) rfl ?_
  intro p e s m args below meth c s₁ B hml hv
  obtain ⟨rfl, hsz, hP, hK, hD0, hN⟩ := hv
  have hx := B.exec
  have hb := B.bytes
  have hr := B.returns
  have hts : ∀ w ∈ tblG, w.before _ s = true := fun w h => atoms_spec (ws := (wsG yX11_isFlag cX11_isFlag 1 (some .boolean))) B.pre w (List.mem_cons_of_mem _ h)
  have hown : s.vm.findClass RX11 = some m.cls := findClass_of_methodNamed B.named
  have hlocks := B.notSynchronized
  subst hsz
  have hD := hD0.self (sz := s.heap.size)
  generalize hAe : va_A [] s.heap.size = A at hD ⊢
  have hA : ∀ q : Nat, s.heap.size ≤ q → A q := fun q h => by rw [← hAe]; exact Or.inr h
  have hS : va_S A s.heap s.heap [] := va_S.rf
  have hP : va_P G.1 vwCl [] s.heap := hP
  have hl := lv_entry ([.int n0]) (n := 1) (Nat.le_of_ble_eq_true rfl)
  rw [lg_entry_eq]
  generalize (lg_sl ([.int n0]) ++ List.replicate (1 - (lg_sl ([.int n0])).length) Slot.unset).toArray = ls at hl ⊢
  have hl : lv_has ls 1 [(0, .int n0)] := hl
  refine lv_iload_n hx hb dX11_isFlag_0 rfl (lv_at hl 0 rfl) ?_
  refine lv_if_eq (tgt := 9) hx hb dX11_isFlag_1 (by decide) (fun c_1 => ?_) (fun c_1 => ?_)
  ·
    have i_1 : n0.toInt = 0 := by have z := g5_eq (a := n0.toInt) (b := 0) (by rfl) (by decide) c_1; omega
    refine lv_iconst (v := 1) hx hb dX11_isFlag_9 (by decide) ?_
    refine lv_goto (tgt := 14) hx hb dX11_isFlag_10 (by decide) ?_
    exact W.zret (v := 1) hx hb hr rfl (fun t ht hW => ⟨⟨1, [], rfl, Or.inl (⟨i_1, rfl, rfl⟩), by rw [ht]; exact hP, hD⟩, hS.F ht⟩) hS.2.2 dX11_isFlag_14
  ·
    have i_1 : n0.toInt ≠ 0 := by have z := g5_eqN (a := n0.toInt) (b := 0) (by rfl) (by decide) c_1; omega
    refine lv_iload_n hx hb dX11_isFlag_4 rfl (lv_at hl 0 rfl) ?_
    refine lv_iconst (v := 1) hx hb dX11_isFlag_5 (by decide) ?_
    refine lv_icmp_ne (tgt := 13) hx hb dX11_isFlag_6 (by decide) (fun c_2 => ?_) (fun c_2 => ?_)
    ·
      have i_2 : n0.toInt ≠ 1 := by have z := g5_ne (a := n0.toInt) (b := 1) (by rfl) (by decide) c_2; omega
      refine lv_iconst (v := 0) hx hb dX11_isFlag_13 (by decide) ?_
      exact W.zret (v := 0) hx hb hr rfl (fun t ht hW => ⟨⟨0, [], rfl, Or.inr (Or.inl (⟨i_1, i_2, rfl, rfl⟩)), by rw [ht]; exact hP, hD⟩, hS.F ht⟩) hS.2.2 dX11_isFlag_14
    ·
      have i_2 : n0.toInt = 1 := by have z := g5_neN (a := n0.toInt) (b := 1) (by rfl) (by decide) c_2; omega
      refine lv_iconst (v := 1) hx hb dX11_isFlag_9 (by decide) ?_
      refine lv_goto (tgt := 14) hx hb dX11_isFlag_10 (by decide) ?_
      exact W.zret (v := 1) hx hb hr rfl (fun t ht hW => ⟨⟨1, [], rfl, Or.inr (Or.inr (⟨i_1, i_2, rfl, rfl⟩)), by rw [ht]; exact hP, hD⟩, hS.F ht⟩) hS.2.2 dX11_isFlag_14
theorem dX11_isImage_0 : decode cX11_isImage 0 = .ok (.iload_n 0, 1) := by decide +kernel
theorem dX11_isImage_1 : decode cX11_isImage 1 = .ok (.ifCond .lt 12, 3) := by decide +kernel
theorem dX11_isImage_4 : decode cX11_isImage 4 = .ok (.iload_n 0, 1) := by decide +kernel
theorem dX11_isImage_5 : decode cX11_isImage 5 = .ok (.iconst 2, 1) := by decide +kernel
theorem dX11_isImage_6 : decode cX11_isImage 6 = .ok (.if_icmp .ge 7, 3) := by decide +kernel
theorem dX11_isImage_9 : decode cX11_isImage 9 = .ok (.iconst 1, 1) := by decide +kernel
theorem dX11_isImage_10 : decode cX11_isImage 10 = .ok (.goto 4, 3) := by decide +kernel
theorem dX11_isImage_13 : decode cX11_isImage 13 = .ok (.iconst 0, 1) := by decide +kernel
theorem dX11_isImage_14 : decode cX11_isImage 14 = .ok (.ireturn, 1) := by decide +kernel
set_option maxHeartbeats 4000000 in
set_option maxRecDepth 100000 in
theorem kX11_isImage (l : Launch) (G : g5_G) (sz : Nat) (n0 : Int32) : Met l yX11_isImage (wsG yX11_isImage cX11_isImage 1 (some .boolean)) ({ frames := 0, cells := 0, slots := 0, locals := 0 }) (va_Pc [.int n0] (g5_P G [] sz)) (va_Qi (fun (r : Int32) (u : va_W) => (n0.toInt < 0 ∧ r = 0 ∧ u = []) ∨ (n0.toInt ≥ 0 ∧ n0.toInt ≥ 2 ∧ r = 0 ∧ u = []) ∨ (n0.toInt ≥ 0 ∧ n0.toInt < 2 ∧ r = 1 ∧ u = [])) (g5_B G (va_A [] sz)) (va_A [] sz)) 0 0 (va_A [] sz) := by
  refine Met.ofW (cc := cX11_isImage) (maxL := 1) (ret := (some .boolean)) (by decide) rfl ?_
  intro p e s m args below meth c s₁ B hml hv
  obtain ⟨rfl, hsz, hP, hK, hD0, hN⟩ := hv
  have hx := B.exec
  have hb := B.bytes
  have hr := B.returns
  have hts : ∀ w ∈ tblG, w.before _ s = true := fun w h => atoms_spec (ws := (wsG yX11_isImage cX11_isImage 1 (some .boolean))) B.pre w (List.mem_cons_of_mem _ h)
  have hown : s.vm.findClass RX11 = some m.cls := findClass_of_methodNamed B.named
  have hlocks := B.notSynchronized
  subst hsz
  have hD := hD0.self (sz := s.heap.size)
  generalize hAe : va_A [] s.heap.size = A at hD ⊢
  have hA : ∀ q : Nat, s.heap.size ≤ q → A q := fun q h => by rw [← hAe]; exact Or.inr h
  have hS : va_S A s.heap s.heap [] := va_S.rf
  have hP : va_P G.1 vwCl [] s.heap := hP
  have hl := lv_entry ([.int n0]) (n := 1) (Nat.le_of_ble_eq_true rfl)
  rw [lg_entry_eq]
  generalize (lg_sl ([.int n0]) ++ List.replicate (1 - (lg_sl ([.int n0])).length) Slot.unset).toArray = ls at hl ⊢
  have hl : lv_has ls 1 [(0, .int n0)] := hl
  refine lv_iload_n hx hb dX11_isImage_0 rfl (lv_at hl 0 rfl) ?_
  refine lv_if_lt (tgt := 13) hx hb dX11_isImage_1 (by decide) (fun c_1 => ?_) (fun c_1 => ?_)
  ·
    have i_1 : n0.toInt < 0 := by have z := g5_lt (a := n0.toInt) (b := 0) (by rfl) (by decide) c_1; omega
    refine lv_iconst (v := 0) hx hb dX11_isImage_13 (by decide) ?_
    exact W.zret (v := 0) hx hb hr rfl (fun t ht hW => ⟨⟨0, [], rfl, Or.inl (⟨i_1, rfl, rfl⟩), by rw [ht]; exact hP, hD⟩, hS.F ht⟩) hS.2.2 dX11_isImage_14
  ·
    have i_1 : n0.toInt ≥ 0 := by have z := g5_ltN (a := n0.toInt) (b := 0) (by rfl) (by decide) c_1; omega
    refine lv_iload_n hx hb dX11_isImage_4 rfl (lv_at hl 0 rfl) ?_
    refine lv_iconst (v := 2) hx hb dX11_isImage_5 (by decide) ?_
    refine lv_icmp_ge (tgt := 13) hx hb dX11_isImage_6 (by decide) (fun c_2 => ?_) (fun c_2 => ?_)
    ·
      have i_2 : n0.toInt ≥ 2 := by have z := g5_ge (a := n0.toInt) (b := 2) (by rfl) (by decide) c_2; omega
      refine lv_iconst (v := 0) hx hb dX11_isImage_13 (by decide) ?_
      exact W.zret (v := 0) hx hb hr rfl (fun t ht hW => ⟨⟨0, [], rfl, Or.inr (Or.inl (⟨i_1, i_2, rfl, rfl⟩)), by rw [ht]; exact hP, hD⟩, hS.F ht⟩) hS.2.2 dX11_isImage_14
    ·
      have i_2 : n0.toInt < 2 := by have z := g5_geN (a := n0.toInt) (b := 2) (by rfl) (by decide) c_2; omega
      refine lv_iconst (v := 1) hx hb dX11_isImage_9 (by decide) ?_
      refine lv_goto (tgt := 14) hx hb dX11_isImage_10 (by decide) ?_
      exact W.zret (v := 1) hx hb hr rfl (fun t ht hW => ⟨⟨1, [], rfl, Or.inr (Or.inr (⟨i_1, i_2, rfl, rfl⟩)), by rw [ht]; exact hP, hD⟩, hS.F ht⟩) hS.2.2 dX11_isImage_14
theorem ml_X11_97 : Cond.methodLink RX11 97 yX11_isCell ∈ tblG := tg 500 (by decide +kernel) (by decide +kernel)
theorem st_X11_isCell : Cond.static yX11_isCell ∈ tblG := tg 501 (by decide +kernel) (by decide +kernel)
theorem ini_X11 : Cond.initialized RX11 ∈ tblG := tg 88 (by decide +kernel) (by decide +kernel)
theorem cd_X11_isCell : Cond.code yX11_isCell cX11_isCell 1 (some .boolean) ∈ tblG := tg 502 (by decide +kernel) (by decide +kernel)
theorem gW_X11_isCell : GoodIn tblG (wsG yX11_isCell cX11_isCell 1 (some .boolean)) := tgi cd_X11_isCell
theorem gS_X11_97 : GoodIn tblG (va_wsS RX11 97 yX11_isCell (wsG yX11_isCell cX11_isCell 1 (some .boolean))) := tgS ml_X11_97 st_X11_isCell ini_X11 gW_X11_isCell
theorem hs_X11_isCell : yX11_isCell.cls ≠ "java/lang/invoke/MethodHandle" ∧ yX11_isCell.cls ≠ "java/lang/invoke/VarHandle" ∧ (parseMethodDescriptor yX11_isCell.desc).map (fun d => d.parameters.length) = some 1 := by decide +kernel
theorem ml_X11_127 : Cond.methodLink RX11 127 yX11_isHour ∈ tblG := tg 538 (by decide +kernel) (by decide +kernel)
theorem st_X11_isHour : Cond.static yX11_isHour ∈ tblG := tg 539 (by decide +kernel) (by decide +kernel)
theorem cd_X11_isHour : Cond.code yX11_isHour cX11_isHour 1 (some .boolean) ∈ tblG := tg 540 (by decide +kernel) (by decide +kernel)
theorem gW_X11_isHour : GoodIn tblG (wsG yX11_isHour cX11_isHour 1 (some .boolean)) := tgi cd_X11_isHour
theorem gS_X11_127 : GoodIn tblG (va_wsS RX11 127 yX11_isHour (wsG yX11_isHour cX11_isHour 1 (some .boolean))) := tgS ml_X11_127 st_X11_isHour ini_X11 gW_X11_isHour
theorem hs_X11_isHour : yX11_isHour.cls ≠ "java/lang/invoke/MethodHandle" ∧ yX11_isHour.cls ≠ "java/lang/invoke/VarHandle" ∧ (parseMethodDescriptor yX11_isHour.desc).map (fun d => d.parameters.length) = some 1 := by decide +kernel
theorem dX11_isLook_0 : decode cX11_isLook 0 = .ok (.iload_n 0, 1) := by decide +kernel
theorem dX11_isLook_1 : decode cX11_isLook 1 = .ok (.invokestatic 97, 3) := by decide +kernel
theorem dX11_isLook_4 : decode cX11_isLook 4 = .ok (.ifCond .eq 23, 3) := by decide +kernel
theorem dX11_isLook_7 : decode cX11_isLook 7 = .ok (.iload_n 1, 1) := by decide +kernel
theorem dX11_isLook_8 : decode cX11_isLook 8 = .ok (.ifCond .lt 19, 3) := by decide +kernel
theorem dX11_isLook_11 : decode cX11_isLook 11 = .ok (.iload_n 1, 1) := by decide +kernel
theorem dX11_isLook_12 : decode cX11_isLook 12 = .ok (.iconst 4, 1) := by decide +kernel
theorem dX11_isLook_13 : decode cX11_isLook 13 = .ok (.if_icmp .ge 14, 3) := by decide +kernel
theorem dX11_isLook_16 : decode cX11_isLook 16 = .ok (.iload_n 2, 1) := by decide +kernel
theorem dX11_isLook_17 : decode cX11_isLook 17 = .ok (.invokestatic 127, 3) := by decide +kernel
theorem dX11_isLook_20 : decode cX11_isLook 20 = .ok (.ifCond .eq 7, 3) := by decide +kernel
theorem dX11_isLook_23 : decode cX11_isLook 23 = .ok (.iconst 1, 1) := by decide +kernel
theorem dX11_isLook_24 : decode cX11_isLook 24 = .ok (.goto 4, 3) := by decide +kernel
theorem dX11_isLook_27 : decode cX11_isLook 27 = .ok (.iconst 0, 1) := by decide +kernel
theorem dX11_isLook_28 : decode cX11_isLook 28 = .ok (.ireturn, 1) := by decide +kernel
set_option maxHeartbeats 4000000 in
set_option maxRecDepth 100000 in
theorem kX11_isLook (l : Launch) (G : g5_G) (sz : Nat) (n0 : Int32) (n1 : Int32) (n2 : Int32) : Met l yX11_isLook (wsG yX11_isLook cX11_isLook 3 (some .boolean)) ({ frames := 1, cells := 0, slots := 0, locals := 20 }) (va_Pc [.int n0, .int n1, .int n2] (g5_P G [] sz)) (va_Qi (fun (r : Int32) (u : va_W) => (n0.toInt < 0 ∧ r = 0 ∧ u = []) ∨ (n0.toInt ≥ 0 ∧ n0.toInt ≥ 64 ∧ r = 0 ∧ u = []) ∨ (n0.toInt ≥ 0 ∧ n0.toInt < 64 ∧ n1.toInt < 0 ∧ r = 0 ∧ u = []) ∨ (n0.toInt ≥ 0 ∧ n0.toInt < 64 ∧ n1.toInt ≥ 0 ∧ n1.toInt ≥ 4 ∧ r = 0 ∧ u = []) ∨ (n0.toInt ≥ 0 ∧ n0.toInt < 64 ∧ n1.toInt ≥ 0 ∧ n1.toInt < 4 ∧ n2.toInt < 0 ∧ r = 0 ∧ u = []) ∨ (n0.toInt ≥ 0 ∧ n0.toInt < 64 ∧ n1.toInt ≥ 0 ∧ n1.toInt < 4 ∧ n2.toInt ≥ 0 ∧ n2.toInt ≥ 24 ∧ r = 0 ∧ u = []) ∨ (n0.toInt ≥ 0 ∧ n0.toInt < 64 ∧ n1.toInt ≥ 0 ∧ n1.toInt < 4 ∧ n2.toInt ≥ 0 ∧ n2.toInt < 24 ∧ r = 1 ∧ u = [])) (g5_B G (va_A [] sz)) (va_A [] sz)) 0 0 (va_A [] sz) := by
  refine Met.ofW (cc := cX11_isLook) (maxL := 3) (ret := (some .boolean)) (by decide) rfl ?_
  intro p e s m args below meth c s₁ B hml hv
  obtain ⟨rfl, hsz, hP, hK, hD0, hN⟩ := hv
  have hx := B.exec
  have hb := B.bytes
  have hr := B.returns
  have hts : ∀ w ∈ tblG, w.before _ s = true := fun w h => atoms_spec (ws := (wsG yX11_isLook cX11_isLook 3 (some .boolean))) B.pre w (List.mem_cons_of_mem _ h)
  have hown : s.vm.findClass RX11 = some m.cls := findClass_of_methodNamed B.named
  have hlocks := B.notSynchronized
  subst hsz
  have hD := hD0.self (sz := s.heap.size)
  generalize hAe : va_A [] s.heap.size = A at hD ⊢
  have hA : ∀ q : Nat, s.heap.size ≤ q → A q := fun q h => by rw [← hAe]; exact Or.inr h
  have hS : va_S A s.heap s.heap [] := va_S.rf
  have hP : va_P G.1 vwCl [] s.heap := hP
  have hl := lv_entry ([.int n0, .int n1, .int n2]) (n := 3) (Nat.le_of_ble_eq_true rfl)
  rw [lg_entry_eq]
  generalize (lg_sl ([.int n0, .int n1, .int n2]) ++ List.replicate (3 - (lg_sl ([.int n0, .int n1, .int n2])).length) Slot.unset).toArray = ls at hl ⊢
  have hl : lv_has ls 3 [(0, .int n0), (1, .int n1), (2, .int n2)] := hl
  refine lv_iload_n hx hb dX11_isLook_0 rfl (lv_at hl 0 rfl) ?_
  have hPc := hP.sub (ws' := []) [] rfl
  have hDc := hD.sub (ws' := []) [] (by decide) rfl
  have hFc := va_free (wc := []) hD hS hA [] rfl
  refine va_calli (va_runS (As := [.int n0]) (rest := []) ⟨hx, hb, hml, hown, hts⟩ (kX11_isCell l G s.heap.size n0) (va_cwS 1 hts gS_X11_97 rfl rfl rfl hs_X11_isCell ⟨Nat.le_of_ble_eq_true rfl, Nat.le_of_ble_eq_true rfl⟩) (g5_preS hPc hK hDc hN) rfl rfl hl.1 rfl (lv_room (Nat.le_of_ble_eq_true rfl)) dX11_isLook_1 ⟨Nat.le_of_ble_eq_true rfl, Nat.le_of_ble_eq_true rfl⟩) hS (fun q _ h => hFc q h) hFc (fun r u t H1 locs ht hvm hw hB hz1 hk1 hS => ?_)
  obtain ⟨hP1, hD1⟩ := hB
  rw [ht] at hP1
  rcases hw with ⟨i_1, rfl, rfl⟩ | ⟨i_2, i_3, rfl, rfl⟩ | ⟨i_4, i_5, rfl, rfl⟩
  ·
    have hP := g5_same hP hk1
    generalize H1 = H at hP hS ⊢
    refine lv_if_eq (tgt := 27) hx hb dX11_isLook_4 (by decide) (fun c_6 => ?_) (fun c_6 => ?_)
    ·
      refine lv_iconst (v := 0) hx hb dX11_isLook_27 (by decide) ?_
      exact W.zret (v := 0) hx hb hr rfl (fun t ht hW => ⟨⟨0, [], rfl, Or.inl (⟨i_1, rfl, rfl⟩), by rw [ht]; exact hP, hD⟩, hS.F ht⟩) hS.2.2 dX11_isLook_28
    ·
      exact absurd c_6 (by decide)
  ·
    have hP := g5_same hP hk1
    generalize H1 = H at hP hS ⊢
    refine lv_if_eq (tgt := 27) hx hb dX11_isLook_4 (by decide) (fun c_7 => ?_) (fun c_7 => ?_)
    ·
      refine lv_iconst (v := 0) hx hb dX11_isLook_27 (by decide) ?_
      exact W.zret (v := 0) hx hb hr rfl (fun t ht hW => ⟨⟨0, [], rfl, Or.inr (Or.inl (⟨i_2, i_3, rfl, rfl⟩)), by rw [ht]; exact hP, hD⟩, hS.F ht⟩) hS.2.2 dX11_isLook_28
    ·
      exact absurd c_7 (by decide)
  ·
    have hP := g5_same hP hk1
    generalize H1 = H at hP hS ⊢
    refine lv_if_eq (tgt := 27) hx hb dX11_isLook_4 (by decide) (fun c_8 => ?_) (fun c_8 => ?_)
    ·
      exact absurd c_8 (by decide)
    ·
      refine lv_iload_n hx hb dX11_isLook_7 rfl (lv_at hl 1 rfl) ?_
      refine lv_if_lt (tgt := 27) hx hb dX11_isLook_8 (by decide) (fun c_9 => ?_) (fun c_9 => ?_)
      ·
        have i_9 : n1.toInt < 0 := by have z := g5_lt (a := n1.toInt) (b := 0) (by rfl) (by decide) c_9; omega
        refine lv_iconst (v := 0) hx hb dX11_isLook_27 (by decide) ?_
        exact W.zret (v := 0) hx hb hr rfl (fun t ht hW => ⟨⟨0, [], rfl, Or.inr (Or.inr (Or.inl (⟨i_4, i_5, i_9, rfl, rfl⟩))), by rw [ht]; exact hP, hD⟩, hS.F ht⟩) hS.2.2 dX11_isLook_28
      ·
        have i_9 : n1.toInt ≥ 0 := by have z := g5_ltN (a := n1.toInt) (b := 0) (by rfl) (by decide) c_9; omega
        refine lv_iload_n hx hb dX11_isLook_11 rfl (lv_at hl 1 rfl) ?_
        refine lv_iconst (v := 4) hx hb dX11_isLook_12 (by decide) ?_
        refine lv_icmp_ge (tgt := 27) hx hb dX11_isLook_13 (by decide) (fun c_10 => ?_) (fun c_10 => ?_)
        ·
          have i_10 : n1.toInt ≥ 4 := by have z := g5_ge (a := n1.toInt) (b := 4) (by rfl) (by decide) c_10; omega
          refine lv_iconst (v := 0) hx hb dX11_isLook_27 (by decide) ?_
          exact W.zret (v := 0) hx hb hr rfl (fun t ht hW => ⟨⟨0, [], rfl, Or.inr (Or.inr (Or.inr (Or.inl (⟨i_4, i_5, i_9, i_10, rfl, rfl⟩)))), by rw [ht]; exact hP, hD⟩, hS.F ht⟩) hS.2.2 dX11_isLook_28
        ·
          have i_10 : n1.toInt < 4 := by have z := g5_geN (a := n1.toInt) (b := 4) (by rfl) (by decide) c_10; omega
          refine lv_iload_n hx hb dX11_isLook_16 rfl (lv_at hl 2 rfl) ?_
          have hPc := hP.sub (ws' := []) [] rfl
          have hDc := hD.sub (ws' := []) [] (by decide) rfl
          have hFc := va_free (wc := []) hD hS hA [] rfl
          refine va_calli (va_runS (As := [.int n2]) (rest := []) ⟨hx, hb, hml, hown, hts⟩ (kX11_isHour l G H.size n2) (va_cwS 1 hts gS_X11_127 rfl rfl rfl hs_X11_isHour ⟨Nat.le_of_ble_eq_true rfl, Nat.le_of_ble_eq_true rfl⟩) (g5_preS hPc hK hDc hN) rfl rfl hl.1 rfl (lv_room (Nat.le_of_ble_eq_true rfl)) dX11_isLook_17 ⟨Nat.le_of_ble_eq_true rfl, Nat.le_of_ble_eq_true rfl⟩) hS (fun q _ h => hFc q h) hFc (fun r u t H1 locs ht hvm hw hB hz1 hk1 hS => ?_)
          obtain ⟨hP1, hD1⟩ := hB
          rw [ht] at hP1
          rcases hw with ⟨i_11, rfl, rfl⟩ | ⟨i_12, i_13, rfl, rfl⟩ | ⟨i_14, i_15, rfl, rfl⟩
          ·
            have hP := g5_same hP hk1
            generalize H1 = H at hP hS ⊢
            refine lv_if_eq (tgt := 27) hx hb dX11_isLook_20 (by decide) (fun c_16 => ?_) (fun c_16 => ?_)
            ·
              refine lv_iconst (v := 0) hx hb dX11_isLook_27 (by decide) ?_
              exact W.zret (v := 0) hx hb hr rfl (fun t ht hW => ⟨⟨0, [], rfl, Or.inr (Or.inr (Or.inr (Or.inr (Or.inl (⟨i_4, i_5, i_9, i_10, i_11, rfl, rfl⟩))))), by rw [ht]; exact hP, hD⟩, hS.F ht⟩) hS.2.2 dX11_isLook_28
            ·
              exact absurd c_16 (by decide)
          ·
            have hP := g5_same hP hk1
            generalize H1 = H at hP hS ⊢
            refine lv_if_eq (tgt := 27) hx hb dX11_isLook_20 (by decide) (fun c_17 => ?_) (fun c_17 => ?_)
            ·
              refine lv_iconst (v := 0) hx hb dX11_isLook_27 (by decide) ?_
              exact W.zret (v := 0) hx hb hr rfl (fun t ht hW => ⟨⟨0, [], rfl, Or.inr (Or.inr (Or.inr (Or.inr (Or.inr (Or.inl (⟨i_4, i_5, i_9, i_10, i_12, i_13, rfl, rfl⟩)))))), by rw [ht]; exact hP, hD⟩, hS.F ht⟩) hS.2.2 dX11_isLook_28
            ·
              exact absurd c_17 (by decide)
          ·
            have hP := g5_same hP hk1
            generalize H1 = H at hP hS ⊢
            refine lv_if_eq (tgt := 27) hx hb dX11_isLook_20 (by decide) (fun c_18 => ?_) (fun c_18 => ?_)
            ·
              exact absurd c_18 (by decide)
            ·
              refine lv_iconst (v := 1) hx hb dX11_isLook_23 (by decide) ?_
              refine lv_goto (tgt := 28) hx hb dX11_isLook_24 (by decide) ?_
              exact W.zret (v := 1) hx hb hr rfl (fun t ht hW => ⟨⟨1, [], rfl, Or.inr (Or.inr (Or.inr (Or.inr (Or.inr (Or.inr (⟨i_4, i_5, i_9, i_10, i_14, i_15, rfl, rfl⟩)))))), by rw [ht]; exact hP, hD⟩, hS.F ht⟩) hS.2.2 dX11_isLook_28
theorem ml_X11_241 : Cond.methodLink RX11 241 yX11_isCellOrNone ∈ tblG := tg 591 (by decide +kernel) (by decide +kernel)
theorem st_X11_isCellOrNone : Cond.static yX11_isCellOrNone ∈ tblG := tg 592 (by decide +kernel) (by decide +kernel)
theorem cd_X11_isCellOrNone : Cond.code yX11_isCellOrNone cX11_isCellOrNone 1 (some .boolean) ∈ tblG := tg 593 (by decide +kernel) (by decide +kernel)
theorem gW_X11_isCellOrNone : GoodIn tblG (wsG yX11_isCellOrNone cX11_isCellOrNone 1 (some .boolean)) := tgi cd_X11_isCellOrNone
theorem gS_X11_241 : GoodIn tblG (va_wsS RX11 241 yX11_isCellOrNone (wsG yX11_isCellOrNone cX11_isCellOrNone 1 (some .boolean))) := tgS ml_X11_241 st_X11_isCellOrNone ini_X11 gW_X11_isCellOrNone
theorem hs_X11_isCellOrNone : yX11_isCellOrNone.cls ≠ "java/lang/invoke/MethodHandle" ∧ yX11_isCellOrNone.cls ≠ "java/lang/invoke/VarHandle" ∧ (parseMethodDescriptor yX11_isCellOrNone.desc).map (fun d => d.parameters.length) = some 1 := by decide +kernel
theorem dX11_isStay_0 : decode cX11_isStay 0 = .ok (.iload_n 0, 1) := by decide +kernel
theorem dX11_isStay_1 : decode cX11_isStay 1 = .ok (.invokestatic 127, 3) := by decide +kernel
theorem dX11_isStay_4 : decode cX11_isStay 4 = .ok (.ifCond .eq 26, 3) := by decide +kernel
theorem dX11_isStay_7 : decode cX11_isStay 7 = .ok (.iload_n 1, 1) := by decide +kernel
theorem dX11_isStay_8 : decode cX11_isStay 8 = .ok (.invokestatic 127, 3) := by decide +kernel
theorem dX11_isStay_11 : decode cX11_isStay 11 = .ok (.ifCond .eq 19, 3) := by decide +kernel
theorem dX11_isStay_14 : decode cX11_isStay 14 = .ok (.iload_n 1, 1) := by decide +kernel
theorem dX11_isStay_15 : decode cX11_isStay 15 = .ok (.iload_n 0, 1) := by decide +kernel
theorem dX11_isStay_16 : decode cX11_isStay 16 = .ok (.if_icmp .lt 14, 3) := by decide +kernel
theorem dX11_isStay_19 : decode cX11_isStay 19 = .ok (.iload_n 2, 1) := by decide +kernel
theorem dX11_isStay_20 : decode cX11_isStay 20 = .ok (.invokestatic 241, 3) := by decide +kernel
theorem dX11_isStay_23 : decode cX11_isStay 23 = .ok (.ifCond .eq 7, 3) := by decide +kernel
theorem dX11_isStay_26 : decode cX11_isStay 26 = .ok (.iconst 1, 1) := by decide +kernel
theorem dX11_isStay_27 : decode cX11_isStay 27 = .ok (.goto 4, 3) := by decide +kernel
theorem dX11_isStay_30 : decode cX11_isStay 30 = .ok (.iconst 0, 1) := by decide +kernel
theorem dX11_isStay_31 : decode cX11_isStay 31 = .ok (.ireturn, 1) := by decide +kernel
set_option maxHeartbeats 4000000 in
set_option maxRecDepth 100000 in
theorem kX11_isStay (l : Launch) (G : g5_G) (sz : Nat) (n0 : Int32) (n1 : Int32) (n2 : Int32) : Met l yX11_isStay (wsG yX11_isStay cX11_isStay 3 (some .boolean)) ({ frames := 1, cells := 0, slots := 0, locals := 20 }) (va_Pc [.int n0, .int n1, .int n2] (g5_P G [] sz)) (va_Qi (fun (r : Int32) (u : va_W) => (n0.toInt < 0 ∧ r = 0 ∧ u = []) ∨ (n0.toInt ≥ 0 ∧ n0.toInt ≥ 24 ∧ r = 0 ∧ u = []) ∨ (n0.toInt ≥ 0 ∧ n0.toInt < 24 ∧ n1.toInt < 0 ∧ r = 0 ∧ u = []) ∨ (n0.toInt ≥ 0 ∧ n0.toInt < 24 ∧ n1.toInt ≥ 0 ∧ n1.toInt ≥ 24 ∧ r = 0 ∧ u = []) ∨ (n0.toInt ≥ 0 ∧ n0.toInt < 24 ∧ n1.toInt ≥ 0 ∧ n1.toInt < 24 ∧ n1.toInt < n0.toInt ∧ r = 0 ∧ u = []) ∨ (n0.toInt ≥ 0 ∧ n0.toInt < 24 ∧ n1.toInt ≥ 0 ∧ n1.toInt < 24 ∧ n1.toInt ≥ n0.toInt ∧ n2.toInt < (-1) ∧ r = 0 ∧ u = []) ∨ (n0.toInt ≥ 0 ∧ n0.toInt < 24 ∧ n1.toInt ≥ 0 ∧ n1.toInt < 24 ∧ n1.toInt ≥ n0.toInt ∧ n2.toInt ≥ (-1) ∧ n2.toInt ≥ 64 ∧ r = 0 ∧ u = []) ∨ (n0.toInt ≥ 0 ∧ n0.toInt < 24 ∧ n1.toInt ≥ 0 ∧ n1.toInt < 24 ∧ n1.toInt ≥ n0.toInt ∧ n2.toInt ≥ (-1) ∧ n2.toInt < 64 ∧ r = 1 ∧ u = [])) (g5_B G (va_A [] sz)) (va_A [] sz)) 0 0 (va_A [] sz) := by
  refine Met.ofW (cc := cX11_isStay) (maxL := 3) (ret := (some .boolean)) (by decide) rfl ?_
  intro p e s m args below meth c s₁ B hml hv
  obtain ⟨rfl, hsz, hP, hK, hD0, hN⟩ := hv
  have hx := B.exec
  have hb := B.bytes
  have hr := B.returns
  have hts : ∀ w ∈ tblG, w.before _ s = true := fun w h => atoms_spec (ws := (wsG yX11_isStay cX11_isStay 3 (some .boolean))) B.pre w (List.mem_cons_of_mem _ h)
  have hown : s.vm.findClass RX11 = some m.cls := findClass_of_methodNamed B.named
  have hlocks := B.notSynchronized
  subst hsz
  have hD := hD0.self (sz := s.heap.size)
  generalize hAe : va_A [] s.heap.size = A at hD ⊢
  have hA : ∀ q : Nat, s.heap.size ≤ q → A q := fun q h => by rw [← hAe]; exact Or.inr h
  have hS : va_S A s.heap s.heap [] := va_S.rf
  have hP : va_P G.1 vwCl [] s.heap := hP
  have hl := lv_entry ([.int n0, .int n1, .int n2]) (n := 3) (Nat.le_of_ble_eq_true rfl)
  rw [lg_entry_eq]
  generalize (lg_sl ([.int n0, .int n1, .int n2]) ++ List.replicate (3 - (lg_sl ([.int n0, .int n1, .int n2])).length) Slot.unset).toArray = ls at hl ⊢
  have hl : lv_has ls 3 [(0, .int n0), (1, .int n1), (2, .int n2)] := hl
  refine lv_iload_n hx hb dX11_isStay_0 rfl (lv_at hl 0 rfl) ?_
  have hPc := hP.sub (ws' := []) [] rfl
  have hDc := hD.sub (ws' := []) [] (by decide) rfl
  have hFc := va_free (wc := []) hD hS hA [] rfl
  refine va_calli (va_runS (As := [.int n0]) (rest := []) ⟨hx, hb, hml, hown, hts⟩ (kX11_isHour l G s.heap.size n0) (va_cwS 1 hts gS_X11_127 rfl rfl rfl hs_X11_isHour ⟨Nat.le_of_ble_eq_true rfl, Nat.le_of_ble_eq_true rfl⟩) (g5_preS hPc hK hDc hN) rfl rfl hl.1 rfl (lv_room (Nat.le_of_ble_eq_true rfl)) dX11_isStay_1 ⟨Nat.le_of_ble_eq_true rfl, Nat.le_of_ble_eq_true rfl⟩) hS (fun q _ h => hFc q h) hFc (fun r u t H1 locs ht hvm hw hB hz1 hk1 hS => ?_)
  obtain ⟨hP1, hD1⟩ := hB
  rw [ht] at hP1
  rcases hw with ⟨i_1, rfl, rfl⟩ | ⟨i_2, i_3, rfl, rfl⟩ | ⟨i_4, i_5, rfl, rfl⟩
  ·
    have hP := g5_same hP hk1
    generalize H1 = H at hP hS ⊢
    refine lv_if_eq (tgt := 30) hx hb dX11_isStay_4 (by decide) (fun c_6 => ?_) (fun c_6 => ?_)
    ·
      refine lv_iconst (v := 0) hx hb dX11_isStay_30 (by decide) ?_
      exact W.zret (v := 0) hx hb hr rfl (fun t ht hW => ⟨⟨0, [], rfl, Or.inl (⟨i_1, rfl, rfl⟩), by rw [ht]; exact hP, hD⟩, hS.F ht⟩) hS.2.2 dX11_isStay_31
    ·
      exact absurd c_6 (by decide)
  ·
    have hP := g5_same hP hk1
    generalize H1 = H at hP hS ⊢
    refine lv_if_eq (tgt := 30) hx hb dX11_isStay_4 (by decide) (fun c_7 => ?_) (fun c_7 => ?_)
    ·
      refine lv_iconst (v := 0) hx hb dX11_isStay_30 (by decide) ?_
      exact W.zret (v := 0) hx hb hr rfl (fun t ht hW => ⟨⟨0, [], rfl, Or.inr (Or.inl (⟨i_2, i_3, rfl, rfl⟩)), by rw [ht]; exact hP, hD⟩, hS.F ht⟩) hS.2.2 dX11_isStay_31
    ·
      exact absurd c_7 (by decide)
  ·
    have hP := g5_same hP hk1
    generalize H1 = H at hP hS ⊢
    refine lv_if_eq (tgt := 30) hx hb dX11_isStay_4 (by decide) (fun c_8 => ?_) (fun c_8 => ?_)
    ·
      exact absurd c_8 (by decide)
    ·
      refine lv_iload_n hx hb dX11_isStay_7 rfl (lv_at hl 1 rfl) ?_
      have hPc := hP.sub (ws' := []) [] rfl
      have hDc := hD.sub (ws' := []) [] (by decide) rfl
      have hFc := va_free (wc := []) hD hS hA [] rfl
      refine va_calli (va_runS (As := [.int n1]) (rest := []) ⟨hx, hb, hml, hown, hts⟩ (kX11_isHour l G H.size n1) (va_cwS 1 hts gS_X11_127 rfl rfl rfl hs_X11_isHour ⟨Nat.le_of_ble_eq_true rfl, Nat.le_of_ble_eq_true rfl⟩) (g5_preS hPc hK hDc hN) rfl rfl hl.1 rfl (lv_room (Nat.le_of_ble_eq_true rfl)) dX11_isStay_8 ⟨Nat.le_of_ble_eq_true rfl, Nat.le_of_ble_eq_true rfl⟩) hS (fun q _ h => hFc q h) hFc (fun r u t H1 locs ht hvm hw hB hz1 hk1 hS => ?_)
      obtain ⟨hP1, hD1⟩ := hB
      rw [ht] at hP1
      rcases hw with ⟨i_9, rfl, rfl⟩ | ⟨i_10, i_11, rfl, rfl⟩ | ⟨i_12, i_13, rfl, rfl⟩
      ·
        have hP := g5_same hP hk1
        generalize H1 = H at hP hS ⊢
        refine lv_if_eq (tgt := 30) hx hb dX11_isStay_11 (by decide) (fun c_14 => ?_) (fun c_14 => ?_)
        ·
          refine lv_iconst (v := 0) hx hb dX11_isStay_30 (by decide) ?_
          exact W.zret (v := 0) hx hb hr rfl (fun t ht hW => ⟨⟨0, [], rfl, Or.inr (Or.inr (Or.inl (⟨i_4, i_5, i_9, rfl, rfl⟩))), by rw [ht]; exact hP, hD⟩, hS.F ht⟩) hS.2.2 dX11_isStay_31
        ·
          exact absurd c_14 (by decide)
      ·
        have hP := g5_same hP hk1
        generalize H1 = H at hP hS ⊢
        refine lv_if_eq (tgt := 30) hx hb dX11_isStay_11 (by decide) (fun c_15 => ?_) (fun c_15 => ?_)
        ·
          refine lv_iconst (v := 0) hx hb dX11_isStay_30 (by decide) ?_
          exact W.zret (v := 0) hx hb hr rfl (fun t ht hW => ⟨⟨0, [], rfl, Or.inr (Or.inr (Or.inr (Or.inl (⟨i_4, i_5, i_10, i_11, rfl, rfl⟩)))), by rw [ht]; exact hP, hD⟩, hS.F ht⟩) hS.2.2 dX11_isStay_31
        ·
          exact absurd c_15 (by decide)
      ·
        have hP := g5_same hP hk1
        generalize H1 = H at hP hS ⊢
        refine lv_if_eq (tgt := 30) hx hb dX11_isStay_11 (by decide) (fun c_16 => ?_) (fun c_16 => ?_)
        ·
          exact absurd c_16 (by decide)
        ·
          refine lv_iload_n hx hb dX11_isStay_14 rfl (lv_at hl 1 rfl) ?_
          refine lv_iload_n hx hb dX11_isStay_15 rfl (lv_at hl 0 rfl) ?_
          refine lv_icmp_lt (tgt := 30) hx hb dX11_isStay_16 (by decide) (fun c_17 => ?_) (fun c_17 => ?_)
          ·
            have i_17 : n1.toInt < n0.toInt := by have z := g5_lt (a := n1.toInt) (b := n0.toInt) (by rfl) (by rfl) c_17; omega
            refine lv_iconst (v := 0) hx hb dX11_isStay_30 (by decide) ?_
            exact W.zret (v := 0) hx hb hr rfl (fun t ht hW => ⟨⟨0, [], rfl, Or.inr (Or.inr (Or.inr (Or.inr (Or.inl (⟨i_4, i_5, i_12, i_13, i_17, rfl, rfl⟩))))), by rw [ht]; exact hP, hD⟩, hS.F ht⟩) hS.2.2 dX11_isStay_31
          ·
            have i_17 : n1.toInt ≥ n0.toInt := by have z := g5_ltN (a := n1.toInt) (b := n0.toInt) (by rfl) (by rfl) c_17; omega
            refine lv_iload_n hx hb dX11_isStay_19 rfl (lv_at hl 2 rfl) ?_
            have hPc := hP.sub (ws' := []) [] rfl
            have hDc := hD.sub (ws' := []) [] (by decide) rfl
            have hFc := va_free (wc := []) hD hS hA [] rfl
            refine va_calli (va_runS (As := [.int n2]) (rest := []) ⟨hx, hb, hml, hown, hts⟩ (kX11_isCellOrNone l G H.size n2) (va_cwS 1 hts gS_X11_241 rfl rfl rfl hs_X11_isCellOrNone ⟨Nat.le_of_ble_eq_true rfl, Nat.le_of_ble_eq_true rfl⟩) (g5_preS hPc hK hDc hN) rfl rfl hl.1 rfl (lv_room (Nat.le_of_ble_eq_true rfl)) dX11_isStay_20 ⟨Nat.le_of_ble_eq_true rfl, Nat.le_of_ble_eq_true rfl⟩) hS (fun q _ h => hFc q h) hFc (fun r u t H1 locs ht hvm hw hB hz1 hk1 hS => ?_)
            obtain ⟨hP1, hD1⟩ := hB
            rw [ht] at hP1
            rcases hw with ⟨i_18, rfl, rfl⟩ | ⟨i_19, i_20, rfl, rfl⟩ | ⟨i_21, i_22, rfl, rfl⟩
            ·
              have hP := g5_same hP hk1
              generalize H1 = H at hP hS ⊢
              refine lv_if_eq (tgt := 30) hx hb dX11_isStay_23 (by decide) (fun c_23 => ?_) (fun c_23 => ?_)
              ·
                refine lv_iconst (v := 0) hx hb dX11_isStay_30 (by decide) ?_
                exact W.zret (v := 0) hx hb hr rfl (fun t ht hW => ⟨⟨0, [], rfl, Or.inr (Or.inr (Or.inr (Or.inr (Or.inr (Or.inl (⟨i_4, i_5, i_12, i_13, i_17, i_18, rfl, rfl⟩)))))), by rw [ht]; exact hP, hD⟩, hS.F ht⟩) hS.2.2 dX11_isStay_31
              ·
                exact absurd c_23 (by decide)
            ·
              have hP := g5_same hP hk1
              generalize H1 = H at hP hS ⊢
              refine lv_if_eq (tgt := 30) hx hb dX11_isStay_23 (by decide) (fun c_24 => ?_) (fun c_24 => ?_)
              ·
                refine lv_iconst (v := 0) hx hb dX11_isStay_30 (by decide) ?_
                exact W.zret (v := 0) hx hb hr rfl (fun t ht hW => ⟨⟨0, [], rfl, Or.inr (Or.inr (Or.inr (Or.inr (Or.inr (Or.inr (Or.inl (⟨i_4, i_5, i_12, i_13, i_17, i_19, i_20, rfl, rfl⟩))))))), by rw [ht]; exact hP, hD⟩, hS.F ht⟩) hS.2.2 dX11_isStay_31
              ·
                exact absurd c_24 (by decide)
            ·
              have hP := g5_same hP hk1
              generalize H1 = H at hP hS ⊢
              refine lv_if_eq (tgt := 30) hx hb dX11_isStay_23 (by decide) (fun c_25 => ?_) (fun c_25 => ?_)
              ·
                exact absurd c_25 (by decide)
              ·
                refine lv_iconst (v := 1) hx hb dX11_isStay_26 (by decide) ?_
                refine lv_goto (tgt := 31) hx hb dX11_isStay_27 (by decide) ?_
                exact W.zret (v := 1) hx hb hr rfl (fun t ht hW => ⟨⟨1, [], rfl, Or.inr (Or.inr (Or.inr (Or.inr (Or.inr (Or.inr (Or.inr (⟨i_4, i_5, i_12, i_13, i_17, i_21, i_22, rfl, rfl⟩))))))), by rw [ht]; exact hP, hD⟩, hS.F ht⟩) hS.2.2 dX11_isStay_31
theorem ml_X11_124 : Cond.methodLink RX11 124 yX11_isSort ∈ tblG := tg 535 (by decide +kernel) (by decide +kernel)
theorem st_X11_isSort : Cond.static yX11_isSort ∈ tblG := tg 536 (by decide +kernel) (by decide +kernel)
theorem cd_X11_isSort : Cond.code yX11_isSort cX11_isSort 1 (some .boolean) ∈ tblG := tg 537 (by decide +kernel) (by decide +kernel)
theorem gW_X11_isSort : GoodIn tblG (wsG yX11_isSort cX11_isSort 1 (some .boolean)) := tgi cd_X11_isSort
theorem gS_X11_124 : GoodIn tblG (va_wsS RX11 124 yX11_isSort (wsG yX11_isSort cX11_isSort 1 (some .boolean))) := tgS ml_X11_124 st_X11_isSort ini_X11 gW_X11_isSort
theorem hs_X11_isSort : yX11_isSort.cls ≠ "java/lang/invoke/MethodHandle" ∧ yX11_isSort.cls ≠ "java/lang/invoke/VarHandle" ∧ (parseMethodDescriptor yX11_isSort.desc).map (fun d => d.parameters.length) = some 1 := by decide +kernel
theorem ml_X11_130 : Cond.methodLink RX11 130 yX11_isDust ∈ tblG := tg 541 (by decide +kernel) (by decide +kernel)
theorem st_X11_isDust : Cond.static yX11_isDust ∈ tblG := tg 542 (by decide +kernel) (by decide +kernel)
theorem cd_X11_isDust : Cond.code yX11_isDust cX11_isDust 1 (some .boolean) ∈ tblG := tg 543 (by decide +kernel) (by decide +kernel)
theorem gW_X11_isDust : GoodIn tblG (wsG yX11_isDust cX11_isDust 1 (some .boolean)) := tgi cd_X11_isDust
theorem gS_X11_130 : GoodIn tblG (va_wsS RX11 130 yX11_isDust (wsG yX11_isDust cX11_isDust 1 (some .boolean))) := tgS ml_X11_130 st_X11_isDust ini_X11 gW_X11_isDust
theorem hs_X11_isDust : yX11_isDust.cls ≠ "java/lang/invoke/MethodHandle" ∧ yX11_isDust.cls ≠ "java/lang/invoke/VarHandle" ∧ (parseMethodDescriptor yX11_isDust.desc).map (fun d => d.parameters.length) = some 1 := by decide +kernel
theorem ki_X11_357 : Cond.constant RX11 357 16777216 ∈ tblG := tg 573 (by decide +kernel) (by decide +kernel)
theorem dX11_isTurn_0 : decode cX11_isTurn 0 = .ok (.iload_n 0, 1) := by decide +kernel
theorem dX11_isTurn_1 : decode cX11_isTurn 1 = .ok (.iconst 1, 1) := by decide +kernel
theorem dX11_isTurn_2 : decode cX11_isTurn 2 = .ok (.iadd, 1) := by decide +kernel
theorem dX11_isTurn_3 : decode cX11_isTurn 3 = .ok (.tableswitch 61 1 4 #[29, 34, 39, 44], 29) := by decide +kernel
theorem dX11_isTurn_32 : decode cX11_isTurn 32 = .ok (.iload_n 1, 1) := by decide +kernel
theorem dX11_isTurn_33 : decode cX11_isTurn 33 = .ok (.invokestatic 124, 3) := by decide +kernel
theorem dX11_isTurn_36 : decode cX11_isTurn 36 = .ok (.ireturn, 1) := by decide +kernel
theorem dX11_isTurn_37 : decode cX11_isTurn 37 = .ok (.iload_n 1, 1) := by decide +kernel
theorem dX11_isTurn_38 : decode cX11_isTurn 38 = .ok (.invokestatic 127, 3) := by decide +kernel
theorem dX11_isTurn_41 : decode cX11_isTurn 41 = .ok (.ireturn, 1) := by decide +kernel
theorem dX11_isTurn_42 : decode cX11_isTurn 42 = .ok (.iload_n 1, 1) := by decide +kernel
theorem dX11_isTurn_43 : decode cX11_isTurn 43 = .ok (.invokestatic 130, 3) := by decide +kernel
theorem dX11_isTurn_46 : decode cX11_isTurn 46 = .ok (.ireturn, 1) := by decide +kernel
theorem dX11_isTurn_47 : decode cX11_isTurn 47 = .ok (.iload_n 1, 1) := by decide +kernel
theorem dX11_isTurn_48 : decode cX11_isTurn 48 = .ok (.ifCond .lt 14, 3) := by decide +kernel
theorem dX11_isTurn_51 : decode cX11_isTurn 51 = .ok (.iload_n 1, 1) := by decide +kernel
theorem dX11_isTurn_52 : decode cX11_isTurn 52 = .ok (.ldc_w 357, 3) := by decide +kernel
theorem dX11_isTurn_55 : decode cX11_isTurn 55 = .ok (.if_icmp .ge 7, 3) := by decide +kernel
theorem dX11_isTurn_58 : decode cX11_isTurn 58 = .ok (.iconst 1, 1) := by decide +kernel
theorem dX11_isTurn_59 : decode cX11_isTurn 59 = .ok (.goto 4, 3) := by decide +kernel
theorem dX11_isTurn_62 : decode cX11_isTurn 62 = .ok (.iconst 0, 1) := by decide +kernel
theorem dX11_isTurn_63 : decode cX11_isTurn 63 = .ok (.ireturn, 1) := by decide +kernel
theorem dX11_isTurn_64 : decode cX11_isTurn 64 = .ok (.iconst 0, 1) := by decide +kernel
theorem dX11_isTurn_65 : decode cX11_isTurn 65 = .ok (.ireturn, 1) := by decide +kernel
set_option maxHeartbeats 4000000 in
set_option maxRecDepth 100000 in
theorem kX11_isTurn (l : Launch) (G : g5_G) (sz : Nat) (n0 : Int32) (n1 : Int32) : Met l yX11_isTurn (wsG yX11_isTurn cX11_isTurn 2 (some .boolean)) ({ frames := 1, cells := 0, slots := 0, locals := 20 }) (va_Pc [.int n0, .int n1] (g5_P G [] sz)) (va_Qi (fun (r : Int32) (u : va_W) => ((n0 + 1).toInt = 1 ∧ n1.toInt < 0 ∧ r = 0 ∧ u = []) ∨ ((n0 + 1).toInt = 1 ∧ n1.toInt ≥ 0 ∧ n1.toInt ≥ 6 ∧ r = 0 ∧ u = []) ∨ ((n0 + 1).toInt = 1 ∧ n1.toInt ≥ 0 ∧ n1.toInt < 6 ∧ r = 1 ∧ u = []) ∨ ((n0 + 1).toInt = 2 ∧ n1.toInt < 0 ∧ r = 0 ∧ u = []) ∨ ((n0 + 1).toInt = 2 ∧ n1.toInt ≥ 0 ∧ n1.toInt ≥ 24 ∧ r = 0 ∧ u = []) ∨ ((n0 + 1).toInt = 2 ∧ n1.toInt ≥ 0 ∧ n1.toInt < 24 ∧ r = 1 ∧ u = []) ∨ ((n0 + 1).toInt = 3 ∧ n1.toInt < 0 ∧ r = 0 ∧ u = []) ∨ ((n0 + 1).toInt = 3 ∧ n1.toInt ≥ 0 ∧ n1.toInt > 10 ∧ r = 0 ∧ u = []) ∨ ((n0 + 1).toInt = 3 ∧ n1.toInt ≥ 0 ∧ n1.toInt ≤ 10 ∧ r = 1 ∧ u = []) ∨ ((n0 + 1).toInt = 4 ∧ n1.toInt < 0 ∧ r = 0 ∧ u = []) ∨ ((n0 + 1).toInt = 4 ∧ n1.toInt ≥ 0 ∧ n1.toInt ≥ 16777216 ∧ r = 0 ∧ u = []) ∨ ((n0 + 1).toInt = 4 ∧ n1.toInt ≥ 0 ∧ n1.toInt < 16777216 ∧ r = 1 ∧ u = []) ∨ ((n0 + 1).toInt < 1 ∧ r = 0 ∧ u = []) ∨ ((n0 + 1).toInt > 4 ∧ r = 0 ∧ u = [])) (g5_B G (va_A [] sz)) (va_A [] sz)) 0 0 (va_A [] sz) := by
  refine Met.ofW (cc := cX11_isTurn) (maxL := 2) (ret := (some .boolean)) (by decide) rfl ?_
  intro p e s m args below meth c s₁ B hml hv
  obtain ⟨rfl, hsz, hP, hK, hD0, hN⟩ := hv
  have hx := B.exec
  have hb := B.bytes
  have hr := B.returns
  have hts : ∀ w ∈ tblG, w.before _ s = true := fun w h => atoms_spec (ws := (wsG yX11_isTurn cX11_isTurn 2 (some .boolean))) B.pre w (List.mem_cons_of_mem _ h)
  have hown : s.vm.findClass RX11 = some m.cls := findClass_of_methodNamed B.named
  have hlocks := B.notSynchronized
  subst hsz
  have hD := hD0.self (sz := s.heap.size)
  generalize hAe : va_A [] s.heap.size = A at hD ⊢
  have hA : ∀ q : Nat, s.heap.size ≤ q → A q := fun q h => by rw [← hAe]; exact Or.inr h
  have hS : va_S A s.heap s.heap [] := va_S.rf
  have hP : va_P G.1 vwCl [] s.heap := hP
  have hl := lv_entry ([.int n0, .int n1]) (n := 2) (Nat.le_of_ble_eq_true rfl)
  rw [lg_entry_eq]
  generalize (lg_sl ([.int n0, .int n1]) ++ List.replicate (2 - (lg_sl ([.int n0, .int n1])).length) Slot.unset).toArray = ls at hl ⊢
  have hl : lv_has ls 2 [(0, .int n0), (1, .int n1)] := hl
  refine lv_iload_n hx hb dX11_isTurn_0 rfl (lv_at hl 0 rfl) ?_
  refine lv_iconst (v := 1) hx hb dX11_isTurn_1 (by decide) ?_
  refine lv_iadd hx hb dX11_isTurn_2 ?_
  rcases (show (n0 + 1).toInt = 1 ∨ (n0 + 1).toInt = 2 ∨ (n0 + 1).toInt = 3 ∨ (n0 + 1).toInt = 4 ∨ (n0 + 1).toInt < 1 ∨ (n0 + 1).toInt > 4 by omega) with s_1 | s_1 | s_1 | s_1 | s_1 | s_1
  ·
    have i_1 : (n0 + 1).toInt = 1 := by omega
    refine lv_tableIn (tgt := 32) hx hb dX11_isTurn_3 (by omega) (by omega) (by rw [s_1]; rfl) (by decide) ?_
    refine lv_iload_n hx hb dX11_isTurn_32 rfl (lv_at hl 1 rfl) ?_
    have hPc := hP.sub (ws' := []) [] rfl
    have hDc := hD.sub (ws' := []) [] (by decide) rfl
    have hFc := va_free (wc := []) hD hS hA [] rfl
    refine va_calli (va_runS (As := [.int n1]) (rest := []) ⟨hx, hb, hml, hown, hts⟩ (kX11_isSort l G s.heap.size n1) (va_cwS 1 hts gS_X11_124 rfl rfl rfl hs_X11_isSort ⟨Nat.le_of_ble_eq_true rfl, Nat.le_of_ble_eq_true rfl⟩) (g5_preS hPc hK hDc hN) rfl rfl hl.1 rfl (lv_room (Nat.le_of_ble_eq_true rfl)) dX11_isTurn_33 ⟨Nat.le_of_ble_eq_true rfl, Nat.le_of_ble_eq_true rfl⟩) hS (fun q _ h => hFc q h) hFc (fun r u t H1 locs ht hvm hw hB hz1 hk1 hS => ?_)
    obtain ⟨hP1, hD1⟩ := hB
    rw [ht] at hP1
    rcases hw with ⟨i_2, rfl, rfl⟩ | ⟨i_3, i_4, rfl, rfl⟩ | ⟨i_5, i_6, rfl, rfl⟩
    ·
      have hP := g5_same hP hk1
      generalize H1 = H at hP hS ⊢
      exact W.zret (v := 0) hx hb hr rfl (fun t ht hW => ⟨⟨0, [], rfl, Or.inl (⟨i_1, i_2, rfl, rfl⟩), by rw [ht]; exact hP, hD⟩, hS.F ht⟩) hS.2.2 dX11_isTurn_36
    ·
      have hP := g5_same hP hk1
      generalize H1 = H at hP hS ⊢
      exact W.zret (v := 0) hx hb hr rfl (fun t ht hW => ⟨⟨0, [], rfl, Or.inr (Or.inl (⟨i_1, i_3, i_4, rfl, rfl⟩)), by rw [ht]; exact hP, hD⟩, hS.F ht⟩) hS.2.2 dX11_isTurn_36
    ·
      have hP := g5_same hP hk1
      generalize H1 = H at hP hS ⊢
      exact W.zret (v := 1) hx hb hr rfl (fun t ht hW => ⟨⟨1, [], rfl, Or.inr (Or.inr (Or.inl (⟨i_1, i_5, i_6, rfl, rfl⟩))), by rw [ht]; exact hP, hD⟩, hS.F ht⟩) hS.2.2 dX11_isTurn_36
  ·
    have i_1 : (n0 + 1).toInt = 2 := by omega
    refine lv_tableIn (tgt := 37) hx hb dX11_isTurn_3 (by omega) (by omega) (by rw [s_1]; rfl) (by decide) ?_
    refine lv_iload_n hx hb dX11_isTurn_37 rfl (lv_at hl 1 rfl) ?_
    have hPc := hP.sub (ws' := []) [] rfl
    have hDc := hD.sub (ws' := []) [] (by decide) rfl
    have hFc := va_free (wc := []) hD hS hA [] rfl
    refine va_calli (va_runS (As := [.int n1]) (rest := []) ⟨hx, hb, hml, hown, hts⟩ (kX11_isHour l G s.heap.size n1) (va_cwS 1 hts gS_X11_127 rfl rfl rfl hs_X11_isHour ⟨Nat.le_of_ble_eq_true rfl, Nat.le_of_ble_eq_true rfl⟩) (g5_preS hPc hK hDc hN) rfl rfl hl.1 rfl (lv_room (Nat.le_of_ble_eq_true rfl)) dX11_isTurn_38 ⟨Nat.le_of_ble_eq_true rfl, Nat.le_of_ble_eq_true rfl⟩) hS (fun q _ h => hFc q h) hFc (fun r u t H1 locs ht hvm hw hB hz1 hk1 hS => ?_)
    obtain ⟨hP1, hD1⟩ := hB
    rw [ht] at hP1
    rcases hw with ⟨i_7, rfl, rfl⟩ | ⟨i_8, i_9, rfl, rfl⟩ | ⟨i_10, i_11, rfl, rfl⟩
    ·
      have hP := g5_same hP hk1
      generalize H1 = H at hP hS ⊢
      exact W.zret (v := 0) hx hb hr rfl (fun t ht hW => ⟨⟨0, [], rfl, Or.inr (Or.inr (Or.inr (Or.inl (⟨i_1, i_7, rfl, rfl⟩)))), by rw [ht]; exact hP, hD⟩, hS.F ht⟩) hS.2.2 dX11_isTurn_41
    ·
      have hP := g5_same hP hk1
      generalize H1 = H at hP hS ⊢
      exact W.zret (v := 0) hx hb hr rfl (fun t ht hW => ⟨⟨0, [], rfl, Or.inr (Or.inr (Or.inr (Or.inr (Or.inl (⟨i_1, i_8, i_9, rfl, rfl⟩))))), by rw [ht]; exact hP, hD⟩, hS.F ht⟩) hS.2.2 dX11_isTurn_41
    ·
      have hP := g5_same hP hk1
      generalize H1 = H at hP hS ⊢
      exact W.zret (v := 1) hx hb hr rfl (fun t ht hW => ⟨⟨1, [], rfl, Or.inr (Or.inr (Or.inr (Or.inr (Or.inr (Or.inl (⟨i_1, i_10, i_11, rfl, rfl⟩)))))), by rw [ht]; exact hP, hD⟩, hS.F ht⟩) hS.2.2 dX11_isTurn_41
  ·
    have i_1 : (n0 + 1).toInt = 3 := by omega
    refine lv_tableIn (tgt := 42) hx hb dX11_isTurn_3 (by omega) (by omega) (by rw [s_1]; rfl) (by decide) ?_
    refine lv_iload_n hx hb dX11_isTurn_42 rfl (lv_at hl 1 rfl) ?_
    have hPc := hP.sub (ws' := []) [] rfl
    have hDc := hD.sub (ws' := []) [] (by decide) rfl
    have hFc := va_free (wc := []) hD hS hA [] rfl
    refine va_calli (va_runS (As := [.int n1]) (rest := []) ⟨hx, hb, hml, hown, hts⟩ (kX11_isDust l G s.heap.size n1) (va_cwS 1 hts gS_X11_130 rfl rfl rfl hs_X11_isDust ⟨Nat.le_of_ble_eq_true rfl, Nat.le_of_ble_eq_true rfl⟩) (g5_preS hPc hK hDc hN) rfl rfl hl.1 rfl (lv_room (Nat.le_of_ble_eq_true rfl)) dX11_isTurn_43 ⟨Nat.le_of_ble_eq_true rfl, Nat.le_of_ble_eq_true rfl⟩) hS (fun q _ h => hFc q h) hFc (fun r u t H1 locs ht hvm hw hB hz1 hk1 hS => ?_)
    obtain ⟨hP1, hD1⟩ := hB
    rw [ht] at hP1
    rcases hw with ⟨i_12, rfl, rfl⟩ | ⟨i_13, i_14, rfl, rfl⟩ | ⟨i_15, i_16, rfl, rfl⟩
    ·
      have hP := g5_same hP hk1
      generalize H1 = H at hP hS ⊢
      exact W.zret (v := 0) hx hb hr rfl (fun t ht hW => ⟨⟨0, [], rfl, Or.inr (Or.inr (Or.inr (Or.inr (Or.inr (Or.inr (Or.inl (⟨i_1, i_12, rfl, rfl⟩))))))), by rw [ht]; exact hP, hD⟩, hS.F ht⟩) hS.2.2 dX11_isTurn_46
    ·
      have hP := g5_same hP hk1
      generalize H1 = H at hP hS ⊢
      exact W.zret (v := 0) hx hb hr rfl (fun t ht hW => ⟨⟨0, [], rfl, Or.inr (Or.inr (Or.inr (Or.inr (Or.inr (Or.inr (Or.inr (Or.inl (⟨i_1, i_13, i_14, rfl, rfl⟩)))))))), by rw [ht]; exact hP, hD⟩, hS.F ht⟩) hS.2.2 dX11_isTurn_46
    ·
      have hP := g5_same hP hk1
      generalize H1 = H at hP hS ⊢
      exact W.zret (v := 1) hx hb hr rfl (fun t ht hW => ⟨⟨1, [], rfl, Or.inr (Or.inr (Or.inr (Or.inr (Or.inr (Or.inr (Or.inr (Or.inr (Or.inl (⟨i_1, i_15, i_16, rfl, rfl⟩))))))))), by rw [ht]; exact hP, hD⟩, hS.F ht⟩) hS.2.2 dX11_isTurn_46
  ·
    have i_1 : (n0 + 1).toInt = 4 := by omega
    refine lv_tableIn (tgt := 47) hx hb dX11_isTurn_3 (by omega) (by omega) (by rw [s_1]; rfl) (by decide) ?_
    refine lv_iload_n hx hb dX11_isTurn_47 rfl (lv_at hl 1 rfl) ?_
    refine lv_if_lt (tgt := 62) hx hb dX11_isTurn_48 (by decide) (fun c_17 => ?_) (fun c_17 => ?_)
    ·
      have i_17 : n1.toInt < 0 := by have z := g5_lt (a := n1.toInt) (b := 0) (by rfl) (by decide) c_17; omega
      refine lv_iconst (v := 0) hx hb dX11_isTurn_62 (by decide) ?_
      exact W.zret (v := 0) hx hb hr rfl (fun t ht hW => ⟨⟨0, [], rfl, Or.inr (Or.inr (Or.inr (Or.inr (Or.inr (Or.inr (Or.inr (Or.inr (Or.inr (Or.inl (⟨i_1, i_17, rfl, rfl⟩)))))))))), by rw [ht]; exact hP, hD⟩, hS.F ht⟩) hS.2.2 dX11_isTurn_63
    ·
      have i_17 : n1.toInt ≥ 0 := by have z := g5_ltN (a := n1.toInt) (b := 0) (by rfl) (by decide) c_17; omega
      refine lv_iload_n hx hb dX11_isTurn_51 rfl (lv_at hl 1 rfl) ?_
      refine lv_ldcw (v := 16777216) hx hb hown (hts _ ki_X11_357) dX11_isTurn_52 ?_
      refine lv_icmp_ge (tgt := 62) hx hb dX11_isTurn_55 (by decide) (fun c_18 => ?_) (fun c_18 => ?_)
      ·
        have i_18 : n1.toInt ≥ 16777216 := by have z := g5_ge (a := n1.toInt) (b := 16777216) (by rfl) (by decide) c_18; omega
        refine lv_iconst (v := 0) hx hb dX11_isTurn_62 (by decide) ?_
        exact W.zret (v := 0) hx hb hr rfl (fun t ht hW => ⟨⟨0, [], rfl, Or.inr (Or.inr (Or.inr (Or.inr (Or.inr (Or.inr (Or.inr (Or.inr (Or.inr (Or.inr (Or.inl (⟨i_1, i_17, i_18, rfl, rfl⟩))))))))))), by rw [ht]; exact hP, hD⟩, hS.F ht⟩) hS.2.2 dX11_isTurn_63
      ·
        have i_18 : n1.toInt < 16777216 := by have z := g5_geN (a := n1.toInt) (b := 16777216) (by rfl) (by decide) c_18; omega
        refine lv_iconst (v := 1) hx hb dX11_isTurn_58 (by decide) ?_
        refine lv_goto (tgt := 63) hx hb dX11_isTurn_59 (by decide) ?_
        exact W.zret (v := 1) hx hb hr rfl (fun t ht hW => ⟨⟨1, [], rfl, Or.inr (Or.inr (Or.inr (Or.inr (Or.inr (Or.inr (Or.inr (Or.inr (Or.inr (Or.inr (Or.inr (Or.inl (⟨i_1, i_17, i_18, rfl, rfl⟩)))))))))))), by rw [ht]; exact hP, hD⟩, hS.F ht⟩) hS.2.2 dX11_isTurn_63
  ·
    have i_1 : (n0 + 1).toInt < 1 := by omega
    refine lv_tableOut (tgt := 64) hx hb dX11_isTurn_3 (by omega) (by decide) ?_
    refine lv_iconst (v := 0) hx hb dX11_isTurn_64 (by decide) ?_
    exact W.zret (v := 0) hx hb hr rfl (fun t ht hW => ⟨⟨0, [], rfl, Or.inr (Or.inr (Or.inr (Or.inr (Or.inr (Or.inr (Or.inr (Or.inr (Or.inr (Or.inr (Or.inr (Or.inr (Or.inl (⟨i_1, rfl, rfl⟩))))))))))))), by rw [ht]; exact hP, hD⟩, hS.F ht⟩) hS.2.2 dX11_isTurn_65
  ·
    have i_1 : (n0 + 1).toInt > 4 := by omega
    refine lv_tableOut (tgt := 64) hx hb dX11_isTurn_3 (by omega) (by decide) ?_
    refine lv_iconst (v := 0) hx hb dX11_isTurn_64 (by decide) ?_
    exact W.zret (v := 0) hx hb hr rfl (fun t ht hW => ⟨⟨0, [], rfl, Or.inr (Or.inr (Or.inr (Or.inr (Or.inr (Or.inr (Or.inr (Or.inr (Or.inr (Or.inr (Or.inr (Or.inr (Or.inr (⟨i_1, rfl, rfl⟩))))))))))))), by rw [ht]; exact hP, hD⟩, hS.F ht⟩) hS.2.2 dX11_isTurn_65