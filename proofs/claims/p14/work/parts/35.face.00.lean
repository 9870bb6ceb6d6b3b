set_option maxHeartbeats 4000000 in
set_option maxRecDepth 100000 in
theorem x_isCell (l : Launch) (G : g5_G) (sz : Nat) (p_v : Int32) : Met l yX11_isCell (wsG yX11_isCell cX11_isCell 1 (some .boolean)) ({ frames := 0, cells := 0, slots := 0, locals := 0 }) (va_Pc [.int p_v] (g5_P G [] sz)) (va_Qi (fun (r : Int32) (u : va_W) => ((0 ≤ p_v.toInt ∧ p_v.toInt ≤ 63) ∧ (r = 1) ∧ (u = [])) ∨ ((r = 0) ∧ (u = []))) (g5_B G (va_A [] sz)) (va_A [] sz)) 0 0 (va_A [] sz) := by
  refine Met.ofW (cc := cX11_isCell) (maxL := 1) (ret := (some .boolean)) (by decide) rfl ?_
  intro p e s m args below meth c s₁ B hml hv
  obtain ⟨rfl, hsz, hP, hK, hD0, hN, hT⟩ := hv
  have hx := B.exec
  have hb := B.bytes
  have hr := B.returns
  have hts : ∀ w ∈ tblG, w.before _ s = true := fun w h => atoms_spec (ws := (wsG yX11_isCell cX11_isCell 1 (some .boolean))) B.pre w (List.mem_cons_of_mem _ h)
  have hown : s.vm.findClass RX11 = some m.cls := findClass_of_methodNamed B.named
  have hlocks := B.notSynchronized
  subst hsz
  have hD := hD0.self (sz := s.heap.size)
  generalize hAe : va_A [] s.heap.size = A at hD hT ⊢
  have hA : ∀ q : Nat, s.heap.size ≤ q → A q := fun q h => by rw [← hAe]; exact Or.inr h
  have hS : va_S A s.heap s.heap [] := va_S.rf
  have hP : va_P G.1 vwCl [] s.heap := hP
  have hl := lv_entry ([.int p_v]) (n := 1) (Nat.le_of_ble_eq_true rfl)
  rw [lg_entry_eq]
  generalize (lg_sl ([.int p_v]) ++ List.replicate (1 - (lg_sl ([.int p_v])).length) Slot.unset).toArray = ls at hl ⊢
  have hl : lv_has ls 1 [(0, .int p_v)] := hl
  refine lv_iload_n hx hb dX11_isCell_0 rfl (lv_at hl 0 rfl) ?_
  refine lv_if_lt (tgt := 14) hx hb dX11_isCell_1 (by decide) (fun c_1 => ?_) (fun c_1 => ?_)
  ·
    have i_1 : p_v.toInt < 0 := by have z := g5_lt (a := p_v.toInt) (b := 0) (by rfl) (by decide) c_1; omega
    refine lv_iconst (v := 0) hx hb dX11_isCell_14 (by decide) ?_
    exact W.zret (v := 0) hx hb hr rfl (fun t ht hW => ⟨⟨0, [], rfl, Or.inr (⟨rfl, rfl⟩), by rw [ht]; exact hP.sub [] rfl, hD.sub [] (by decide) rfl⟩, hS.F ht⟩) hS.2.2 dX11_isCell_15
  ·
    have i_1 : p_v.toInt ≥ 0 := by have z := g5_ltN (a := p_v.toInt) (b := 0) (by rfl) (by decide) c_1; omega
    refine lv_iload_n hx hb dX11_isCell_4 rfl (lv_at hl 0 rfl) ?_
    refine lv_bipush (v := 64) hx hb dX11_isCell_5 (by decide) ?_
    refine lv_icmp_ge (tgt := 14) hx hb dX11_isCell_7 (by decide) (fun c_2 => ?_) (fun c_2 => ?_)
    ·
      have i_2 : p_v.toInt ≥ 64 := by have z := g5_ge (a := p_v.toInt) (b := 64) (by rfl) (by decide) c_2; omega
      refine lv_iconst (v := 0) hx hb dX11_isCell_14 (by decide) ?_
      exact W.zret (v := 0) hx hb hr rfl (fun t ht hW => ⟨⟨0, [], rfl, Or.inr (⟨rfl, rfl⟩), by rw [ht]; exact hP.sub [] rfl, hD.sub [] (by decide) rfl⟩, hS.F ht⟩) hS.2.2 dX11_isCell_15
    ·
      have i_2 : p_v.toInt < 64 := by have z := g5_geN (a := p_v.toInt) (b := 64) (by rfl) (by decide) c_2; omega
      refine lv_iconst (v := 1) hx hb dX11_isCell_10 (by decide) ?_
      refine lv_goto (tgt := 15) hx hb dX11_isCell_11 (by decide) ?_
      exact W.zret (v := 1) hx hb hr rfl (fun t ht hW => ⟨⟨1, [], rfl, Or.inl (⟨by omega, rfl, rfl⟩), by rw [ht]; exact hP.sub [] rfl, hD.sub [] (by decide) rfl⟩, hS.F ht⟩) hS.2.2 dX11_isCell_15
theorem dgX11_isCellOrNone_0 : ∀ r ∈ ([(0, (.iload_n 0, 1)), (1, (.iconst (-1), 1)), (2, (.if_icmp .lt 13, 3)), (5, (.iload_n 0, 1)), (6, (.bipush 64, 2)), (8, (.if_icmp .ge 7, 3)), (11, (.iconst 1, 1)), (12, (.goto 4, 3)), (15, (.iconst 0, 1)), (16, (.ireturn, 1))] : List (Nat × (Instr × Nat))), decode cX11_isCellOrNone r.1 = .ok r.2 := by decide +kernel
theorem dX11_isCellOrNone_0 : decode cX11_isCellOrNone 0 = .ok (.iload_n 0, 1) := dgX11_isCellOrNone_0 (0, (.iload_n 0, 1)) (List.mem_of_getElem? (i := 0) rfl)
theorem dX11_isCellOrNone_1 : decode cX11_isCellOrNone 1 = .ok (.iconst (-1), 1) := dgX11_isCellOrNone_0 (1, (.iconst (-1), 1)) (List.mem_of_getElem? (i := 1) rfl)
theorem dX11_isCellOrNone_2 : decode cX11_isCellOrNone 2 = .ok (.if_icmp .lt 13, 3) := dgX11_isCellOrNone_0 (2, (.if_icmp .lt 13, 3)) (List.mem_of_getElem? (i := 2) rfl)
theorem dX11_isCellOrNone_5 : decode cX11_isCellOrNone 5 = .ok (.iload_n 0, 1) := dgX11_isCellOrNone_0 (5, (.iload_n 0, 1)) (List.mem_of_getElem? (i := 3) rfl)
theorem dX11_isCellOrNone_6 : decode cX11_isCellOrNone 6 = .ok (.bipush 64, 2) := dgX11_isCellOrNone_0 (6, (.bipush 64, 2)) (List.mem_of_getElem? (i := 4) rfl)
theorem dX11_isCellOrNone_8 : decode cX11_isCellOrNone 8 = .ok (.if_icmp .ge 7, 3) := dgX11_isCellOrNone_0 (8, (.if_icmp .ge 7, 3)) (List.mem_of_getElem? (i := 5) rfl)
theorem dX11_isCellOrNone_11 : decode cX11_isCellOrNone 11 = .ok (.iconst 1, 1) := dgX11_isCellOrNone_0 (11, (.iconst 1, 1)) (List.mem_of_getElem? (i := 6) rfl)
theorem dX11_isCellOrNone_12 : decode cX11_isCellOrNone 12 = .ok (.goto 4, 3) := dgX11_isCellOrNone_0 (12, (.goto 4, 3)) (List.mem_of_getElem? (i := 7) rfl)
theorem dX11_isCellOrNone_15 : decode cX11_isCellOrNone 15 = .ok (.iconst 0, 1) := dgX11_isCellOrNone_0 (15, (.iconst 0, 1)) (List.mem_of_getElem? (i := 8) rfl)
theorem dX11_isCellOrNone_16 : decode cX11_isCellOrNone 16 = .ok (.ireturn, 1) := dgX11_isCellOrNone_0 (16, (.ireturn, 1)) (List.mem_of_getElem? (i := 9) rfl)
set_option maxHeartbeats 4000000 in
set_option maxRecDepth 100000 in
theorem x_isCellOrNone (l : Launch) (G : g5_G) (sz : Nat) (p_v : Int32) : Met l yX11_isCellOrNone (wsG yX11_isCellOrNone cX11_isCellOrNone 1 (some .boolean)) ({ frames := 0, cells := 0, slots := 0, locals := 0 }) (va_Pc [.int p_v] (g5_P G [] sz)) (va_Qi (fun (r : Int32) (u : va_W) => (((-1) ≤ p_v.toInt ∧ p_v.toInt ≤ 63) ∧ (r = 1) ∧ (u = [])) ∨ ((r = 0) ∧ (u = []))) (g5_B G (va_A [] sz)) (va_A [] sz)) 0 0 (va_A [] sz) := by
  refine Met.ofW (cc := cX11_isCellOrNone) (maxL := 1) (ret := (some .boolean)) (by decide) rfl ?_
  intro p e s m args below meth c s₁ B hml hv
  obtain ⟨rfl, hsz, hP, hK, hD0, hN, hT⟩ := hv
  have hx := B.exec
  have hb := B.bytes
  have hr := B.returns
  have hts : ∀ w ∈ tblG, w.before _ s = true := fun w h => atoms_spec (ws := (wsG yX11_isCellOrNone cX11_isCellOrNone 1 (some .boolean))) B.pre w (List.mem_cons_of_mem _ h)
  have hown : s.vm.findClass RX11 = some m.cls := findClass_of_methodNamed B.named
  have hlocks := B.notSynchronized
  subst hsz
  have hD := hD0.self (sz := s.heap.size)
  generalize hAe : va_A [] s.heap.size = A at hD hT ⊢
  have hA : ∀ q : Nat, s.heap.size ≤ q → A q := fun q h => by rw [← hAe]; exact Or.inr h
  have hS : va_S A s.heap s.heap [] := va_S.rf
  have hP : va_P G.1 vwCl [] s.heap := hP
  have hl := lv_entry ([.int p_v]) (n := 1) (Nat.le_of_ble_eq_true rfl)
  rw [lg_entry_eq]
  generalize (lg_sl ([.int p_v]) ++ List.replicate (1 - (lg_sl ([.int p_v])).length) Slot.unset).toArray = ls at hl ⊢
  have hl : lv_has ls 1 [(0, .int p_v)] := hl
  refine lv_iload_n hx hb dX11_isCellOrNone_0 rfl (lv_at hl 0 rfl) ?_
  refine lv_iconst (v := (-1)) hx hb dX11_isCellOrNone_1 (by decide) ?_
  refine lv_icmp_lt (tgt := 15) hx hb dX11_isCellOrNone_2 (by decide) (fun c_1 => ?_) (fun c_1 => ?_)
  ·
    have i_1 : p_v.toInt < (-1) := by have z := g5_lt (a := p_v.toInt) (b := (-1)) (by rfl) (by decide) c_1; omega
    refine lv_iconst (v := 0) hx hb dX11_isCellOrNone_15 (by decide) ?_
    exact W.zret (v := 0) hx hb hr rfl (fun t ht hW => ⟨⟨0, [], rfl, Or.inr (⟨rfl, rfl⟩), by rw [ht]; exact hP.sub [] rfl, hD.sub [] (by decide) rfl⟩, hS.F ht⟩) hS.2.2 dX11_isCellOrNone_16
  ·
    have i_1 : p_v.toInt ≥ (-1) := by have z := g5_ltN (a := p_v.toInt) (b := (-1)) (by rfl) (by decide) c_1; omega
    refine lv_iload_n hx hb dX11_isCellOrNone_5 rfl (lv_at hl 0 rfl) ?_
    refine lv_bipush (v := 64) hx hb dX11_isCellOrNone_6 (by decide) ?_
    refine lv_icmp_ge (tgt := 15) hx hb dX11_isCellOrNone_8 (by decide) (fun c_2 => ?_) (fun c_2 => ?_)
    ·
      have i_2 : p_v.toInt ≥ 64 := by have z := g5_ge (a := p_v.toInt) (b := 64) (by rfl) (by decide) c_2; omega
      refine lv_iconst (v := 0) hx hb dX11_isCellOrNone_15 (by decide) ?_
      exact W.zret (v := 0) hx hb hr rfl (fun t ht hW => ⟨⟨0, [], rfl, Or.inr (⟨rfl, rfl⟩), by rw [ht]; exact hP.sub [] rfl, hD.sub [] (by decide) rfl⟩, hS.F ht⟩) hS.2.2 dX11_isCellOrNone_16
    ·
      have i_2 : p_v.toInt < 64 := by have z := g5_geN (a := p_v.toInt) (b := 64) (by rfl) (by decide) c_2; omega
      refine lv_iconst (v := 1) hx hb dX11_isCellOrNone_11 (by decide) ?_
      refine lv_goto (tgt := 16) hx hb dX11_isCellOrNone_12 (by decide) ?_
      exact W.zret (v := 1) hx hb hr rfl (fun t ht hW => ⟨⟨1, [], rfl, Or.inl (⟨by omega, rfl, rfl⟩), by rw [ht]; exact hP.sub [] rfl, hD.sub [] (by decide) rfl⟩, hS.F ht⟩) hS.2.2 dX11_isCellOrNone_16
set_option maxHeartbeats 4000000 in
set_option maxRecDepth 100000 in
theorem x_isHour (l : Launch) (G : g5_G) (sz : Nat) (p_v : Int32) : Met l yX11_isHour (wsG yX11_isHour cX11_isHour 1 (some .boolean)) ({ frames := 0, cells := 0, slots := 0, locals := 0 }) (va_Pc [.int p_v] (g5_P G [] sz)) (va_Qi (fun (r : Int32) (u : va_W) => ((0 ≤ p_v.toInt ∧ p_v.toInt ≤ 23) ∧ (r = 1) ∧ (u = [])) ∨ ((r = 0) ∧ (u = []))) (g5_B G (va_A [] sz)) (va_A [] sz)) 0 0 (va_A [] sz) := by
  refine Met.ofW (cc := cX11_isHour) (maxL := 1) (ret := (some .boolean)) (by decide) rfl ?_
  intro p e s m args below meth c s₁ B hml hv
  obtain ⟨rfl, hsz, hP, hK, hD0, hN, hT⟩ := hv
  have hx := B.exec
  have hb := B.bytes
  have hr := B.returns
  have hts : ∀ w ∈ tblG, w.before _ s = true := fun w h => atoms_spec (ws := (wsG yX11_isHour cX11_isHour 1 (some .boolean))) B.pre w (List.mem_cons_of_mem _ h)
  have hown : s.vm.findClass RX11 = some m.cls := findClass_of_methodNamed B.named
  have hlocks := B.notSynchronized
  subst hsz
  have hD := hD0.self (sz := s.heap.size)
  generalize hAe : va_A [] s.heap.size = A at hD hT ⊢
  have hA : ∀ q : Nat, s.heap.size ≤ q → A q := fun q h => by rw [← hAe]; exact Or.inr h
  have hS : va_S A s.heap s.heap [] := va_S.rf
  have hP : va_P G.1 vwCl [] s.heap := hP
  have hl := lv_entry ([.int p_v]) (n := 1) (Nat.le_of_ble_eq_true rfl)
  rw [lg_entry_eq]
  generalize (lg_sl ([.int p_v]) ++ List.replicate (1 - (lg_sl ([.int p_v])).length) Slot.unset).toArray = ls at hl ⊢
  have hl : lv_has ls 1 [(0, .int p_v)] := hl
  refine lv_iload_n hx hb dX11_isHour_0 rfl (lv_at hl 0 rfl) ?_
  refine lv_if_lt (tgt := 14) hx hb dX11_isHour_1 (by decide) (fun c_1 => ?_) (fun c_1 => ?_)
  ·
    have i_1 : p_v.toInt < 0 := by have z := g5_lt (a := p_v.toInt) (b := 0) (by rfl) (by decide) c_1; omega
    refine lv_iconst (v := 0) hx hb dX11_isHour_14 (by decide) ?_
    exact W.zret (v := 0) hx hb hr rfl (fun t ht hW => ⟨⟨0, [], rfl, Or.inr (⟨rfl, rfl⟩), by rw [ht]; exact hP.sub [] rfl, hD.sub [] (by decide) rfl⟩, hS.F ht⟩) hS.2.2 dX11_isHour_15
  ·
    have i_1 : p_v.toInt ≥ 0 := by have z := g5_ltN (a := p_v.toInt) (b := 0) (by rfl) (by decide) c_1; omega
    refine lv_iload_n hx hb dX11_isHour_4 rfl (lv_at hl 0 rfl) ?_
    refine lv_bipush (v := 24) hx hb dX11_isHour_5 (by decide) ?_
    refine lv_icmp_ge (tgt := 14) hx hb dX11_isHour_7 (by decide) (fun c_2 => ?_) (fun c_2 => ?_)
    ·
      have i_2 : p_v.toInt ≥ 24 := by have z := g5_ge (a := p_v.toInt) (b := 24) (by rfl) (by decide) c_2; omega
      refine lv_iconst (v := 0) hx hb dX11_isHour_14 (by decide) ?_
      exact W.zret (v := 0) hx hb hr rfl (fun t ht hW => ⟨⟨0, [], rfl, Or.inr (⟨rfl, rfl⟩), by rw [ht]; exact hP.sub [] rfl, hD.sub [] (by decide) rfl⟩, hS.F ht⟩) hS.2.2 dX11_isHour_15
    ·
      have i_2 : p_v.toInt < 24 := by have z := g5_geN (a := p_v.toInt) (b := 24) (by rfl) (by decide) c_2; omega
      refine lv_iconst (v := 1) hx hb dX11_isHour_10 (by decide) ?_
      refine lv_goto (tgt := 15) hx hb dX11_isHour_11 (by decide) ?_
      exact W.zret (v := 1) hx hb hr rfl (fun t ht hW => ⟨⟨1, [], rfl, Or.inl (⟨by omega, rfl, rfl⟩), by rw [ht]; exact hP.sub [] rfl, hD.sub [] (by decide) rfl⟩, hS.F ht⟩) hS.2.2 dX11_isHour_15
theorem dgX11_isSort_0 : ∀ r ∈ ([(0, (.iload_n 0, 1)), (1, (.ifCond .lt 13, 3)), (4, (.iload_n 0, 1)), (5, (.bipush 6, 2)), (7, (.if_icmp .ge 7, 3)), (10, (.iconst 1, 1)), (11, (.goto 4, 3)), (14, (.iconst 0, 1)), (15, (.ireturn, 1))] : List (Nat × (Instr × Nat))), decode cX11_isSort r.1 = .ok r.2 := by decide +kernel
theorem dX11_isSort_0 : decode cX11_isSort 0 = .ok (.iload_n 0, 1) := dgX11_isSort_0 (0, (.iload_n 0, 1)) (List.mem_of_getElem? (i := 0) rfl)
theorem dX11_isSort_1 : decode cX11_isSort 1 = .ok (.ifCond .lt 13, 3) := dgX11_isSort_0 (1, (.ifCond .lt 13, 3)) (List.mem_of_getElem? (i := 1) rfl)
theorem dX11_isSort_4 : decode cX11_isSort 4 = .ok (.iload_n 0, 1) := dgX11_isSort_0 (4, (.iload_n 0, 1)) (List.mem_of_getElem? (i := 2) rfl)
theorem dX11_isSort_5 : decode cX11_isSort 5 = .ok (.bipush 6, 2) := dgX11_isSort_0 (5, (.bipush 6, 2)) (List.mem_of_getElem? (i := 3) rfl)
theorem dX11_isSort_7 : decode cX11_isSort 7 = .ok (.if_icmp .ge 7, 3) := dgX11_isSort_0 (7, (.if_icmp .ge 7, 3)) (List.mem_of_getElem? (i := 4) rfl)
theorem dX11_isSort_10 : decode cX11_isSort 10 = .ok (.iconst 1, 1) := dgX11_isSort_0 (10, (.iconst 1, 1)) (List.mem_of_getElem? (i := 5) rfl)
theorem dX11_isSort_11 : decode cX11_isSort 11 = .ok (.goto 4, 3) := dgX11_isSort_0 (11, (.goto 4, 3)) (List.mem_of_getElem? (i := 6) rfl)
theorem dX11_isSort_14 : decode cX11_isSort 14 = .ok (.iconst 0, 1) := dgX11_isSort_0 (14, (.iconst 0, 1)) (List.mem_of_getElem? (i := 7) rfl)
theorem dX11_isSort_15 : decode cX11_isSort 15 = .ok (.ireturn, 1) := dgX11_isSort_0 (15, (.ireturn, 1)) (List.mem_of_getElem? (i := 8) rfl)
theorem dgX11_isDust_0 : ∀ r ∈ ([(0, (.iload_n 0, 1)), (1, (.ifCond .lt 13, 3)), (4, (.iload_n 0, 1)), (5, (.bipush 10, 2)), (7, (.if_icmp .gt 7, 3)), (10, (.iconst 1, 1)), (11, (.goto 4, 3)), (14, (.iconst 0, 1)), (15, (.ireturn, 1))] : List (Nat × (Instr × Nat))), decode cX11_isDust r.1 = .ok r.2 := by decide +kernel
theorem dX11_isDust_0 : decode cX11_isDust 0 = .ok (.iload_n 0, 1) := dgX11_isDust_0 (0, (.iload_n 0, 1)) (List.mem_of_getElem? (i := 0) rfl)
theorem dX11_isDust_1 : decode cX11_isDust 1 = .ok (.ifCond .lt 13, 3) := dgX11_isDust_0 (1, (.ifCond .lt 13, 3)) (List.mem_of_getElem? (i := 1) rfl)
theorem dX11_isDust_4 : decode cX11_isDust 4 = .ok (.iload_n 0, 1) := dgX11_isDust_0 (4, (.iload_n 0, 1)) (List.mem_of_getElem? (i := 2) rfl)
theorem dX11_isDust_5 : decode cX11_isDust 5 = .ok (.bipush 10, 2) := dgX11_isDust_0 (5, (.bipush 10, 2)) (List.mem_of_getElem? (i := 3) rfl)
theorem dX11_isDust_7 : decode cX11_isDust 7 = .ok (.if_icmp .gt 7, 3) := dgX11_isDust_0 (7, (.if_icmp .gt 7, 3)) (List.mem_of_getElem? (i := 4) rfl)
theorem dX11_isDust_10 : decode cX11_isDust 10 = .ok (.iconst 1, 1) := dgX11_isDust_0 (10, (.iconst 1, 1)) (List.mem_of_getElem? (i := 5) rfl)
theorem dX11_isDust_11 : decode cX11_isDust 11 = .ok (.goto 4, 3) := dgX11_isDust_0 (11, (.goto 4, 3)) (List.mem_of_getElem? (i := 6) rfl)
theorem dX11_isDust_14 : decode cX11_isDust 14 = .ok (.iconst 0, 1) := dgX11_isDust_0 (14, (.iconst 0, 1)) (List.mem_of_getElem? (i := 7) rfl)
theorem dX11_isDust_15 : decode cX11_isDust 15 = .ok (.ireturn, 1) := dgX11_isDust_0 (15, (.ireturn, 1)) (List.mem_of_getElem? (i := 8) rfl)
theorem dgX11_isFlag_0 : ∀ r ∈ ([(0, (.iload_n 0, 1)), (1, (.ifCond .eq 8, 3)), (4, (.iload_n 0, 1)), (5, (.iconst 1, 1)), (6, (.if_icmp .ne 7, 3)), (9, (.iconst 1, 1)), (10, (.goto 4, 3)), (13, (.iconst 0, 1)), (14, (.ireturn, 1))] : List (Nat × (Instr × Nat))), decode cX11_isFlag r.1 = .ok r.2 := by decide +kernel
theorem dX11_isFlag_0 : decode cX11_isFlag 0 = .ok (.iload_n 0, 1) := dgX11_isFlag_0 (0, (.iload_n 0, 1)) (List.mem_of_getElem? (i := 0) rfl)
theorem dX11_isFlag_1 : decode cX11_isFlag 1 = .ok (.ifCond .eq 8, 3) := dgX11_isFlag_0 (1, (.ifCond .eq 8, 3)) (List.mem_of_getElem? (i := 1) rfl)
theorem dX11_isFlag_4 : decode cX11_isFlag 4 = .ok (.iload_n 0, 1) := dgX11_isFlag_0 (4, (.iload_n 0, 1)) (List.mem_of_getElem? (i := 2) rfl)
theorem dX11_isFlag_5 : decode cX11_isFlag 5 = .ok (.iconst 1, 1) := dgX11_isFlag_0 (5, (.iconst 1, 1)) (List.mem_of_getElem? (i := 3) rfl)
theorem dX11_isFlag_6 : decode cX11_isFlag 6 = .ok (.if_icmp .ne 7, 3) := dgX11_isFlag_0 (6, (.if_icmp .ne 7, 3)) (List.mem_of_getElem? (i := 4) rfl)
theorem dX11_isFlag_9 : decode cX11_isFlag 9 = .ok (.iconst 1, 1) := dgX11_isFlag_0 (9, (.iconst 1, 1)) (List.mem_of_getElem? (i := 5) rfl)
theorem dX11_isFlag_10 : decode cX11_isFlag 10 = .ok (.goto 4, 3) := dgX11_isFlag_0 (10, (.goto 4, 3)) (List.mem_of_getElem? (i := 6) rfl)
theorem dX11_isFlag_13 : decode cX11_isFlag 13 = .ok (.iconst 0, 1) := dgX11_isFlag_0 (13, (.iconst 0, 1)) (List.mem_of_getElem? (i := 7) rfl)
theorem dX11_isFlag_14 : decode cX11_isFlag 14 = .ok (.ireturn, 1) := dgX11_isFlag_0 (14, (.ireturn, 1)) (List.mem_of_getElem? (i := 8) rfl)
theorem dgX11_isImage_0 : ∀ r ∈ ([(0, (.iload_n 0, 1)), (1, (.ifCond .lt 12, 3)), (4, (.iload_n 0, 1)), (5, (.iconst 2, 1)), (6, (.if_icmp .ge 7, 3)), (9, (.iconst 1, 1)), (10, (.goto 4, 3)), (13, (.iconst 0, 1)), (14, (.ireturn, 1))] : List (Nat × (Instr × Nat))), decode cX11_isImage r.1 = .ok r.2 := by decide +kernel
theorem dX11_isImage_0 : decode cX11_isImage 0 = .ok (.iload_n 0, 1) := dgX11_isImage_0 (0, (.iload_n 0, 1)) (List.mem_of_getElem? (i := 0) rfl)
theorem dX11_isImage_1 : decode cX11_isImage 1 = .ok (.ifCond .lt 12, 3) := dgX11_isImage_0 (1, (.ifCond .lt 12, 3)) (List.mem_of_getElem? (i := 1) rfl)
theorem dX11_isImage_4 : decode cX11_isImage 4 = .ok (.iload_n 0, 1) := dgX11_isImage_0 (4, (.iload_n 0, 1)) (List.mem_of_getElem? (i := 2) rfl)
theorem dX11_isImage_5 : decode cX11_isImage 5 = .ok (.iconst 2, 1) := dgX11_isImage_0 (5, (.iconst 2, 1)) (List.mem_of_getElem? (i := 3) rfl)
theorem dX11_isImage_6 : decode cX11_isImage 6 = .ok (.if_icmp .ge 7, 3) := dgX11_isImage_0 (6, (.if_icmp .ge 7, 3)) (List.mem_of_getElem? (i := 4) rfl)
theorem dX11_isImage_9 : decode cX11_isImage 9 = .ok (.iconst 1, 1) := dgX11_isImage_0 (9, (.iconst 1, 1)) (List.mem_of_getElem? (i := 5) rfl)
theorem dX11_isImage_10 : decode cX11_isImage 10 = .ok (.goto 4, 3) := dgX11_isImage_0 (10, (.goto 4, 3)) (List.mem_of_getElem? (i := 6) rfl)
theorem dX11_isImage_13 : decode cX11_isImage 13 = .ok (.iconst 0, 1) := dgX11_isImage_0 (13, (.iconst 0, 1)) (List.mem_of_getElem? (i := 7) rfl)
theorem dX11_isImage_14 : decode cX11_isImage 14 = .ok (.ireturn, 1) := dgX11_isImage_0 (14, (.ireturn, 1)) (List.mem_of_getElem? (i := 8) rfl)
set_option maxHeartbeats 4000000 in
set_option maxRecDepth 100000 in
theorem x_isImage (l : Launch) (G : g5_G) (sz : Nat) (p_v : Int32) : Met l yX11_isImage (wsG yX11_isImage cX11_isImage 1 (some .boolean)) ({ frames := 0, cells := 0, slots := 0, locals := 0 }) (va_Pc [.int p_v] (g5_P G [] sz)) (va_Qi (fun (r : Int32) (u : va_W) => ((0 ≤ p_v.toInt ∧ p_v.toInt ≤ 1) ∧ (r = 1) ∧ (u = [])) ∨ ((p_v.toInt < 0 ∨ 1 < p_v.toInt) ∧ (r = 0) ∧ (u = []))) (g5_B G (va_A [] sz)) (va_A [] sz)) 0 0 (va_A [] sz) := by
  refine Met.ofW (cc := cX11_isImage) (maxL := 1) (ret := (some .boolean)) (by decide) rfl ?_
  intro p e s m args below meth c s₁ B hml hv
  obtain ⟨rfl, hsz, hP, hK, hD0, hN, hT⟩ := hv
  have hx := B.exec
  have hb := B.bytes
  have hr := B.returns
  have hts : ∀ w ∈ tblG, w.before _ s = true := fun w h => atoms_spec (ws := (wsG yX11_isImage cX11_isImage 1 (some .boolean))) B.pre w (List.mem_cons_of_mem _ h)
  have hown : s.vm.findClass RX11 = some m.cls := findClass_of_methodNamed B.named
  have hlocks := B.notSynchronized
  subst hsz
  have hD := hD0.self (sz := s.heap.size)
  generalize hAe : va_A [] s.heap.size = A at hD hT ⊢
  have hA : ∀ q : Nat, s.heap.size ≤ q → A q := fun q h => by rw [← hAe]; exact Or.inr h
  have hS : va_S A s.heap s.heap [] := va_S.rf
  have hP : va_P G.1 vwCl [] s.heap := hP
  have hl := lv_entry ([.int p_v]) (n := 1) (Nat.le_of_ble_eq_true rfl)
  rw [lg_entry_eq]
  generalize (lg_sl ([.int p_v]) ++ List.replicate (1 - (lg_sl ([.int p_v])).length) Slot.unset).toArray = ls at hl ⊢
  have hl : lv_has ls 1 [(0, .int p_v)] := hl
  refine lv_iload_n hx hb dX11_isImage_0 rfl (lv_at hl 0 rfl) ?_
  refine lv_if_lt (tgt := 13) hx hb dX11_isImage_1 (by decide) (fun c_1 => ?_) (fun c_1 => ?_)
  ·
    have i_1 : p_v.toInt < 0 := by have z := g5_lt (a := p_v.toInt) (b := 0) (by rfl) (by decide) c_1; omega
    refine lv_iconst (v := 0) hx hb dX11_isImage_13 (by decide) ?_
    exact W.zret (v := 0) hx hb hr rfl (fun t ht hW => ⟨⟨0, [], rfl, Or.inr (⟨by omega, rfl, rfl⟩), by rw [ht]; exact hP.sub [] rfl, hD.sub [] (by decide) rfl⟩, hS.F ht⟩) hS.2.2 dX11_isImage_14
  ·
    have i_1 : p_v.toInt ≥ 0 := by have z := g5_ltN (a := p_v.toInt) (b := 0) (by rfl) (by decide) c_1; omega
    refine lv_iload_n hx hb dX11_isImage_4 rfl (lv_at hl 0 rfl) ?_
    refine lv_iconst (v := 2) hx hb dX11_isImage_5 (by decide) ?_
    refine lv_icmp_ge (tgt := 13) hx hb dX11_isImage_6 (by decide) (fun c_2 => ?_) (fun c_2 => ?_)
    ·
      have i_2 : p_v.toInt ≥ 2 := by have z := g5_ge (a := p_v.toInt) (b := 2) (by rfl) (by decide) c_2; omega
      refine lv_iconst (v := 0) hx hb dX11_isImage_13 (by decide) ?_
      exact W.zret (v := 0) hx hb hr rfl (fun t ht hW => ⟨⟨0, [], rfl, Or.inr (⟨by omega, rfl, rfl⟩), by rw [ht]; exact hP.sub [] rfl, hD.sub [] (by decide) rfl⟩, hS.F ht⟩) hS.2.2 dX11_isImage_14
    ·
      have i_2 : p_v.toInt < 2 := by have z := g5_geN (a := p_v.toInt) (b := 2) (by rfl) (by decide) c_2; omega
      refine lv_iconst (v := 1) hx hb dX11_isImage_9 (by decide) ?_
      refine lv_goto (tgt := 14) hx hb dX11_isImage_10 (by decide) ?_
      exact W.zret (v := 1) hx hb hr rfl (fun t ht hW => ⟨⟨1, [], rfl, Or.inl (⟨by omega, rfl, rfl⟩), by rw [ht]; exact hP.sub [] rfl, hD.sub [] (by decide) rfl⟩, hS.F ht⟩) hS.2.2 dX11_isImage_14
theorem dgX11_isStay_0 : ∀ r ∈ ([(0, (.iload_n 0, 1)), (1, (.invokestatic 127, 3)), (4, (.ifCond .eq 26, 3)), (7, (.iload_n 1, 1)), (8, (.invokestatic 127, 3)), (11, (.ifCond .eq 19, 3)), (14, (.iload_n 1, 1)), (15, (.iload_n 0, 1)), (16, (.if_icmp .lt 14, 3)), (19, (.iload_n 2, 1)), (20, (.invokestatic 241, 3)), (23, (.ifCond .eq 7, 3)), (26, (.iconst 1, 1)), (27, (.goto 4, 3)), (30, (.iconst 0, 1)), (31, (.ireturn, 1))] : List (Nat × (Instr × Nat))), decode cX11_isStay r.1 = .ok r.2 := by decide +kernel
theorem dX11_isStay_0 : decode cX11_isStay 0 = .ok (.iload_n 0, 1) := dgX11_isStay_0 (0, (.iload_n 0, 1)) (List.mem_of_getElem? (i := 0) rfl)
theorem dX11_isStay_1 : decode cX11_isStay 1 = .ok (.invokestatic 127, 3) := dgX11_isStay_0 (1, (.invokestatic 127, 3)) (List.mem_of_getElem? (i := 1) rfl)
theorem dX11_isStay_4 : decode cX11_isStay 4 = .ok (.ifCond .eq 26, 3) := dgX11_isStay_0 (4, (.ifCond .eq 26, 3)) (List.mem_of_getElem? (i := 2) rfl)
theorem dX11_isStay_7 : decode cX11_isStay 7 = .ok (.iload_n 1, 1) := dgX11_isStay_0 (7, (.iload_n 1, 1)) (List.mem_of_getElem? (i := 3) rfl)
theorem dX11_isStay_8 : decode cX11_isStay 8 = .ok (.invokestatic 127, 3) := dgX11_isStay_0 (8, (.invokestatic 127, 3)) (List.mem_of_getElem? (i := 4) rfl)
theorem dX11_isStay_11 : decode cX11_isStay 11 = .ok (.ifCond .eq 19, 3) := dgX11_isStay_0 (11, (.ifCond .eq 19, 3)) (List.mem_of_getElem? (i := 5) rfl)
theorem dX11_isStay_14 : decode cX11_isStay 14 = .ok (.iload_n 1, 1) := dgX11_isStay_0 (14, (.iload_n 1, 1)) (List.mem_of_getElem? (i := 6) rfl)
theorem dX11_isStay_15 : decode cX11_isStay 15 = .ok (.iload_n 0, 1) := dgX11_isStay_0 (15, (.iload_n 0, 1)) (List.mem_of_getElem? (i := 7) rfl)
theorem dX11_isStay_16 : decode cX11_isStay 16 = .ok (.if_icmp .lt 14, 3) := dgX11_isStay_0 (16, (.if_icmp .lt 14, 3)) (List.mem_of_getElem? (i := 8) rfl)
theorem dX11_isStay_19 : decode cX11_isStay 19 = .ok (.iload_n 2, 1) := dgX11_isStay_0 (19, (.iload_n 2, 1)) (List.mem_of_getElem? (i := 9) rfl)
theorem dX11_isStay_20 : decode cX11_isStay 20 = .ok (.invokestatic 241, 3) := dgX11_isStay_0 (20, (.invokestatic 241, 3)) (List.mem_of_getElem? (i := 10) rfl)
theorem dX11_isStay_23 : decode cX11_isStay 23 = .ok (.ifCond .eq 7, 3) := dgX11_isStay_0 (23, (.ifCond .eq 7, 3)) (List.mem_of_getElem? (i := 11) rfl)
theorem dX11_isStay_26 : decode cX11_isStay 26 = .ok (.iconst 1, 1) := dgX11_isStay_0 (26, (.iconst 1, 1)) (List.mem_of_getElem? (i := 12) rfl)
theorem dX11_isStay_27 : decode cX11_isStay 27 = .ok (.goto 4, 3) := dgX11_isStay_0 (27, (.goto 4, 3)) (List.mem_of_getElem? (i := 13) rfl)
theorem dX11_isStay_30 : decode cX11_isStay 30 = .ok (.iconst 0, 1) := dgX11_isStay_0 (30, (.iconst 0, 1)) (List.mem_of_getElem? (i := 14) rfl)
theorem dX11_isStay_31 : decode cX11_isStay 31 = .ok (.ireturn, 1) := dgX11_isStay_0 (31, (.ireturn, 1)) (List.mem_of_getElem? (i := 15) rfl)
theorem ml_X11_241 : Cond.methodLink RX11 241 yX11_isCellOrNone ∈ tblG := tg 591 (by decide +kernel) (by decide +kernel)
theorem st_X11_isCellOrNone : Cond.static yX11_isCellOrNone ∈ tblG := tg 592 (by decide +kernel) (by decide +kernel)
theorem cd_X11_isCellOrNone : Cond.code yX11_isCellOrNone cX11_isCellOrNone 1 (some .boolean) ∈ tblG := tg 593 (by decide +kernel) (by decide +kernel)
theorem gW_X11_isCellOrNone : GoodIn tblG (wsG yX11_isCellOrNone cX11_isCellOrNone 1 (some .boolean)) := tgi cd_X11_isCellOrNone
theorem gS_X11_241 : GoodIn tblG (va_wsS RX11 241 yX11_isCellOrNone (wsG yX11_isCellOrNone cX11_isCellOrNone 1 (some .boolean))) := tgS ml_X11_241 st_X11_isCellOrNone ini_X11 gW_X11_isCellOrNone
theorem hs_X11_isCellOrNone : yX11_isCellOrNone.cls ≠ "java/lang/invoke/MethodHandle" ∧ yX11_isCellOrNone.cls ≠ "java/lang/invoke/VarHandle" ∧ (parseMethodDescriptor yX11_isCellOrNone.desc).map (fun d => d.parameters.length) = some 1 := by decide +kernel
theorem dgX11_isTurn_0 : ∀ r ∈ ([(0, (.iload_n 0, 1)), (1, (.iconst 1, 1)), (2, (.iadd, 1)), (3, (.tableswitch 61 1 4 #[29, 34, 39, 44], 29)), (32, (.iload_n 1, 1)), (33, (.invokestatic 124, 3)), (36, (.ireturn, 1)), (37, (.iload_n 1, 1)), (38, (.invokestatic 127, 3)), (41, (.ireturn, 1)), (42, (.iload_n 1, 1)), (43, (.invokestatic 130, 3)), (46, (.ireturn, 1)), (47, (.iload_n 1, 1)), (48, (.ifCond .lt 14, 3)), (51, (.iload_n 1, 1)), (52, (.ldc_w 357, 3)), (55, (.if_icmp .ge 7, 3)), (58, (.iconst 1, 1)), (59, (.goto 4, 3)), (62, (.iconst 0, 1)), (63, (.ireturn, 1)), (64, (.iconst 0, 1)), (65, (.ireturn, 1))] : List (Nat × (Instr × Nat))), decode cX11_isTurn r.1 = .ok r.2 := by decide +kernel
theorem dX11_isTurn_0 : decode cX11_isTurn 0 = .ok (.iload_n 0, 1) := dgX11_isTurn_0 (0, (.iload_n 0, 1)) (List.mem_of_getElem? (i := 0) rfl)
theorem dX11_isTurn_1 : decode cX11_isTurn 1 = .ok (.iconst 1, 1) := dgX11_isTurn_0 (1, (.iconst 1, 1)) (List.mem_of_getElem? (i := 1) rfl)
theorem dX11_isTurn_2 : decode cX11_isTurn 2 = .ok (.iadd, 1) := dgX11_isTurn_0 (2, (.iadd, 1)) (List.mem_of_getElem? (i := 2) rfl)
theorem dX11_isTurn_3 : decode cX11_isTurn 3 = .ok (.tableswitch 61 1 4 #[29, 34, 39, 44], 29) := dgX11_isTurn_0 (3, (.tableswitch 61 1 4 #[29, 34, 39, 44], 29)) (List.mem_of_getElem? (i := 3) rfl)
theorem dX11_isTurn_32 : decode cX11_isTurn 32 = .ok (.iload_n 1, 1) := dgX11_isTurn_0 (32, (.iload_n 1, 1)) (List.mem_of_getElem? (i := 4) rfl)
theorem dX11_isTurn_33 : decode cX11_isTurn 33 = .ok (.invokestatic 124, 3) := dgX11_isTurn_0 (33, (.invokestatic 124, 3)) (List.mem_of_getElem? (i := 5) rfl)
theorem dX11_isTurn_36 : decode cX11_isTurn 36 = .ok (.ireturn, 1) := dgX11_isTurn_0 (36, (.ireturn, 1)) (List.mem_of_getElem? (i := 6) rfl)
theorem dX11_isTurn_37 : decode cX11_isTurn 37 = .ok (.iload_n 1, 1) := dgX11_isTurn_0 (37, (.iload_n 1, 1)) (List.mem_of_getElem? (i := 7) rfl)
theorem dX11_isTurn_38 : decode cX11_isTurn 38 = .ok (.invokestatic 127, 3) := dgX11_isTurn_0 (38, (.invokestatic 127, 3)) (List.mem_of_getElem? (i := 8) rfl)
theorem dX11_isTurn_41 : decode cX11_isTurn 41 = .ok (.ireturn, 1) := dgX11_isTurn_0 (41, (.ireturn, 1)) (List.mem_of_getElem? (i := 9) rfl)
theorem dX11_isTurn_42 : decode cX11_isTurn 42 = .ok (.iload_n 1, 1) := dgX11_isTurn_0 (42, (.iload_n 1, 1)) (List.mem_of_getElem? (i := 10) rfl)
theorem dX11_isTurn_43 : decode cX11_isTurn 43 = .ok (.invokestatic 130, 3) := dgX11_isTurn_0 (43, (.invokestatic 130, 3)) (List.mem_of_getElem? (i := 11) rfl)
theorem dX11_isTurn_46 : decode cX11_isTurn 46 = .ok (.ireturn, 1) := dgX11_isTurn_0 (46, (.ireturn, 1)) (List.mem_of_getElem? (i := 12) rfl)
theorem dX11_isTurn_47 : decode cX11_isTurn 47 = .ok (.iload_n 1, 1) := dgX11_isTurn_0 (47, (.iload_n 1, 1)) (List.mem_of_getElem? (i := 13) rfl)
theorem dX11_isTurn_48 : decode cX11_isTurn 48 = .ok (.ifCond .lt 14, 3) := dgX11_isTurn_0 (48, (.ifCond .lt 14, 3)) (List.mem_of_getElem? (i := 14) rfl)
theorem dX11_isTurn_51 : decode cX11_isTurn 51 = .ok (.iload_n 1, 1) := dgX11_isTurn_0 (51, (.iload_n 1, 1)) (List.mem_of_getElem? (i := 15) rfl)
theorem dX11_isTurn_52 : decode cX11_isTurn 52 = .ok (.ldc_w 357, 3) := dgX11_isTurn_0 (52, (.ldc_w 357, 3)) (List.mem_of_getElem? (i := 16) rfl)
theorem dX11_isTurn_55 : decode cX11_isTurn 55 = .ok (.if_icmp .ge 7, 3) := dgX11_isTurn_0 (55, (.if_icmp .ge 7, 3)) (List.mem_of_getElem? (i := 17) rfl)
theorem dX11_isTurn_58 : decode cX11_isTurn 58 = .ok (.iconst 1, 1) := dgX11_isTurn_0 (58, (.iconst 1, 1)) (List.mem_of_getElem? (i := 18) rfl)
theorem dX11_isTurn_59 : decode cX11_isTurn 59 = .ok (.goto 4, 3) := dgX11_isTurn_0 (59, (.goto 4, 3)) (List.mem_of_getElem? (i := 19) rfl)
theorem dX11_isTurn_62 : decode cX11_isTurn 62 = .ok (.iconst 0, 1) := dgX11_isTurn_0 (62, (.iconst 0, 1)) (List.mem_of_getElem? (i := 20) rfl)
theorem dX11_isTurn_63 : decode cX11_isTurn 63 = .ok (.ireturn, 1) := dgX11_isTurn_0 (63, (.ireturn, 1)) (List.mem_of_getElem? (i := 21) rfl)
theorem dX11_isTurn_64 : decode cX11_isTurn 64 = .ok (.iconst 0, 1) := dgX11_isTurn_0 (64, (.iconst 0, 1)) (List.mem_of_getElem? (i := 22) rfl)
theorem dX11_isTurn_65 : decode cX11_isTurn 65 = .ok (.ireturn, 1) := dgX11_isTurn_0 (65, (.ireturn, 1)) (List.mem_of_getElem? (i := 23) rfl)
theorem ml_X11_124 : Cond.methodLink RX11 124 yX11_isSort ∈ tblG := tg 535 (by decide +kernel) (by decide +kernel)
theorem st_X11_isSort : Cond.static yX11_isSort ∈ tblG := tg 536 (by decide +kernel) (by decide +kernel)
theorem cd_X11_isSort : Cond.code yX11_isSort cX11_isSort 1 (some .boolean) ∈ tblG := tg 537 (by decide +kernel) (by decide +kernel)
theorem gW_X11_isSort : GoodIn tblG (wsG yX11_isSort cX11_isSort 1 (some .boolean)) := tgi cd_X11_isSort
theorem gS_X11_124 : GoodIn tblG (va_wsS RX11 124 yX11_isSort (wsG yX11_isSort cX11_isSort 1 (some .boolean))) := tgS ml_X11_124 st_X11_isSort ini_X11 gW_X11_isSort
theorem hs_X11_isSort : yX11_isSort.cls ≠ "java/lang/invoke/MethodHandle" ∧ yX11_isSort.cls ≠ "java/lang/invoke/VarHandle" ∧ (parseMethodDescriptor yX11_isSort.desc).map (fun d => d.parameters.length) = some 1 := by decide +kernel
theorem ml_X11_130 : Cond.methodLink RX11 130 yX11_isDust ∈ tblG := tg 541 (by decide +kernel) (by decide +kernel)
theorem st_X11_isDust : Cond.static yX11_isDust ∈ tblG := tg 542 (by decide +kernel) (by decide +kernel)
theorem cd_X11_isDust : Cond.code yX11_isDust cX11_isDust 1 (some .boolean) ∈ tblG := tg 543 (by decide +kernel) (by decide +kernel)
theorem gW_X11_isDust : GoodIn tblG (wsG yX11_isDust cX11_isDust 1 (some .boolean)) := tgi cd_X11_isDust
theorem gS_X11_130 : GoodIn tblG (va_wsS RX11 130 yX11_isDust (wsG yX11_isDust cX11_isDust 1 (some .boolean))) := tgS ml_X11_130 st_X11_isDust ini_X11 gW_X11_isDust
theorem hs_X11_isDust : yX11_isDust.cls ≠ "java/lang/invoke/MethodHandle" ∧ yX11_isDust.cls ≠ "java/lang/invoke/VarHandle" ∧ (parseMethodDescriptor yX11_isDust.desc).map (fun d => d.parameters.length) = some 1 := by decide +kernel
theorem ki_X11_357 : Cond.constant RX11 357 16777216 ∈ tblG := tg 573 (by decide +kernel) (by decide +kernel)
theorem dgX11_refuse_0 : ∀ r ∈ ([(0, (.aload_n 0, 1)), (1, (.iload_n 1, 1)), (2, (.putfield 94, 3)), (5, (.iload_n 1, 1)), (6, (.bipush (-3), 2)), (8, (.if_icmp .lt 10, 3)), (11, (.iload_n 1, 1)), (12, (.ineg, 1)), (13, (.iconst 1, 1)), (14, (.isub, 1)), (15, (.goto 7, 3)), (18, (.iload_n 1, 1)), (19, (.ineg, 1)), (20, (.iconst 2, 1)), (21, (.isub, 1)), (22, (.istore_n 2, 1)), (23, (.iload_n 2, 1)), (24, (.ifCond .lt 22, 3)), (27, (.iload_n 2, 1)), (28, (.aload_n 0, 1)), (29, (.getfield 91, 3)), (32, (.arraylength, 1)), (33, (.if_icmp .ge 13, 3)), (36, (.aload_n 0, 1)), (37, (.getfield 91, 3)), (40, (.iload_n 2, 1)), (41, (.dup2, 1)), (42, (.iaload, 1)), (43, (.iconst 1, 1)), (44, (.iadd, 1)), (45, (.iastore, 1)), (46, (.iload_n 1, 1)), (47, (.ireturn, 1))] : List (Nat × (Instr × Nat))), decode cX11_refuse r.1 = .ok r.2 := by decide +kernel
theorem dX11_refuse_0 : decode cX11_refuse 0 = .ok (.aload_n 0, 1) := dgX11_refuse_0 (0, (.aload_n 0, 1)) (List.mem_of_getElem? (i := 0) rfl)
theorem dX11_refuse_1 : decode cX11_refuse 1 = .ok (.iload_n 1, 1) := dgX11_refuse_0 (1, (.iload_n 1, 1)) (List.mem_of_getElem? (i := 1) rfl)
theorem dX11_refuse_2 : decode cX11_refuse 2 = .ok (.putfield 94, 3) := dgX11_refuse_0 (2, (.putfield 94, 3)) (List.mem_of_getElem? (i := 2) rfl)
theorem dX11_refuse_5 : decode cX11_refuse 5 = .ok (.iload_n 1, 1) := dgX11_refuse_0 (5, (.iload_n 1, 1)) (List.mem_of_getElem? (i := 3) rfl)
theorem dX11_refuse_6 : decode cX11_refuse 6 = .ok (.bipush (-3), 2) := dgX11_refuse_0 (6, (.bipush (-3), 2)) (List.mem_of_getElem? (i := 4) rfl)
theorem dX11_refuse_8 : decode cX11_refuse 8 = .ok (.if_icmp .lt 10, 3) := dgX11_refuse_0 (8, (.if_icmp .lt 10, 3)) (List.mem_of_getElem? (i := 5) rfl)
theorem dX11_refuse_11 : decode cX11_refuse 11 = .ok (.iload_n 1, 1) := dgX11_refuse_0 (11, (.iload_n 1, 1)) (List.mem_of_getElem? (i := 6) rfl)
theorem dX11_refuse_12 : decode cX11_refuse 12 = .ok (.ineg, 1) := dgX11_refuse_0 (12, (.ineg, 1)) (List.mem_of_getElem? (i := 7) rfl)
theorem dX11_refuse_13 : decode cX11_refuse 13 = .ok (.iconst 1, 1) := dgX11_refuse_0 (13, (.iconst 1, 1)) (List.mem_of_getElem? (i := 8) rfl)
theorem dX11_refuse_14 : decode cX11_refuse 14 = .ok (.isub, 1) := dgX11_refuse_0 (14, (.isub, 1)) (List.mem_of_getElem? (i := 9) rfl)
theorem dX11_refuse_15 : decode cX11_refuse 15 = .ok (.goto 7, 3) := dgX11_refuse_0 (15, (.goto 7, 3)) (List.mem_of_getElem? (i := 10) rfl)
theorem dX11_refuse_18 : decode cX11_refuse 18 = .ok (.iload_n 1, 1) := dgX11_refuse_0 (18, (.iload_n 1, 1)) (List.mem_of_getElem? (i := 11) rfl)
theorem dX11_refuse_19 : decode cX11_refuse 19 = .ok (.ineg, 1) := dgX11_refuse_0 (19, (.ineg, 1)) (List.mem_of_getElem? (i := 12) rfl)
theorem dX11_refuse_20 : decode cX11_refuse 20 = .ok (.iconst 2, 1) := dgX11_refuse_0 (20, (.iconst 2, 1)) (List.mem_of_getElem? (i := 13) rfl)
theorem dX11_refuse_21 : decode cX11_refuse 21 = .ok (.isub, 1) := dgX11_refuse_0 (21, (.isub, 1)) (List.mem_of_getElem? (i := 14) rfl)
theorem dX11_refuse_22 : decode cX11_refuse 22 = .ok (.istore_n 2, 1) := dgX11_refuse_0 (22, (.istore_n 2, 1)) (List.mem_of_getElem? (i := 15) rfl)
theorem dX11_refuse_23 : decode cX11_refuse 23 = .ok (.iload_n 2, 1) := dgX11_refuse_0 (23, (.iload_n 2, 1)) (List.mem_of_getElem? (i := 16) rfl)
theorem dX11_refuse_24 : decode cX11_refuse 24 = .ok (.ifCond .lt 22, 3) := dgX11_refuse_0 (24, (.ifCond .lt 22, 3)) (List.mem_of_getElem? (i := 17) rfl)
theorem dX11_refuse_27 : decode cX11_refuse 27 = .ok (.iload_n 2, 1) := dgX11_refuse_0 (27, (.iload_n 2, 1)) (List.mem_of_getElem? (i := 18) rfl)
theorem dX11_refuse_28 : decode cX11_refuse 28 = .ok (.aload_n 0, 1) := dgX11_refuse_0 (28, (.aload_n 0, 1)) (List.mem_of_getElem? (i := 19) rfl)
theorem dX11_refuse_29 : decode cX11_refuse 29 = .ok (.getfield 91, 3) := dgX11_refuse_0 (29, (.getfield 91, 3)) (List.mem_of_getElem? (i := 20) rfl)
theorem dX11_refuse_32 : decode cX11_refuse 32 = .ok (.arraylength, 1) := dgX11_refuse_0 (32, (.arraylength, 1)) (List.mem_of_getElem? (i := 21) rfl)
theorem dX11_refuse_33 : decode cX11_refuse 33 = .ok (.if_icmp .ge 13, 3) := dgX11_refuse_0 (33, (.if_icmp .ge 13, 3)) (List.mem_of_getElem? (i := 22) rfl)
theorem dX11_refuse_36 : decode cX11_refuse 36 = .ok (.aload_n 0, 1) := dgX11_refuse_0 (36, (.aload_n 0, 1)) (List.mem_of_getElem? (i := 23) rfl)
theorem dX11_refuse_37 : decode cX11_refuse 37 = .ok (.getfield 91, 3) := dgX11_refuse_0 (37, (.getfield 91, 3)) (List.mem_of_getElem? (i := 24) rfl)
theorem dX11_refuse_40 : decode cX11_refuse 40 = .ok (.iload_n 2, 1) := dgX11_refuse_0 (40, (.iload_n 2, 1)) (List.mem_of_getElem? (i := 25) rfl)
theorem dX11_refuse_41 : decode cX11_refuse 41 = .ok (.dup2, 1) := dgX11_refuse_0 (41, (.dup2, 1)) (List.mem_of_getElem? (i := 26) rfl)
theorem dX11_refuse_42 : decode cX11_refuse 42 = .ok (.iaload, 1) := dgX11_refuse_0 (42, (.iaload, 1)) (List.mem_of_getElem? (i := 27) rfl)
theorem dX11_refuse_43 : decode cX11_refuse 43 = .ok (.iconst 1, 1) := dgX11_refuse_0 (43, (.iconst 1, 1)) (List.mem_of_getElem? (i := 28) rfl)
theorem dX11_refuse_44 : decode cX11_refuse 44 = .ok (.iadd, 1) := dgX11_refuse_0 (44, (.iadd, 1)) (List.mem_of_getElem? (i := 29) rfl)
theorem dX11_refuse_45 : decode cX11_refuse 45 = .ok (.iastore, 1) := dgX11_refuse_0 (45, (.iastore, 1)) (List.mem_of_getElem? (i := 30) rfl)
theorem dX11_refuse_46 : decode cX11_refuse 46 = .ok (.iload_n 1, 1) := dgX11_refuse_0 (46, (.iload_n 1, 1)) (List.mem_of_getElem? (i := 31) rfl)
theorem dX11_refuse_47 : decode cX11_refuse 47 = .ok (.ireturn, 1) := dgX11_refuse_0 (47, (.ireturn, 1)) (List.mem_of_getElem? (i := 32) rfl)
theorem inG_X11 : ∀ w ∈ wsX110, w ∈ tblG := tgs [461, 463, 465, 467, 469, 471, 473, 475, 477, 479, 481, 483, 485, 487, 489, 491, 493] (by decide +kernel) (by decide +kernel)
theorem fl_X11_94 : Cond.fieldLink RX11 94 "LateGlass" "latestRefusal" "I" ∈ tblG := tg 460 (by decide +kernel) (by decide +kernel)
theorem fl_X11_91 : Cond.fieldLink RX11 91 "LateGlass" "refusals" "[I" ∈ tblG := tg 459 (by decide +kernel) (by decide +kernel)
set_option maxHeartbeats 4000000 in
set_option maxRecDepth 100000 in
theorem x_refuse1 (l : Launch) (G : g5_G) (a_o a_rf a_h a_im a_ke a_k a_wa a_th a_ha a_wk a_r a_x a_wd : Nat) (sz : Nat) (e_tl : Int32) (e_fd : Int32) (e_fpl : Int32) (e_wn : Int32) (e_lr : Int32) (f_rf : Nat → Int32) (h_e_tl : 0 ≤ e_tl.toInt ∧ e_tl.toInt ≤ 400) (h_e_wn : 0 ≤ e_wn.toInt ∧ e_wn.toInt ≤ 1) : Met l yX11_refuse (wsG yX11_refuse cX11_refuse 3 (some .int)) ({ frames := 0, cells := 0, slots := 0, locals := 0 }) (va_Pc [.ref a_o, .int (-1)] (g5_P G [(a_o, (oc11 a_h a_im a_ke a_k a_wa a_th a_ha a_wk a_r a_x e_tl e_fd e_fpl a_wd e_wn a_rf e_lr)), (a_rf, (arI G 5 f_rf))] sz)) (va_Qi (fun (r : Int32) (u : va_W) => (∃ (o_rf : Nat → Int32), (r = (-1)) ∧ (u = [(a_o, (oc11 a_h a_im a_ke a_k a_wa a_th a_ha a_wk a_r a_x e_tl e_fd e_fpl a_wd e_wn a_rf (-1))), (a_rf, (arI G 5 o_rf))]))) (g5_B G (va_A [(a_o, (oc11 a_h a_im a_ke a_k a_wa a_th a_ha a_wk a_r a_x e_tl e_fd e_fpl a_wd e_wn a_rf e_lr)), (a_rf, (arI G 5 f_rf))] sz)) (va_A [(a_o, (oc11 a_h a_im a_ke a_k a_wa a_th a_ha a_wk a_r a_x e_tl e_fd e_fpl a_wd e_wn a_rf e_lr)), (a_rf, (arI G 5 f_rf))] sz)) 0 0 (va_A [(a_o, (oc11 a_h a_im a_ke a_k a_wa a_th a_ha a_wk a_r a_x e_tl e_fd e_fpl a_wd e_wn a_rf e_lr)), (a_rf, (arI G 5 f_rf))] sz) := by
  refine Met.ofW (cc := cX11_refuse) (maxL := 3) (ret := (some .int)) (by decide) rfl ?_
  intro p e s m args below meth c s₁ B hml hv
  obtain ⟨rfl, hsz, hP, hK, hD0, hN, hT⟩ := hv
  have hx := B.exec
  have hb := B.bytes
  have hr := B.returns
  have hts : ∀ w ∈ tblG, w.before _ s = true := fun w h => atoms_spec (ws := (wsG yX11_refuse cX11_refuse 3 (some .int))) B.pre w (List.mem_cons_of_mem _ h)
  have hown : s.vm.findClass RX11 = some m.cls := findClass_of_methodNamed B.named
  have hlocks := B.notSynchronized
  subst hsz
  have hD := hD0.self (sz := s.heap.size)
  generalize hAe : va_A [(a_o, (oc11 a_h a_im a_ke a_k a_wa a_th a_ha a_wk a_r a_x e_tl e_fd e_fpl a_wd e_wn a_rf e_lr)), (a_rf, (arI G 5 f_rf))] s.heap.size = A at hD hT ⊢
  have hA : ∀ q : Nat, s.heap.size ≤ q → A q := fun q h => by rw [← hAe]; exact Or.inr h
  have hS : va_S A s.heap s.heap [] := va_S.rf
  have hP : va_P G.1 vwCl [(a_o, (oc11 a_h a_im a_ke a_k a_wa a_th a_ha a_wk a_r a_x e_tl e_fd e_fpl a_wd e_wn a_rf e_lr)), (a_rf, (arI G 5 f_rf))] s.heap := hP
  have hl := lv_entry ([.ref a_o, .int (-1)]) (n := 3) (Nat.le_of_ble_eq_true rfl)
  rw [lg_entry_eq]
  generalize (lg_sl ([.ref a_o, .int (-1)]) ++ List.replicate (3 - (lg_sl ([.ref a_o, .int (-1)])).length) Slot.unset).toArray = ls at hl ⊢
  have hl : lv_has ls 3 [(0, .ref a_o), (1, .int (-1))] := hl
  refine lv_aload_n hx hb dX11_refuse_0 rfl (lv_at hl 0 rfl) ?_
  refine lv_iload_n hx hb dX11_refuse_1 rfl (lv_at hl 1 rfl) ?_
  refine va_put (D := G.1) (ci := 11) (v := .int (-1)) (ty := .int) (C := RX11) (T := TX11) (N := 17) hx hb hts inG_X11 tyX11 tyX11_ok nmX11 hown hK hP hD hS 0 rfl rfl 16 (by decide) (hts _ fl_X11_94) (fun _ h9 => h9) rfl (by decide +kernel) rfl rfl (Nat.le_of_ble_eq_true rfl) dX11_refuse_2 (fun H locs hP hD hS => ?_)
  refine g5_rs [(a_o, (oc11 a_h a_im a_ke a_k a_wa a_th a_ha a_wk a_r a_x e_tl e_fd e_fpl a_wd e_wn a_rf (-1))), (a_rf, (arI G 5 f_rf))] hP hD (fun hP hD => ?_)
  refine lv_iload_n hx hb dX11_refuse_5 rfl (lv_at hl 1 rfl) ?_
  refine lv_bipush (v := (-3)) hx hb dX11_refuse_6 (by decide) ?_
  refine lv_icmp_lt (tgt := 18) hx hb dX11_refuse_8 (by decide) (fun c_1 => ?_) (fun c_1 => ?_)
  ·
    exact absurd c_1 (by decide)
  ·
    refine lv_iload_n hx hb dX11_refuse_11 rfl (lv_at hl 1 rfl) ?_
    refine lv_ineg hx hb dX11_refuse_12 ?_
    refine g5_ti (v := 1) (by decide) ?_
    refine lv_iconst (v := 1) hx hb dX11_refuse_13 (by decide) ?_
    refine lv_isub hx hb dX11_refuse_14 ?_
    refine g5_ti (v := 0) (by decide) ?_
    refine lv_goto (tgt := 22) hx hb dX11_refuse_15 (by decide) ?_
    refine lv_istore_n (lv' := [(2, .int 0), (0, .ref a_o), (1, .int (-1))]) hx hb dX11_refuse_22 rfl hl (by decide) rfl (fun ls hl => ?_)
    refine lv_iload_n hx hb dX11_refuse_23 rfl (lv_at hl 0 rfl) ?_
    refine lv_if_lt (tgt := 46) hx hb dX11_refuse_24 (by decide) (fun c_2 => ?_) (fun c_2 => ?_)
    ·
      exact absurd c_2 (by decide)
    ·
      refine lv_iload_n hx hb dX11_refuse_27 rfl (lv_at hl 0 rfl) ?_
      refine lv_aload_n hx hb dX11_refuse_28 rfl (lv_at hl 1 rfl) ?_
      refine va_get (D := G.1) (ci := 11) (v := .ref a_rf) (C := RX11) (T := TX11) (N := 17) hx hb hts inG_X11 hown hK hP 0 rfl rfl 15 (by decide) (hts _ fl_X11_91) (fun _ h9 => h9) rfl dX11_refuse_29 ?_
      refine va_alen hx hb hK hP 1 0 rfl rfl (v := 5) (by show Int32.ofNat 5 = 5; decide) dX11_refuse_32 ?_
      refine lv_icmp_ge (tgt := 46) hx hb dX11_refuse_33 (by decide) (fun c_3 => ?_) (fun c_3 => ?_)
      ·
        exact absurd c_3 (by decide)
      ·
        refine lv_aload_n hx hb dX11_refuse_36 rfl (lv_at hl 1 rfl) ?_
        refine va_get (D := G.1) (ci := 11) (v := .ref a_rf) (C := RX11) (T := TX11) (N := 17) hx hb hts inG_X11 hown hK hP 0 rfl rfl 15 (by decide) (hts _ fl_X11_91) (fun _ h9 => h9) rfl dX11_refuse_37 ?_
        refine lv_iload_n hx hb dX11_refuse_40 rfl (lv_at hl 0 rfl) ?_
        refine lv_dup2_11 hx hb dX11_refuse_41 rfl rfl ?_
        refine va_iald hx hb hK hP 1 0 rfl rfl (i := 0) (by unfold vp_in; decide) dX11_refuse_42 ?_
        refine g5_ti (v := (f_rf 0)) rfl ?_
        refine lv_iconst (v := 1) hx hb dX11_refuse_43 (by decide) ?_
        refine lv_iadd hx hb dX11_refuse_44 ?_
        refine va_iast hx hb hK hP hD hS 1 0 rfl rfl (i := 0) (x := ((f_rf 0) + 1)) (by unfold vp_in; decide) dX11_refuse_45 (fun H locs hP hD hS => ?_)
        refine g5_rs [(a_o, (oc11 a_h a_im a_ke a_k a_wa a_th a_ha a_wk a_r a_x e_tl e_fd e_fpl a_wd e_wn a_rf (-1))), (a_rf, (arI G 5 (upd f_rf 0 ((f_rf 0) + 1))))] hP hD (fun hP hD => ?_)
        refine lv_iload_n hx hb dX11_refuse_46 rfl (lv_at hl 2 rfl) ?_
        exact W.iret (v := (-1)) hx hb hr (fun t ht hW => ⟨⟨(-1), [(a_o, (oc11 a_h a_im a_ke a_k a_wa a_th a_ha a_wk a_r a_x e_tl e_fd e_fpl a_wd e_wn a_rf (-1))), (a_rf, (arI G 5 (upd f_rf 0 ((f_rf 0) + 1))))], rfl, ⟨(upd f_rf 0 ((f_rf 0) + 1)), rfl, rfl⟩, by rw [ht]; exact hP.sub [0, 1] rfl, hD.sub [0, 1] (by decide) rfl⟩, hS.F ht⟩) hS.2.2 dX11_refuse_47
set_option maxHeartbeats 4000000 in
set_option maxRecDepth 100000 in
theorem x_refuse2 (l : Launch) (G : g5_G) (a_o a_rf a_h a_im a_ke a_k a_wa a_th a_ha a_wk a_r a_x a_wd : Nat) (sz : Nat) (e_tl : Int32) (e_fd : Int32) (e_fpl : Int32) (e_wn : Int32) (e_lr : Int32) (f_rf : Nat → Int32) (h_e_tl : 0 ≤ e_tl.toInt ∧ e_tl.toInt ≤ 400) (h_e_wn : 0 ≤ e_wn.toInt ∧ e_wn.toInt ≤ 1) : Met l yX11_refuse (wsG yX11_refuse cX11_refuse 3 (some .int)) ({ frames := 0, cells := 0, slots := 0, locals := 0 }) (va_Pc [.ref a_o, .int (-2)] (g5_P G [(a_o, (oc11 a_h a_im a_ke a_k a_wa a_th a_ha a_wk a_r a_x e_tl e_fd e_fpl a_wd e_wn a_rf e_lr)), (a_rf, (arI G 5 f_rf))] sz)) (va_Qi (fun (r : Int32) (u : va_W) => (∃ (o_rf : Nat → Int32), (r = (-2)) ∧ (u = [(a_o, (oc11 a_h a_im a_ke a_k a_wa a_th a_ha a_wk a_r a_x e_tl e_fd e_fpl a_wd e_wn a_rf (-2))), (a_rf, (arI G 5 o_rf))]))) (g5_B G (va_A [(a_o, (oc11 a_h a_im a_ke a_k a_wa a_th a_ha a_wk a_r a_x e_tl e_fd e_fpl a_wd e_wn a_rf e_lr)), (a_rf, (arI G 5 f_rf))] sz)) (va_A [(a_o, (oc11 a_h a_im a_ke a_k a_wa a_th a_ha a_wk a_r a_x e_tl e_fd e_fpl a_wd e_wn a_rf e_lr)), (a_rf, (arI G 5 f_rf))] sz)) 0 0 (va_A [(a_o, (oc11 a_h a_im a_ke a_k a_wa a_th a_ha a_wk a_r a_x e_tl e_fd e_fpl a_wd e_wn a_rf e_lr)), (a_rf, (arI G 5 f_rf))] sz) := by
  refine Met.ofW (cc := cX11_refuse) (maxL := 3) (ret := (some .int)) (by decide) rfl ?_
  intro p e s m args below meth c s₁ B hml hv
  obtain ⟨rfl, hsz, hP, hK, hD0, hN, hT⟩ := hv
  have hx := B.exec
  have hb := B.bytes
  have hr := B.returns
  have hts : ∀ w ∈ tblG, w.before _ s = true := fun w h => atoms_spec (ws := (wsG yX11_refuse cX11_refuse 3 (some .int))) B.pre w (List.mem_cons_of_mem _ h)
  have hown : s.vm.findClass RX11 = some m.cls := findClass_of_methodNamed B.named
  have hlocks := B.notSynchronized
  subst hsz
  have hD := hD0.self (sz := s.heap.size)
  generalize hAe : va_A [(a_o, (oc11 a_h a_im a_ke a_k a_wa a_th a_ha a_wk a_r a_x e_tl e_fd e_fpl a_wd e_wn a_rf e_lr)), (a_rf, (arI G 5 f_rf))] s.heap.size = A at hD hT ⊢
  have hA : ∀ q : Nat, s.heap.size ≤ q → A q := fun q h => by rw [← hAe]; exact Or.inr h
  have hS : va_S A s.heap s.heap [] := va_S.rf
  have hP : va_P G.1 vwCl [(a_o, (oc11 a_h a_im a_ke a_k a_wa a_th a_ha a_wk a_r a_x e_tl e_fd e_fpl a_wd e_wn a_rf e_lr)), (a_rf, (arI G 5 f_rf))] s.heap := hP
  have hl := lv_entry ([.ref a_o, .int (-2)]) (n := 3) (Nat.le_of_ble_eq_true rfl)
  rw [lg_entry_eq]
  generalize (lg_sl ([.ref a_o, .int (-2)]) ++ List.replicate (3 - (lg_sl ([.ref a_o, .int (-2)])).length) Slot.unset).toArray = ls at hl ⊢
  have hl : lv_has ls 3 [(0, .ref a_o), (1, .int (-2))] := hl
  refine lv_aload_n hx hb dX11_refuse_0 rfl (lv_at hl 0 rfl) ?_
  refine lv_iload_n hx hb dX11_refuse_1 rfl (lv_at hl 1 rfl) ?_
  refine va_put (D := G.1) (ci := 11) (v := .int (-2)) (ty := .int) (C := RX11) (T := TX11) (N := 17) hx hb hts inG_X11 tyX11 tyX11_ok nmX11 hown hK hP hD hS 0 rfl rfl 16 (by decide) (hts _ fl_X11_94) (fun _ h9 => h9) rfl (by decide +kernel) rfl rfl (Nat.le_of_ble_eq_true rfl) dX11_refuse_2 (fun H locs hP hD hS => ?_)
  refine g5_rs [(a_o, (oc11 a_h a_im a_ke a_k a_wa a_th a_ha a_wk a_r a_x e_tl e_fd e_fpl a_wd e_wn a_rf (-2))), (a_rf, (arI G 5 f_rf))] hP hD (fun hP hD => ?_)
  refine lv_iload_n hx hb dX11_refuse_5 rfl (lv_at hl 1 rfl) ?_
  refine lv_bipush (v := (-3)) hx hb dX11_refuse_6 (by decide) ?_
  refine lv_icmp_lt (tgt := 18) hx hb dX11_refuse_8 (by decide) (fun c_1 => ?_) (fun c_1 => ?_)
  ·
    exact absurd c_1 (by decide)
  ·
    refine lv_iload_n hx hb dX11_refuse_11 rfl (lv_at hl 1 rfl) ?_
    refine lv_ineg hx hb dX11_refuse_12 ?_
    refine g5_ti (v := 2) (by decide) ?_
    refine lv_iconst (v := 1) hx hb dX11_refuse_13 (by decide) ?_
    refine lv_isub hx hb dX11_refuse_14 ?_
    refine g5_ti (v := 1) (by decide) ?_
    refine lv_goto (tgt := 22) hx hb dX11_refuse_15 (by decide) ?_
    refine lv_istore_n (lv' := [(2, .int 1), (0, .ref a_o), (1, .int (-2))]) hx hb dX11_refuse_22 rfl hl (by decide) rfl (fun ls hl => ?_)
    refine lv_iload_n hx hb dX11_refuse_23 rfl (lv_at hl 0 rfl) ?_
    refine lv_if_lt (tgt := 46) hx hb dX11_refuse_24 (by decide) (fun c_2 => ?_) (fun c_2 => ?_)
    ·
      exact absurd c_2 (by decide)
    ·
      refine lv_iload_n hx hb dX11_refuse_27 rfl (lv_at hl 0 rfl) ?_
      refine lv_aload_n hx hb dX11_refuse_28 rfl (lv_at hl 1 rfl) ?_
      refine va_get (D := G.1) (ci := 11) (v := .ref a_rf) (C := RX11) (T := TX11) (N := 17) hx hb hts inG_X11 hown hK hP 0 rfl rfl 15 (by decide) (hts _ fl_X11_91) (fun _ h9 => h9) rfl dX11_refuse_29 ?_
      refine va_alen hx hb hK hP 1 0 rfl rfl (v := 5) (by show Int32.ofNat 5 = 5; decide) dX11_refuse_32 ?_
      refine lv_icmp_ge (tgt := 46) hx hb dX11_refuse_33 (by decide) (fun c_3 => ?_) (fun c_3 => ?_)
      ·
        exact absurd c_3 (by decide)
      ·
        refine lv_aload_n hx hb dX11_refuse_36 rfl (lv_at hl 1 rfl) ?_
        refine va_get (D := G.1) (ci := 11) (v := .ref a_rf) (C := RX11) (T := TX11) (N := 17) hx hb hts inG_X11 hown hK hP 0 rfl rfl 15 (by decide) (hts _ fl_X11_91) (fun _ h9 => h9) rfl dX11_refuse_37 ?_
        refine lv_iload_n hx hb dX11_refuse_40 rfl (lv_at hl 0 rfl) ?_
        refine lv_dup2_11 hx hb dX11_refuse_41 rfl rfl ?_
        refine va_iald hx hb hK hP 1 0 rfl rfl (i := 1) (by unfold vp_in; decide) dX11_refuse_42 ?_
        refine g5_ti (v := (f_rf 1)) rfl ?_
        refine lv_iconst (v := 1) hx hb dX11_refuse_43 (by decide) ?_
        refine lv_iadd hx hb dX11_refuse_44 ?_
        refine va_iast hx hb hK hP hD hS 1 0 rfl rfl (i := 1) (x := ((f_rf 1) + 1)) (by unfold vp_in; decide) dX11_refuse_45 (fun H locs hP hD hS => ?_)
        refine g5_rs [(a_o, (oc11 a_h a_im a_ke a_k a_wa a_th a_ha a_wk a_r a_x e_tl e_fd e_fpl a_wd e_wn a_rf (-2))), (a_rf, (arI G 5 (upd f_rf 1 ((f_rf 1) + 1))))] hP hD (fun hP hD => ?_)
        refine lv_iload_n hx hb dX11_refuse_46 rfl (lv_at hl 2 rfl) ?_
        exact W.iret (v := (-2)) hx hb hr (fun t ht hW => ⟨⟨(-2), [(a_o, (oc11 a_h a_im a_ke a_k a_wa a_th a_ha a_wk a_r a_x e_tl e_fd e_fpl a_wd e_wn a_rf (-2))), (a_rf, (arI G 5 (upd f_rf 1 ((f_rf 1) + 1))))], rfl, ⟨(upd f_rf 1 ((f_rf 1) + 1)), rfl, rfl⟩, by rw [ht]; exact hP.sub [0, 1] rfl, hD.sub [0, 1] (by decide) rfl⟩, hS.F ht⟩) hS.2.2 dX11_refuse_47
set_option maxHeartbeats 4000000 in
set_option maxRecDepth 100000 in
theorem x_refuse3 (l : Launch) (G : g5_G) (a_o a_rf a_h a_im a_ke a_k a_wa a_th a_ha a_wk a_r a_x a_wd : Nat) (sz : Nat) (e_tl : Int32) (e_fd : Int32) (e_fpl : Int32) (e_wn : Int32) (e_lr : Int32) (f_rf : Nat → Int32) (h_e_tl : 0 ≤ e_tl.toInt ∧ e_tl.toInt ≤ 400) (h_e_wn : 0 ≤ e_wn.toInt ∧ e_wn.toInt ≤ 1) : Met l yX11_refuse (wsG yX11_refuse cX11_refuse 3 (some .int)) ({ frames := 0, cells := 0, slots := 0, locals := 0 }) (va_Pc [.ref a_o, .int (-3)] (g5_P G [(a_o, (oc11 a_h a_im a_ke a_k a_wa a_th a_ha a_wk a_r a_x e_tl e_fd e_fpl a_wd e_wn a_rf e_lr)), (a_rf, (arI G 5 f_rf))] sz)) (va_Qi (fun (r : Int32) (u : va_W) => (∃ (o_rf : Nat → Int32), (r = (-3)) ∧ (u = [(a_o, (oc11 a_h a_im a_ke a_k a_wa a_th a_ha a_wk a_r a_x e_tl e_fd e_fpl a_wd e_wn a_rf (-3))), (a_rf, (arI G 5 o_rf))]))) (g5_B G (va_A [(a_o, (oc11 a_h a_im a_ke a_k a_wa a_th a_ha a_wk a_r a_x e_tl e_fd e_fpl a_wd e_wn a_rf e_lr)), (a_rf, (arI G 5 f_rf))] sz)) (va_A [(a_o, (oc11 a_h a_im a_ke a_k a_wa a_th a_ha a_wk a_r a_x e_tl e_fd e_fpl a_wd e_wn a_rf e_lr)), (a_rf, (arI G 5 f_rf))] sz)) 0 0 (va_A [(a_o, (oc11 a_h a_im a_ke a_k a_wa a_th a_ha a_wk a_r a_x e_tl e_fd e_fpl a_wd e_wn a_rf e_lr)), (a_rf, (arI G 5 f_rf))] sz) := by
  refine Met.ofW (cc := cX11_refuse) (maxL := 3) (ret := (some .int)) (by decide) rfl ?_
  intro p e s m args below meth c s₁ B hml hv
  obtain ⟨rfl, hsz, hP, hK, hD0, hN, hT⟩ := hv
  have hx := B.exec
  have hb := B.bytes
  have hr := B.returns
  have hts : ∀ w ∈ tblG, w.before _ s = true := fun w h => atoms_spec (ws := (wsG yX11_refuse cX11_refuse 3 (some .int))) B.pre w (List.mem_cons_of_mem _ h)
  have hown : s.vm.findClass RX11 = some m.cls := findClass_of_methodNamed B.named
  have hlocks := B.notSynchronized
  subst hsz
  have hD := hD0.self (sz := s.heap.size)
  generalize hAe : va_A [(a_o, (oc11 a_h a_im a_ke a_k a_wa a_th a_ha a_wk a_r a_x e_tl e_fd e_fpl a_wd e_wn a_rf e_lr)), (a_rf, (arI G 5 f_rf))] s.heap.size = A at hD hT ⊢
  have hA : ∀ q : Nat, s.heap.size ≤ q → A q := fun q h => by rw [← hAe]; exact Or.inr h
  have hS : va_S A s.heap s.heap [] := va_S.rf
  have hP : va_P G.1 vwCl [(a_o, (oc11 a_h a_im a_ke a_k a_wa a_th a_ha a_wk a_r a_x e_tl e_fd e_fpl a_wd e_wn a_rf e_lr)), (a_rf, (arI G 5 f_rf))] s.heap := hP
  have hl := lv_entry ([.ref a_o, .int (-3)]) (n := 3) (Nat.le_of_ble_eq_true rfl)
  rw [lg_entry_eq]
  generalize (lg_sl ([.ref a_o, .int (-3)]) ++ List.replicate (3 - (lg_sl ([.ref a_o, .int (-3)])).length) Slot.unset).toArray = ls at hl ⊢
  have hl : lv_has ls 3 [(0, .ref a_o), (1, .int (-3))] := hl
  refine lv_aload_n hx hb dX11_refuse_0 rfl (lv_at hl 0 rfl) ?_
  refine lv_iload_n hx hb dX11_refuse_1 rfl (lv_at hl 1 rfl) ?_
  refine va_put (D := G.1) (ci := 11) (v := .int (-3)) (ty := .int) (C := RX11) (T := TX11) (N := 17) hx hb hts inG_X11 tyX11 tyX11_ok nmX11 hown hK hP hD hS 0 rfl rfl 16 (by decide) (hts _ fl_X11_94) (fun _ h9 => h9) rfl (by decide +kernel) rfl rfl (Nat.le_of_ble_eq_true rfl) dX11_refuse_2 (fun H locs hP hD hS => ?_)
  refine g5_rs [(a_o, (oc11 a_h a_im a_ke a_k a_wa a_th a_ha a_wk a_r a_x e_tl e_fd e_fpl a_wd e_wn a_rf (-3))), (a_rf, (arI G 5 f_rf))] hP hD (fun hP hD => ?_)
  refine lv_iload_n hx hb dX11_refuse_5 rfl (lv_at hl 1 rfl) ?_
  refine lv_bipush (v := (-3)) hx hb dX11_refuse_6 (by decide) ?_
  refine lv_icmp_lt (tgt := 18) hx hb dX11_refuse_8 (by decide) (fun c_1 => ?_) (fun c_1 => ?_)
  ·
    exact absurd c_1 (by decide)
  ·
    refine lv_iload_n hx hb dX11_refuse_11 rfl (lv_at hl 1 rfl) ?_
    refine lv_ineg hx hb dX11_refuse_12 ?_
    refine g5_ti (v := 3) (by decide) ?_
    refine lv_iconst (v := 1) hx hb dX11_refuse_13 (by decide) ?_
    refine lv_isub hx hb dX11_refuse_14 ?_
    refine g5_ti (v := 2) (by decide) ?_
    refine lv_goto (tgt := 22) hx hb dX11_refuse_15 (by decide) ?_
    refine lv_istore_n (lv' := [(2, .int 2), (0, .ref a_o), (1, .int (-3))]) hx hb dX11_refuse_22 rfl hl (by decide) rfl (fun ls hl => ?_)
    refine lv_iload_n hx hb dX11_refuse_23 rfl (lv_at hl 0 rfl) ?_
    refine lv_if_lt (tgt := 46) hx hb dX11_refuse_24 (by decide) (fun c_2 => ?_) (fun c_2 => ?_)
    ·
      exact absurd c_2 (by decide)
    ·
      refine lv_iload_n hx hb dX11_refuse_27 rfl (lv_at hl 0 rfl) ?_
      refine lv_aload_n hx hb dX11_refuse_28 rfl (lv_at hl 1 rfl) ?_
      refine va_get (D := G.1) (ci := 11) (v := .ref a_rf) (C := RX11) (T := TX11) (N := 17) hx hb hts inG_X11 hown hK hP 0 rfl rfl 15 (by decide) (hts _ fl_X11_91) (fun _ h9 => h9) rfl dX11_refuse_29 ?_
      refine va_alen hx hb hK hP 1 0 rfl rfl (v := 5) (by show Int32.ofNat 5 = 5; decide) dX11_refuse_32 ?_
      refine lv_icmp_ge (tgt := 46) hx hb dX11_refuse_33 (by decide) (fun c_3 => ?_) (fun c_3 => ?_)
      ·
        exact absurd c_3 (by decide)
      ·
        refine lv_aload_n hx hb dX11_refuse_36 rfl (lv_at hl 1 rfl) ?_
        refine va_get (D := G.1) (ci := 11) (v := .ref a_rf) (C := RX11) (T := TX11) (N := 17) hx hb hts inG_X11 hown hK hP 0 rfl rfl 15 (by decide) (hts _ fl_X11_91) (fun _ h9 => h9) rfl dX11_refuse_37 ?_
        refine lv_iload_n hx hb dX11_refuse_40 rfl (lv_at hl 0 rfl) ?_
        refine lv_dup2_11 hx hb dX11_refuse_41 rfl rfl ?_
        refine va_iald hx hb hK hP 1 0 rfl rfl (i := 2) (by unfold vp_in; decide) dX11_refuse_42 ?_
        refine g5_ti (v := (f_rf 2)) rfl ?_
        refine lv_iconst (v := 1) hx hb dX11_refuse_43 (by decide) ?_
        refine lv_iadd hx hb dX11_refuse_44 ?_
        refine va_iast hx hb hK hP hD hS 1 0 rfl rfl (i := 2) (x := ((f_rf 2) + 1)) (by unfold vp_in; decide) dX11_refuse_45 (fun H locs hP hD hS => ?_)
        refine g5_rs [(a_o, (oc11 a_h a_im a_ke a_k a_wa a_th a_ha a_wk a_r a_x e_tl e_fd e_fpl a_wd e_wn a_rf (-3))), (a_rf, (arI G 5 (upd f_rf 2 ((f_rf 2) + 1))))] hP hD (fun hP hD => ?_)
        refine lv_iload_n hx hb dX11_refuse_46 rfl (lv_at hl 2 rfl) ?_
        exact W.iret (v := (-3)) hx hb hr (fun t ht hW => ⟨⟨(-3), [(a_o, (oc11 a_h a_im a_ke a_k a_wa a_th a_ha a_wk a_r a_x e_tl e_fd e_fpl a_wd e_wn a_rf (-3))), (a_rf, (arI G 5 (upd f_rf 2 ((f_rf 2) + 1))))], rfl, ⟨(upd f_rf 2 ((f_rf 2) + 1)), rfl, rfl⟩, by rw [ht]; exact hP.sub [0, 1] rfl, hD.sub [0, 1] (by decide) rfl⟩, hS.F ht⟩) hS.2.2 dX11_refuse_47
set_option maxHeartbeats 4000000 in
set_option maxRecDepth 100000 in
theorem x_refuse5 (l : Launch) (G : g5_G) (a_o a_rf a_h a_im a_ke a_k a_wa a_th a_ha a_wk a_r a_x a_wd : Nat) (sz : Nat) (e_tl : Int32) (e_fd : Int32) (e_fpl : Int32) (e_wn : Int32) (e_lr : Int32) (f_rf : Nat → Int32) (h_e_tl : 0 ≤ e_tl.toInt ∧ e_tl.toInt ≤ 400) (h_e_wn : 0 ≤ e_wn.toInt ∧ e_wn.toInt ≤ 1) : Met l yX11_refuse (wsG yX11_refuse cX11_refuse 3 (some .int)) ({ frames := 0, cells := 0, slots := 0, locals := 0 }) (va_Pc [.ref a_o, .int (-5)] (g5_P G [(a_o, (oc11 a_h a_im a_ke a_k a_wa a_th a_ha a_wk a_r a_x e_tl e_fd e_fpl a_wd e_wn a_rf e_lr)), (a_rf, (arI G 5 f_rf))] sz)) (va_Qi (fun (r : Int32) (u : va_W) => (∃ (o_rf : Nat → Int32), (r = (-5)) ∧ (u = [(a_o, (oc11 a_h a_im a_ke a_k a_wa a_th a_ha a_wk a_r a_x e_tl e_fd e_fpl a_wd e_wn a_rf (-5))), (a_rf, (arI G 5 o_rf))]))) (g5_B G (va_A [(a_o, (oc11 a_h a_im a_ke a_k a_wa a_th a_ha a_wk a_r a_x e_tl e_fd e_fpl a_wd e_wn a_rf e_lr)), (a_rf, (arI G 5 f_rf))] sz)) (va_A [(a_o, (oc11 a_h a_im a_ke a_k a_wa a_th a_ha a_wk a_r a_x e_tl e_fd e_fpl a_wd e_wn a_rf e_lr)), (a_rf, (arI G 5 f_rf))] sz)) 0 0 (va_A [(a_o, (oc11 a_h a_im a_ke a_k a_wa a_th a_ha a_wk a_r a_x e_tl e_fd e_fpl a_wd e_wn a_rf e_lr)), (a_rf, (arI G 5 f_rf))] sz) := by
  refine Met.ofW (cc := cX11_refuse) (maxL := 3) (ret := (some .int)) (by decide) rfl ?_
  intro p e s m args below meth c s₁ B hml hv
  obtain ⟨rfl, hsz, hP, hK, hD0, hN, hT⟩ := hv
  have hx := B.exec
  have hb := B.bytes
  have hr := B.returns
  have hts : ∀ w ∈ tblG, w.before _ s = true := fun w h => atoms_spec (ws := (wsG yX11_refuse cX11_refuse 3 (some .int))) B.pre w (List.mem_cons_of_mem _ h)
  have hown : s.vm.findClass RX11 = some m.cls := findClass_of_methodNamed B.named
  have hlocks := B.notSynchronized
  subst hsz
  have hD := hD0.self (sz := s.heap.size)
  generalize hAe : va_A [(a_o, (oc11 a_h a_im a_ke a_k a_wa a_th a_ha a_wk a_r a_x e_tl e_fd e_fpl a_wd e_wn a_rf e_lr)), (a_rf, (arI G 5 f_rf))] s.heap.size = A at hD hT ⊢
  have hA : ∀ q : Nat, s.heap.size ≤ q → A q := fun q h => by rw [← hAe]; exact Or.inr h
  have hS : va_S A s.heap s.heap [] := va_S.rf
  have hP : va_P G.1 vwCl [(a_o, (oc11 a_h a_im a_ke a_k a_wa a_th a_ha a_wk a_r a_x e_tl e_fd e_fpl a_wd e_wn a_rf e_lr)), (a_rf, (arI G 5 f_rf))] s.heap := hP
  have hl := lv_entry ([.ref a_o, .int (-5)]) (n := 3) (Nat.le_of_ble_eq_true rfl)
  rw [lg_entry_eq]
  generalize (lg_sl ([.ref a_o, .int (-5)]) ++ List.replicate (3 - (lg_sl ([.ref a_o, .int (-5)])).length) Slot.unset).toArray = ls at hl ⊢
  have hl : lv_has ls 3 [(0, .ref a_o), (1, .int (-5))] := hl
  refine lv_aload_n hx hb dX11_refuse_0 rfl (lv_at hl 0 rfl) ?_
  refine lv_iload_n hx hb dX11_refuse_1 rfl (lv_at hl 1 rfl) ?_
  refine va_put (D := G.1) (ci := 11) (v := .int (-5)) (ty := .int) (C := RX11) (T := TX11) (N := 17) hx hb hts inG_X11 tyX11 tyX11_ok nmX11 hown hK hP hD hS 0 rfl rfl 16 (by decide) (hts _ fl_X11_94) (fun _ h9 => h9) rfl (by decide +kernel) rfl rfl (Nat.le_of_ble_eq_true rfl) dX11_refuse_2 (fun H locs hP hD hS => ?_)
  refine g5_rs [(a_o, (oc11 a_h a_im a_ke a_k a_wa a_th a_ha a_wk a_r a_x e_tl e_fd e_fpl a_wd e_wn a_rf (-5))), (a_rf, (arI G 5 f_rf))] hP hD (fun hP hD => ?_)
  refine lv_iload_n hx hb dX11_refuse_5 rfl (lv_at hl 1 rfl) ?_
  refine lv_bipush (v := (-3)) hx hb dX11_refuse_6 (by decide) ?_
  refine lv_icmp_lt (tgt := 18) hx hb dX11_refuse_8 (by decide) (fun c_1 => ?_) (fun c_1 => ?_)
  ·
    refine lv_iload_n hx hb dX11_refuse_18 rfl (lv_at hl 1 rfl) ?_
    refine lv_ineg hx hb dX11_refuse_19 ?_
    refine g5_ti (v := 5) (by decide) ?_
    refine lv_iconst (v := 2) hx hb dX11_refuse_20 (by decide) ?_
    refine lv_isub hx hb dX11_refuse_21 ?_
    refine g5_ti (v := 3) (by decide) ?_
    refine lv_istore_n (lv' := [(2, .int 3), (0, .ref a_o), (1, .int (-5))]) hx hb dX11_refuse_22 rfl hl (by decide) rfl (fun ls hl => ?_)
    refine lv_iload_n hx hb dX11_refuse_23 rfl (lv_at hl 0 rfl) ?_
    refine lv_if_lt (tgt := 46) hx hb dX11_refuse_24 (by decide) (fun c_2 => ?_) (fun c_2 => ?_)
    ·
      exact absurd c_2 (by decide)
    ·
      refine lv_iload_n hx hb dX11_refuse_27 rfl (lv_at hl 0 rfl) ?_
      refine lv_aload_n hx hb dX11_refuse_28 rfl (lv_at hl 1 rfl) ?_
      refine va_get (D := G.1) (ci := 11) (v := .ref a_rf) (C := RX11) (T := TX11) (N := 17) hx hb hts inG_X11 hown hK hP 0 rfl rfl 15 (by decide) (hts _ fl_X11_91) (fun _ h9 => h9) rfl dX11_refuse_29 ?_
      refine va_alen hx hb hK hP 1 0 rfl rfl (v := 5) (by show Int32.ofNat 5 = 5; decide) dX11_refuse_32 ?_
      refine lv_icmp_ge (tgt := 46) hx hb dX11_refuse_33 (by decide) (fun c_3 => ?_) (fun c_3 => ?_)
      ·
        exact absurd c_3 (by decide)
      ·
        refine lv_aload_n hx hb dX11_refuse_36 rfl (lv_at hl 1 rfl) ?_
        refine va_get (D := G.1) (ci := 11) (v := .ref a_rf) (C := RX11) (T := TX11) (N := 17) hx hb hts inG_X11 hown hK hP 0 rfl rfl 15 (by decide) (hts _ fl_X11_91) (fun _ h9 => h9) rfl dX11_refuse_37 ?_
        refine lv_iload_n hx hb dX11_refuse_40 rfl (lv_at hl 0 rfl) ?_
        refine lv_dup2_11 hx hb dX11_refuse_41 rfl rfl ?_
        refine va_iald hx hb hK hP 1 0 rfl rfl (i := 3) (by unfold vp_in; decide) dX11_refuse_42 ?_
        refine g5_ti (v := (f_rf 3)) rfl ?_
        refine lv_iconst (v := 1) hx hb dX11_refuse_43 (by decide) ?_
        refine lv_iadd hx hb dX11_refuse_44 ?_
        refine va_iast hx hb hK hP hD hS 1 0 rfl rfl (i := 3) (x := ((f_rf 3) + 1)) (by unfold vp_in; decide) dX11_refuse_45 (fun H locs hP hD hS => ?_)
        refine g5_rs [(a_o, (oc11 a_h a_im a_ke a_k a_wa a_th a_ha a_wk a_r a_x e_tl e_fd e_fpl a_wd e_wn a_rf (-5))), (a_rf, (arI G 5 (upd f_rf 3 ((f_rf 3) + 1))))] hP hD (fun hP hD => ?_)
        refine lv_iload_n hx hb dX11_refuse_46 rfl (lv_at hl 2 rfl) ?_
        exact W.iret (v := (-5)) hx hb hr (fun t ht hW => ⟨⟨(-5), [(a_o, (oc11 a_h a_im a_ke a_k a_wa a_th a_ha a_wk a_r a_x e_tl e_fd e_fpl a_wd e_wn a_rf (-5))), (a_rf, (arI G 5 (upd f_rf 3 ((f_rf 3) + 1))))], rfl, ⟨(upd f_rf 3 ((f_rf 3) + 1)), rfl, rfl⟩, by rw [ht]; exact hP.sub [0, 1] rfl, hD.sub [0, 1] (by decide) rfl⟩, hS.F ht⟩) hS.2.2 dX11_refuse_47
  ·
    exact absurd c_1 (by decide)
set_option maxHeartbeats 4000000 in
set_option maxRecDepth 100000 in
theorem x_refuse6 (l : Launch) (G : g5_G) (a_o a_rf a_h a_im a_ke a_k a_wa a_th a_ha a_wk a_r a_x a_wd : Nat) (sz : Nat) (e_tl : Int32) (e_fd : Int32) (e_fpl : Int32) (e_wn : Int32) (e_lr : Int32) (f_rf : Nat → Int32) (h_e_tl : 0 ≤ e_tl.toInt ∧ e_tl.toInt ≤ 400) (h_e_wn : 0 ≤ e_wn.toInt ∧ e_wn.toInt ≤ 1) : Met l yX11_refuse (wsG yX11_refuse cX11_refuse 3 (some .int)) ({ frames := 0, cells := 0, slots := 0, locals := 0 }) (va_Pc [.ref a_o, .int (-6)] (g5_P G [(a_o, (oc11 a_h a_im a_ke a_k a_wa a_th a_ha a_wk a_r a_x e_tl e_fd e_fpl a_wd e_wn a_rf e_lr)), (a_rf, (arI G 5 f_rf))] sz)) (va_Qi (fun (r : Int32) (u : va_W) => (∃ (o_rf : Nat → Int32), (r = (-6)) ∧ (u = [(a_o, (oc11 a_h a_im a_ke a_k a_wa a_th a_ha a_wk a_r a_x e_tl e_fd e_fpl a_wd e_wn a_rf (-6))), (a_rf, (arI G 5 o_rf))]))) (g5_B G (va_A [(a_o, (oc11 a_h a_im a_ke a_k a_wa a_th a_ha a_wk a_r a_x e_tl e_fd e_fpl a_wd e_wn a_rf e_lr)), (a_rf, (arI G 5 f_rf))] sz)) (va_A [(a_o, (oc11 a_h a_im a_ke a_k a_wa a_th a_ha a_wk a_r a_x e_tl e_fd e_fpl a_wd e_wn a_rf e_lr)), (a_rf, (arI G 5 f_rf))] sz)) 0 0 (va_A [(a_o, (oc11 a_h a_im a_ke a_k a_wa a_th a_ha a_wk a_r a_x e_tl e_fd e_fpl a_wd e_wn a_rf e_lr)), (a_rf, (arI G 5 f_rf))] sz) := by
  refine Met.ofW (cc := cX11_refuse) (maxL := 3) (ret := (some .int)) (by decide) rfl ?_
  intro p e s m args below meth c s₁ B hml hv
  obtain ⟨rfl, hsz, hP, hK, hD0, hN, hT⟩ := hv
  have hx := B.exec
  have hb := B.bytes
  have hr := B.returns
  have hts : ∀ w ∈ tblG, w.before _ s = true := fun w h => atoms_spec (ws := (wsG yX11_refuse cX11_refuse 3 (some .int))) B.pre w (List.mem_cons_of_mem _ h)
  have hown : s.vm.findClass RX11 = some m.cls := findClass_of_methodNamed B.named
  have hlocks := B.notSynchronized
  subst hsz
  have hD := hD0.self (sz := s.heap.size)
  generalize hAe : va_A [(a_o, (oc11 a_h a_im a_ke a_k a_wa a_th a_ha a_wk a_r a_x e_tl e_fd e_fpl a_wd e_wn a_rf e_lr)), (a_rf, (arI G 5 f_rf))] s.heap.size = A at hD hT ⊢
  have hA : ∀ q : Nat, s.heap.size ≤ q → A q := fun q h => by rw [← hAe]; exact Or.inr h
  have hS : va_S A s.heap s.heap [] := va_S.rf
  have hP : va_P G.1 vwCl [(a_o, (oc11 a_h a_im a_ke a_k a_wa a_th a_ha a_wk a_r a_x e_tl e_fd e_fpl a_wd e_wn a_rf e_lr)), (a_rf, (arI G 5 f_rf))] s.heap := hP
  have hl := lv_entry ([.ref a_o, .int (-6)]) (n := 3) (Nat.le_of_ble_eq_true rfl)
  rw [lg_entry_eq]
  generalize (lg_sl ([.ref a_o, .int (-6)]) ++ List.replicate (3 - (lg_sl ([.ref a_o, .int (-6)])).length) Slot.unset).toArray = ls at hl ⊢
  have hl : lv_has ls 3 [(0, .ref a_o), (1, .int (-6))] := hl
  refine lv_aload_n hx hb dX11_refuse_0 rfl (lv_at hl 0 rfl) ?_
  refine lv_iload_n hx hb dX11_refuse_1 rfl (lv_at hl 1 rfl) ?_
  refine va_put (D := G.1) (ci := 11) (v := .int (-6)) (ty := .int) (C := RX11) (T := TX11) (N := 17) hx hb hts inG_X11 tyX11 tyX11_ok nmX11 hown hK hP hD hS 0 rfl rfl 16 (by decide) (hts _ fl_X11_94) (fun _ h9 => h9) rfl (by decide +kernel) rfl rfl (Nat.le_of_ble_eq_true rfl) dX11_refuse_2 (fun H locs hP hD hS => ?_)
  refine g5_rs [(a_o, (oc11 a_h a_im a_ke a_k a_wa a_th a_ha a_wk a_r a_x e_tl e_fd e_fpl a_wd e_wn a_rf (-6))), (a_rf, (arI G 5 f_rf))] hP hD (fun hP hD => ?_)
  refine lv_iload_n hx hb dX11_refuse_5 rfl (lv_at hl 1 rfl) ?_
  refine lv_bipush (v := (-3)) hx hb dX11_refuse_6 (by decide) ?_
  refine lv_icmp_lt (tgt := 18) hx hb dX11_refuse_8 (by decide) (fun c_1 => ?_) (fun c_1 => ?_)
  ·
    refine lv_iload_n hx hb dX11_refuse_18 rfl (lv_at hl 1 rfl) ?_
    refine lv_ineg hx hb dX11_refuse_19 ?_
    refine g5_ti (v := 6) (by decide) ?_
    refine lv_iconst (v := 2) hx hb dX11_refuse_20 (by decide) ?_
    refine lv_isub hx hb dX11_refuse_21 ?_
    refine g5_ti (v := 4) (by decide) ?_
    refine lv_istore_n (lv' := [(2, .int 4), (0, .ref a_o), (1, .int (-6))]) hx hb dX11_refuse_22 rfl hl (by decide) rfl (fun ls hl => ?_)
    refine lv_iload_n hx hb dX11_refuse_23 rfl (lv_at hl 0 rfl) ?_
    refine lv_if_lt (tgt := 46) hx hb dX11_refuse_24 (by decide) (fun c_2 => ?_) (fun c_2 => ?_)
    ·
      exact absurd c_2 (by decide)
    ·
      refine lv_iload_n hx hb dX11_refuse_27 rfl (lv_at hl 0 rfl) ?_
      refine lv_aload_n hx hb dX11_refuse_28 rfl (lv_at hl 1 rfl) ?_
      refine va_get (D := G.1) (ci := 11) (v := .ref a_rf) (C := RX11) (T := TX11) (N := 17) hx hb hts inG_X11 hown hK hP 0 rfl rfl 15 (by decide) (hts _ fl_X11_91) (fun _ h9 => h9) rfl dX11_refuse_29 ?_
      refine va_alen hx hb hK hP 1 0 rfl rfl (v := 5) (by show Int32.ofNat 5 = 5; decide) dX11_refuse_32 ?_
      refine lv_icmp_ge (tgt := 46) hx hb dX11_refuse_33 (by decide) (fun c_3 => ?_) (fun c_3 => ?_)
      ·
        exact absurd c_3 (by decide)
      ·
        refine lv_aload_n hx hb dX11_refuse_36 rfl (lv_at hl 1 rfl) ?_
        refine va_get (D := G.1) (ci := 11) (v := .ref a_rf) (C := RX11) (T := TX11) (N := 17) hx hb hts inG_X11 hown hK hP 0 rfl rfl 15 (by decide) (hts _ fl_X11_91) (fun _ h9 => h9) rfl dX11_refuse_37 ?_
        refine lv_iload_n hx hb dX11_refuse_40 rfl (lv_at hl 0 rfl) ?_
        refine lv_dup2_11 hx hb dX11_refuse_41 rfl rfl ?_
        refine va_iald hx hb hK hP 1 0 rfl rfl (i := 4) (by unfold vp_in; decide) dX11_refuse_42 ?_
        refine g5_ti (v := (f_rf 4)) rfl ?_
        refine lv_iconst (v := 1) hx hb dX11_refuse_43 (by decide) ?_
        refine lv_iadd hx hb dX11_refuse_44 ?_
        refine va_iast hx hb hK hP hD hS 1 0 rfl rfl (i := 4) (x := ((f_rf 4) + 1)) (by unfold vp_in; decide) dX11_refuse_45 (fun H locs hP hD hS => ?_)
        refine g5_rs [(a_o, (oc11 a_h a_im a_ke a_k a_wa a_th a_ha a_wk a_r a_x e_tl e_fd e_fpl a_wd e_wn a_rf (-6))), (a_rf, (arI G 5 (upd f_rf 4 ((f_rf 4) + 1))))] hP hD (fun hP hD => ?_)
        refine lv_iload_n hx hb dX11_refuse_46 rfl (lv_at hl 2 rfl) ?_
        exact W.iret (v := (-6)) hx hb hr (fun t ht hW => ⟨⟨(-6), [(a_o, (oc11 a_h a_im a_ke a_k a_wa a_th a_ha a_wk a_r a_x e_tl e_fd e_fpl a_wd e_wn a_rf (-6))), (a_rf, (arI G 5 (upd f_rf 4 ((f_rf 4) + 1))))], rfl, ⟨(upd f_rf 4 ((f_rf 4) + 1)), rfl, rfl⟩, by rw [ht]; exact hP.sub [0, 1] rfl, hD.sub [0, 1] (by decide) rfl⟩, hS.F ht⟩) hS.2.2 dX11_refuse_47
  ·
    exact absurd c_1 (by decide)
theorem dgX11_done_0 : ∀ r ∈ ([(0, (.aload_n 0, 1)), (1, (.iconst 0, 1)), (2, (.putfield 94, 3)), (5, (.iload_n 1, 1)), (6, (.ireturn, 1))] : List (Nat × (Instr × Nat))), decode cX11_done r.1 = .ok r.2 := by decide +kernel
theorem dX11_done_0 : decode cX11_done 0 = .ok (.aload_n 0, 1) := dgX11_done_0 (0, (.aload_n 0, 1)) (List.mem_of_getElem? (i := 0) rfl)
theorem dX11_done_1 : decode cX11_done 1 = .ok (.iconst 0, 1) := dgX11_done_0 (1, (.iconst 0, 1)) (List.mem_of_getElem? (i := 1) rfl)
theorem dX11_done_2 : decode cX11_done 2 = .ok (.putfield 94, 3) := dgX11_done_0 (2, (.putfield 94, 3)) (List.mem_of_getElem? (i := 2) rfl)
theorem dX11_done_5 : decode cX11_done 5 = .ok (.iload_n 1, 1) := dgX11_done_0 (5, (.iload_n 1, 1)) (List.mem_of_getElem? (i := 3) rfl)
theorem dX11_done_6 : decode cX11_done 6 = .ok (.ireturn, 1) := dgX11_done_0 (6, (.ireturn, 1)) (List.mem_of_getElem? (i := 4) rfl)
set_option maxHeartbeats 4000000 in
set_option maxRecDepth 100000 in
theorem x_done (l : Launch) (G : g5_G) (a_o a_h a_im a_ke a_k a_wa a_th a_ha a_wk a_r a_x a_wd a_rf : Nat) (sz : Nat) (e_tl : Int32) (e_fd : Int32) (e_fpl : Int32) (e_wn : Int32) (e_lr : Int32) (p_a : Int32) (h_e_tl : 0 ≤ e_tl.toInt ∧ e_tl.toInt ≤ 400) (h_e_wn : 0 ≤ e_wn.toInt ∧ e_wn.toInt ≤ 1) : Met l yX11_done (wsG yX11_done cX11_done 2 (some .int)) ({ frames := 0, cells := 0, slots := 0, locals := 0 }) (va_Pc [.ref a_o, .int p_a] (g5_P G [(a_o, (oc11 a_h a_im a_ke a_k a_wa a_th a_ha a_wk a_r a_x e_tl e_fd e_fpl a_wd e_wn a_rf e_lr))] sz)) (va_Qi (fun (r : Int32) (u : va_W) => ((r = p_a) ∧ (u = [(a_o, (oc11 a_h a_im a_ke a_k a_wa a_th a_ha a_wk a_r a_x e_tl e_fd e_fpl a_wd e_wn a_rf 0))]))) (g5_B G (va_A [(a_o, (oc11 a_h a_im a_ke a_k a_wa a_th a_ha a_wk a_r a_x e_tl e_fd e_fpl a_wd e_wn a_rf e_lr))] sz)) (va_A [(a_o, (oc11 a_h a_im a_ke a_k a_wa a_th a_ha a_wk a_r a_x e_tl e_fd e_fpl a_wd e_wn a_rf e_lr))] sz)) 0 0 (va_A [(a_o, (oc11 a_h a_im a_ke a_k a_wa a_th a_ha a_wk a_r a_x e_tl e_fd e_fpl a_wd e_wn a_rf e_lr))] sz) := by
  refine Met.ofW (cc := cX11_done) (maxL := 2) (ret := (some .int)) (by decide) rfl ?_
  intro p e s m args below meth c s₁ B hml hv
  obtain ⟨rfl, hsz, hP, hK, hD0, hN, hT⟩ := hv
  have hx := B.exec
  have hb := B.bytes
  have hr := B.returns
  have hts : ∀ w ∈ tblG, w.before _ s = true := fun w h => atoms_spec (ws := (wsG yX11_done cX11_done 2 (some .int))) B.pre w (List.mem_cons_of_mem _ h)
  have hown : s.vm.findClass RX11 = some m.cls := findClass_of_methodNamed B.named
  have hlocks := B.notSynchronized
  subst hsz
  have hD := hD0.self (sz := s.heap.size)
  generalize hAe : va_A [(a_o, (oc11 a_h a_im a_ke a_k a_wa a_th a_ha a_wk a_r a_x e_tl e_fd e_fpl a_wd e_wn a_rf e_lr))] s.heap.size = A at hD hT ⊢
  have hA : ∀ q : Nat, s.heap.size ≤ q → A q := fun q h => by rw [← hAe]; exact Or.inr h
  have hS : va_S A s.heap s.heap [] := va_S.rf
  have hP : va_P G.1 vwCl [(a_o, (oc11 a_h a_im a_ke a_k a_wa a_th a_ha a_wk a_r a_x e_tl e_fd e_fpl a_wd e_wn a_rf e_lr))] s.heap := hP
  have hl := lv_entry ([.ref a_o, .int p_a]) (n := 2) (Nat.le_of_ble_eq_true rfl)
  rw [lg_entry_eq]
  generalize (lg_sl ([.ref a_o, .int p_a]) ++ List.replicate (2 - (lg_sl ([.ref a_o, .int p_a])).length) Slot.unset).toArray = ls at hl ⊢
  have hl : lv_has ls 2 [(0, .ref a_o), (1, .int p_a)] := hl
  refine lv_aload_n hx hb dX11_done_0 rfl (lv_at hl 0 rfl) ?_
  refine lv_iconst (v := 0) hx hb dX11_done_1 (by decide) ?_
  refine va_put (D := G.1) (ci := 11) (v := .int 0) (ty := .int) (C := RX11) (T := TX11) (N := 17) hx hb hts inG_X11 tyX11 tyX11_ok nmX11 hown hK hP hD hS 0 rfl rfl 16 (by decide) (hts _ fl_X11_94) (fun _ h9 => h9) rfl (by decide +kernel) rfl rfl (Nat.le_of_ble_eq_true rfl) dX11_done_2 (fun H locs hP hD hS => ?_)
  refine g5_rs [(a_o, (oc11 a_h a_im a_ke a_k a_wa a_th a_ha a_wk a_r a_x e_tl e_fd e_fpl a_wd e_wn a_rf 0))] hP hD (fun hP hD => ?_)
  refine lv_iload_n hx hb dX11_done_5 rfl (lv_at hl 1 rfl) ?_
  exact W.iret (v := p_a) hx hb hr (fun t ht hW => ⟨⟨p_a, [(a_o, (oc11 a_h a_im a_ke a_k a_wa a_th a_ha a_wk a_r a_x e_tl e_fd e_fpl a_wd e_wn a_rf 0))], rfl, ⟨rfl, rfl⟩, by rw [ht]; exact hP.sub [0] rfl, hD.sub [0] (by decide) rfl⟩, hS.F ht⟩) hS.2.2 dX11_done_6
theorem dgX11_wall_0 : ∀ r ∈ ([(0, (.iload_n 1, 1)), (1, (.invokestatic 97, 3)), (4, (.ifCond .eq 10, 3)), (7, (.iload_n 2, 1)), (8, (.invokestatic 101, 3)), (11, (.ifCond .ne 9, 3)), (14, (.aload_n 0, 1)), (15, (.iconst (-1), 1)), (16, (.invokevirtual 104, 3)), (19, (.ireturn, 1)), (20, (.aload_n 0, 1)), (21, (.getfield 12, 3)), (24, (.iload_n 1, 1)), (25, (.invokevirtual 108, 3)), (28, (.ifCond .eq 10, 3)), (31, (.aload_n 0, 1)), (32, (.bipush (-3), 2)), (34, (.invokevirtual 104, 3)), (37, (.ireturn, 1)), (38, (.aload_n 0, 1)), (39, (.getfield 12, 3)), (42, (.getfield 111, 3)), (45, (.iload_n 1, 1)), (46, (.invokestatic 115, 3)), (49, (.ifCond .eq 7, 3)), (52, (.iconst 1, 1)), (53, (.goto 4, 3)), (56, (.iconst 0, 1)), (57, (.istore_n 3, 1)), (58, (.aload_n 0, 1)), (59, (.getfield 12, 3)), (62, (.iload_n 2, 1)), (63, (.iconst 1, 1)), (64, (.if_icmp .ne 17, 3)), (67, (.aload_n 0, 1)), (68, (.getfield 12, 3)), (71, (.getfield 111, 3)), (74, (.lconst 1, 1)), (75, (.iload_n 1, 1)), (76, (.lshl, 1))] : List (Nat × (Instr × Nat))), decode cX11_wall r.1 = .ok r.2 := by decide +kernel
theorem dX11_wall_0 : decode cX11_wall 0 = .ok (.iload_n 1, 1) := dgX11_wall_0 (0, (.iload_n 1, 1)) (List.mem_of_getElem? (i := 0) rfl)
theorem dX11_wall_1 : decode cX11_wall 1 = .ok (.invokestatic 97, 3) := dgX11_wall_0 (1, (.invokestatic 97, 3)) (List.mem_of_getElem? (i := 1) rfl)
theorem dX11_wall_4 : decode cX11_wall 4 = .ok (.ifCond .eq 10, 3) := dgX11_wall_0 (4, (.ifCond .eq 10, 3)) (List.mem_of_getElem? (i := 2) rfl)
theorem dX11_wall_7 : decode cX11_wall 7 = .ok (.iload_n 2, 1) := dgX11_wall_0 (7, (.iload_n 2, 1)) (List.mem_of_getElem? (i := 3) rfl)
theorem dX11_wall_8 : decode cX11_wall 8 = .ok (.invokestatic 101, 3) := dgX11_wall_0 (8, (.invokestatic 101, 3)) (List.mem_of_getElem? (i := 4) rfl)
theorem dX11_wall_11 : decode cX11_wall 11 = .ok (.ifCond .ne 9, 3) := dgX11_wall_0 (11, (.ifCond .ne 9, 3)) (List.mem_of_getElem? (i := 5) rfl)
theorem dX11_wall_14 : decode cX11_wall 14 = .ok (.aload_n 0, 1) := dgX11_wall_0 (14, (.aload_n 0, 1)) (List.mem_of_getElem? (i := 6) rfl)
theorem dX11_wall_15 : decode cX11_wall 15 = .ok (.iconst (-1), 1) := dgX11_wall_0 (15, (.iconst (-1), 1)) (List.mem_of_getElem? (i := 7) rfl)
theorem dX11_wall_16 : decode cX11_wall 16 = .ok (.invokevirtual 104, 3) := dgX11_wall_0 (16, (.invokevirtual 104, 3)) (List.mem_of_getElem? (i := 8) rfl)
theorem dX11_wall_19 : decode cX11_wall 19 = .ok (.ireturn, 1) := dgX11_wall_0 (19, (.ireturn, 1)) (List.mem_of_getElem? (i := 9) rfl)
theorem dX11_wall_20 : decode cX11_wall 20 = .ok (.aload_n 0, 1) := dgX11_wall_0 (20, (.aload_n 0, 1)) (List.mem_of_getElem? (i := 10) rfl)
theorem dX11_wall_21 : decode cX11_wall 21 = .ok (.getfield 12, 3) := dgX11_wall_0 (21, (.getfield 12, 3)) (List.mem_of_getElem? (i := 11) rfl)
theorem dX11_wall_24 : decode cX11_wall 24 = .ok (.iload_n 1, 1) := dgX11_wall_0 (24, (.iload_n 1, 1)) (List.mem_of_getElem? (i := 12) rfl)
theorem dX11_wall_25 : decode cX11_wall 25 = .ok (.invokevirtual 108, 3) := dgX11_wall_0 (25, (.invokevirtual 108, 3)) (List.mem_of_getElem? (i := 13) rfl)
theorem dX11_wall_28 : decode cX11_wall 28 = .ok (.ifCond .eq 10, 3) := dgX11_wall_0 (28, (.ifCond .eq 10, 3)) (List.mem_of_getElem? (i := 14) rfl)
theorem dX11_wall_31 : decode cX11_wall 31 = .ok (.aload_n 0, 1) := dgX11_wall_0 (31, (.aload_n 0, 1)) (List.mem_of_getElem? (i := 15) rfl)
theorem dX11_wall_32 : decode cX11_wall 32 = .ok (.bipush (-3), 2) := dgX11_wall_0 (32, (.bipush (-3), 2)) (List.mem_of_getElem? (i := 16) rfl)
theorem dX11_wall_34 : decode cX11_wall 34 = .ok (.invokevirtual 104, 3) := dgX11_wall_0 (34, (.invokevirtual 104, 3)) (List.mem_of_getElem? (i := 17) rfl)
theorem dX11_wall_37 : decode cX11_wall 37 = .ok (.ireturn, 1) := dgX11_wall_0 (37, (.ireturn, 1)) (List.mem_of_getElem? (i := 18) rfl)
theorem dX11_wall_38 : decode cX11_wall 38 = .ok (.aload_n 0, 1) := dgX11_wall_0 (38, (.aload_n 0, 1)) (List.mem_of_getElem? (i := 19) rfl)
theorem dX11_wall_39 : decode cX11_wall 39 = .ok (.getfield 12, 3) := dgX11_wall_0 (39, (.getfield 12, 3)) (List.mem_of_getElem? (i := 20) rfl)
theorem dX11_wall_42 : decode cX11_wall 42 = .ok (.getfield 111, 3) := dgX11_wall_0 (42, (.getfield 111, 3)) (List.mem_of_getElem? (i := 21) rfl)
theorem dX11_wall_45 : decode cX11_wall 45 = .ok (.iload_n 1, 1) := dgX11_wall_0 (45, (.iload_n 1, 1)) (List.mem_of_getElem? (i := 22) rfl)
theorem dX11_wall_46 : decode cX11_wall 46 = .ok (.invokestatic 115, 3) := dgX11_wall_0 (46, (.invokestatic 115, 3)) (List.mem_of_getElem? (i := 23) rfl)
theorem dX11_wall_49 : decode cX11_wall 49 = .ok (.ifCond .eq 7, 3) := dgX11_wall_0 (49, (.ifCond .eq 7, 3)) (List.mem_of_getElem? (i := 24) rfl)
theorem dX11_wall_52 : decode cX11_wall 52 = .ok (.iconst 1, 1) := dgX11_wall_0 (52, (.iconst 1, 1)) (List.mem_of_getElem? (i := 25) rfl)
theorem dX11_wall_53 : decode cX11_wall 53 = .ok (.goto 4, 3) := dgX11_wall_0 (53, (.goto 4, 3)) (List.mem_of_getElem? (i := 26) rfl)
theorem dX11_wall_56 : decode cX11_wall 56 = .ok (.iconst 0, 1) := dgX11_wall_0 (56, (.iconst 0, 1)) (List.mem_of_getElem? (i := 27) rfl)
theorem dX11_wall_57 : decode cX11_wall 57 = .ok (.istore_n 3, 1) := dgX11_wall_0 (57, (.istore_n 3, 1)) (List.mem_of_getElem? (i := 28) rfl)
theorem dX11_wall_58 : decode cX11_wall 58 = .ok (.aload_n 0, 1) := dgX11_wall_0 (58, (.aload_n 0, 1)) (List.mem_of_getElem? (i := 29) rfl)
theorem dX11_wall_59 : decode cX11_wall 59 = .ok (.getfield 12, 3) := dgX11_wall_0 (59, (.getfield 12, 3)) (List.mem_of_getElem? (i := 30) rfl)
theorem dX11_wall_62 : decode cX11_wall 62 = .ok (.iload_n 2, 1) := dgX11_wall_0 (62, (.iload_n 2, 1)) (List.mem_of_getElem? (i := 31) rfl)
theorem dX11_wall_63 : decode cX11_wall 63 = .ok (.iconst 1, 1) := dgX11_wall_0 (63, (.iconst 1, 1)) (List.mem_of_getElem? (i := 32) rfl)
theorem dX11_wall_64 : decode cX11_wall 64 = .ok (.if_icmp .ne 17, 3) := dgX11_wall_0 (64, (.if_icmp .ne 17, 3)) (List.mem_of_getElem? (i := 33) rfl)
theorem dX11_wall_67 : decode cX11_wall 67 = .ok (.aload_n 0, 1) := dgX11_wall_0 (67, (.aload_n 0, 1)) (List.mem_of_getElem? (i := 34) rfl)
theorem dX11_wall_68 : decode cX11_wall 68 = .ok (.getfield 12, 3) := dgX11_wall_0 (68, (.getfield 12, 3)) (List.mem_of_getElem? (i := 35) rfl)
theorem dX11_wall_71 : decode cX11_wall 71 = .ok (.getfield 111, 3) := dgX11_wall_0 (71, (.getfield 111, 3)) (List.mem_of_getElem? (i := 36) rfl)
theorem dX11_wall_74 : decode cX11_wall 74 = .ok (.lconst 1, 1) := dgX11_wall_0 (74, (.lconst 1, 1)) (List.mem_of_getElem? (i := 37) rfl)
theorem dX11_wall_75 : decode cX11_wall 75 = .ok (.iload_n 1, 1) := dgX11_wall_0 (75, (.iload_n 1, 1)) (List.mem_of_getElem? (i := 38) rfl)
theorem dX11_wall_76 : decode cX11_wall 76 = .ok (.lshl, 1) := dgX11_wall_0 (76, (.lshl, 1)) (List.mem_of_getElem? (i := 39) rfl)
theorem dgX11_wall_1 : ∀ r ∈ ([(77, (.lor, 1)), (78, (.goto 18, 3)), (81, (.aload_n 0, 1)), (82, (.getfield 12, 3)), (85, (.getfield 111, 3)), (88, (.lconst 1, 1)), (89, (.iload_n 1, 1)), (90, (.lshl, 1)), (91, (.ldc2_w 119, 3)), (94, (.lxor, 1)), (95, (.land, 1)), (96, (.putfield 111, 3)), (99, (.aload_n 0, 1)), (100, (.iload_n 3, 1)), (101, (.invokevirtual 121, 3)), (104, (.ireturn, 1))] : List (Nat × (Instr × Nat))), decode cX11_wall r.1 = .ok r.2 := by decide +kernel
theorem dX11_wall_77 : decode cX11_wall 77 = .ok (.lor, 1) := dgX11_wall_1 (77, (.lor, 1)) (List.mem_of_getElem? (i := 0) rfl)
theorem dX11_wall_78 : decode cX11_wall 78 = .ok (.goto 18, 3) := dgX11_wall_1 (78, (.goto 18, 3)) (List.mem_of_getElem? (i := 1) rfl)
theorem dX11_wall_81 : decode cX11_wall 81 = .ok (.aload_n 0, 1) := dgX11_wall_1 (81, (.aload_n 0, 1)) (List.mem_of_getElem? (i := 2) rfl)
theorem dX11_wall_82 : decode cX11_wall 82 = .ok (.getfield 12, 3) := dgX11_wall_1 (82, (.getfield 12, 3)) (List.mem_of_getElem? (i := 3) rfl)
theorem dX11_wall_85 : decode cX11_wall 85 = .ok (.getfield 111, 3) := dgX11_wall_1 (85, (.getfield 111, 3)) (List.mem_of_getElem? (i := 4) rfl)
theorem dX11_wall_88 : decode cX11_wall 88 = .ok (.lconst 1, 1) := dgX11_wall_1 (88, (.lconst 1, 1)) (List.mem_of_getElem? (i := 5) rfl)
theorem dX11_wall_89 : decode cX11_wall 89 = .ok (.iload_n 1, 1) := dgX11_wall_1 (89, (.iload_n 1, 1)) (List.mem_of_getElem? (i := 6) rfl)
theorem dX11_wall_90 : decode cX11_wall 90 = .ok (.lshl, 1) := dgX11_wall_1 (90, (.lshl, 1)) (List.mem_of_getElem? (i := 7) rfl)
theorem dX11_wall_91 : decode cX11_wall 91 = .ok (.ldc2_w 119, 3) := dgX11_wall_1 (91, (.ldc2_w 119, 3)) (List.mem_of_getElem? (i := 8) rfl)
theorem dX11_wall_94 : decode cX11_wall 94 = .ok (.lxor, 1) := dgX11_wall_1 (94, (.lxor, 1)) (List.mem_of_getElem? (i := 9) rfl)
theorem dX11_wall_95 : decode cX11_wall 95 = .ok (.land, 1) := dgX11_wall_1 (95, (.land, 1)) (List.mem_of_getElem? (i := 10) rfl)
theorem dX11_wall_96 : decode cX11_wall 96 = .ok (.putfield 111, 3) := dgX11_wall_1 (96, (.putfield 111, 3)) (List.mem_of_getElem? (i := 11) rfl)
theorem dX11_wall_99 : decode cX11_wall 99 = .ok (.aload_n 0, 1) := dgX11_wall_1 (99, (.aload_n 0, 1)) (List.mem_of_getElem? (i := 12) rfl)
theorem dX11_wall_100 : decode cX11_wall 100 = .ok (.iload_n 3, 1) := dgX11_wall_1 (100, (.iload_n 3, 1)) (List.mem_of_getElem? (i := 13) rfl)
theorem dX11_wall_101 : decode cX11_wall 101 = .ok (.invokevirtual 121, 3) := dgX11_wall_1 (101, (.invokevirtual 121, 3)) (List.mem_of_getElem? (i := 14) rfl)
theorem dX11_wall_104 : decode cX11_wall 104 = .ok (.ireturn, 1) := dgX11_wall_1 (104, (.ireturn, 1)) (List.mem_of_getElem? (i := 15) rfl)
theorem ml_X11_101 : Cond.methodLink RX11 101 yX11_isFlag ∈ tblG := tg 503 (by decide +kernel) (by decide +kernel)
theorem st_X11_isFlag : Cond.static yX11_isFlag ∈ tblG := tg 504 (by decide +kernel) (by decide +kernel)
theorem cd_X11_isFlag : Cond.code yX11_isFlag cX11_isFlag 1 (some .boolean) ∈ tblG := tg 505 (by decide +kernel) (by decide +kernel)
theorem gW_X11_isFlag : GoodIn tblG (wsG yX11_isFlag cX11_isFlag 1 (some .boolean)) := tgi cd_X11_isFlag
theorem gS_X11_101 : GoodIn tblG (va_wsS RX11 101 yX11_isFlag (wsG yX11_isFlag cX11_isFlag 1 (some .boolean))) := tgS ml_X11_101 st_X11_isFlag ini_X11 gW_X11_isFlag
theorem hs_X11_isFlag : yX11_isFlag.cls ≠ "java/lang/invoke/MethodHandle" ∧ yX11_isFlag.cls ≠ "java/lang/invoke/VarHandle" ∧ (parseMethodDescriptor yX11_isFlag.desc).map (fun d => d.parameters.length) = some 1 := by decide +kernel
theorem fl_X11_12 : Cond.fieldLink RX11 12 "LateGlass" "house" "LLateGlass$House;" ∈ tblG := tg 444 (by decide +kernel) (by decide +kernel)
theorem ml_X11_108 : Cond.methodLink RX11 108 yX1_isTaken ∈ tblG := tg 510 (by decide +kernel) (by decide +kernel)
theorem im_X1_isTaken : Cond.instanceMethod yX1_isTaken ∈ tblG := tg 511 (by decide +kernel) (by decide +kernel)
theorem se_X1_isTaken : Cond.selects RX1 yX1_isTaken yX1_isTaken ∈ tblG := tg 512 (by decide +kernel) (by decide +kernel)
theorem cd_X1_isTaken : Cond.code yX1_isTaken cX1_isTaken 3 (some .boolean) ∈ tblG := tg 513 (by decide +kernel) (by decide +kernel)
theorem gW_X1_isTaken : GoodIn tblG (wsG yX1_isTaken cX1_isTaken 3 (some .boolean)) := tgi cd_X1_isTaken
theorem gV_X11_108 : GoodIn tblG (wsV RX11 108 RX1 yX1_isTaken (wsG yX1_isTaken cX1_isTaken 3 (some .boolean))) := tgV ml_X11_108 im_X1_isTaken se_X1_isTaken ini_X1 gW_X1_isTaken
theorem hv_X1_isTaken : yX1_isTaken.cls = RX1 ∧ yX1_isTaken.cls ≠ "java/lang/invoke/MethodHandle" ∧ yX1_isTaken.cls ≠ "java/lang/invoke/VarHandle" ∧ (parseMethodDescriptor yX1_isTaken.desc).map (fun d => d.parameters.length) = some 1 := by decide +kernel
theorem ml_X11_104 : Cond.methodLink RX11 104 yX11_refuse ∈ tblG := tg 506 (by decide +kernel) (by decide +kernel)
theorem im_X11_refuse : Cond.instanceMethod yX11_refuse ∈ tblG := tg 508 (by decide +kernel) (by decide +kernel)
theorem se_X11_refuse : Cond.selects RX11 yX11_refuse yX11_refuse ∈ tblG := tg 0 (by decide +kernel) (by decide +kernel)
theorem cd_X11_refuse : Cond.code yX11_refuse cX11_refuse 3 (some .int) ∈ tblG := tg 509 (by decide +kernel) (by decide +kernel)
theorem gW_X11_refuse : GoodIn tblG (wsG yX11_refuse cX11_refuse 3 (some .int)) := tgi cd_X11_refuse
theorem gV_X11_104 : GoodIn tblG (wsV RX11 104 RX11 yX11_refuse (wsG yX11_refuse cX11_refuse 3 (some .int))) := tgV ml_X11_104 im_X11_refuse se_X11_refuse ini_X11 gW_X11_refuse
theorem hv_X11_refuse : yX11_refuse.cls = RX11 ∧ yX11_refuse.cls ≠ "java/lang/invoke/MethodHandle" ∧ yX11_refuse.cls ≠ "java/lang/invoke/VarHandle" ∧ (parseMethodDescriptor yX11_refuse.desc).map (fun d => d.parameters.length) = some 1 := by decide +kernel
theorem fl_X11_111 : Cond.fieldLink RX11 111 "LateGlass$House" "walls" "J" ∈ tblG := tg 154 (by decide +kernel) (by decide +kernel)
theorem ml_X11_115 : Cond.methodLink RX11 115 yX11_isOn ∈ tblG := tg 525 (by decide +kernel) (by decide +kernel)
theorem gS_X11_115 : GoodIn tblG (va_wsS RX11 115 yX11_isOn (wsG yX11_isOn cX11_isOn 3 (some .boolean))) := tgS ml_X11_115 st_X11_isOn ini_X11 gW_X11_isOn
theorem kl_X11_119 : Cond.constantLong RX11 119 (-1) ∈ tblG := tg 526 (by decide +kernel) (by decide +kernel)
theorem ml_X11_121 : Cond.methodLink RX11 121 yX11_done ∈ tblG := tg 527 (by decide +kernel) (by decide +kernel)
theorem im_X11_done : Cond.instanceMethod yX11_done ∈ tblG := tg 529 (by decide +kernel) (by decide +kernel)
theorem se_X11_done : Cond.selects RX11 yX11_done yX11_done ∈ tblG := tg 1 (by decide +kernel) (by decide +kernel)
theorem cd_X11_done : Cond.code yX11_done cX11_done 2 (some .int) ∈ tblG := tg 530 (by decide +kernel) (by decide +kernel)
theorem gW_X11_done : GoodIn tblG (wsG yX11_done cX11_done 2 (some .int)) := tgi cd_X11_done
theorem gV_X11_121 : GoodIn tblG (wsV RX11 121 RX11 yX11_done (wsG yX11_done cX11_done 2 (some .int))) := tgV ml_X11_121 im_X11_done se_X11_done ini_X11 gW_X11_done
theorem hv_X11_done : yX11_done.cls = RX11 ∧ yX11_done.cls ≠ "java/lang/invoke/MethodHandle" ∧ yX11_done.cls ≠ "java/lang/invoke/VarHandle" ∧ (parseMethodDescriptor yX11_done.desc).map (fun d => d.parameters.length) = some 1 := by decide +kernel
theorem dgX11_glass_0 : ∀ r ∈ ([(0, (.iload_n 1, 1)), (1, (.invokestatic 97, 3)), (4, (.ifCond .eq 25, 3)), (7, (.iload_n 2, 1)), (8, (.invokestatic 124, 3)), (11, (.ifCond .eq 18, 3)), (14, (.iload_n 3, 1)), (15, (.invokestatic 127, 3)), (18, (.ifCond .eq 11, 3)), (21, (.iload 4, 2)), (23, (.invokestatic 130, 3)), (26, (.ifCond .ne 9, 3)), (29, (.aload_n 0, 1)), (30, (.iconst (-1), 1)), (31, (.invokevirtual 104, 3)), (34, (.ireturn, 1)), (35, (.aload_n 0, 1)), (36, (.getfield 12, 3)), (39, (.iload_n 1, 1)), (40, (.invokevirtual 133, 3)), (43, (.ifCond .ne 10, 3)), (46, (.aload_n 0, 1)), (47, (.bipush (-3), 2)), (49, (.invokevirtual 104, 3)), (52, (.ireturn, 1)), (53, (.aload_n 0, 1)), (54, (.getfield 12, 3)), (57, (.getfield 136, 3)), (60, (.invokevirtual 140, 3)), (63, (.ifCond .eq 10, 3)), (66, (.aload_n 0, 1)), (67, (.bipush (-5), 2)), (69, (.invokevirtual 104, 3)), (72, (.ireturn, 1)), (73, (.aload_n 0, 1)), (74, (.getfield 12, 3)), (77, (.getfield 136, 3)), (80, (.iconst 0, 1)), (81, (.invokevirtual 146, 3)), (84, (.istore 5, 2))] : List (Nat × (Instr × Nat))), decode cX11_glass r.1 = .ok r.2 := by decide +kernel
theorem dX11_glass_0 : decode cX11_glass 0 = .ok (.iload_n 1, 1) := dgX11_glass_0 (0, (.iload_n 1, 1)) (List.mem_of_getElem? (i := 0) rfl)
theorem dX11_glass_1 : decode cX11_glass 1 = .ok (.invokestatic 97, 3) := dgX11_glass_0 (1, (.invokestatic 97, 3)) (List.mem_of_getElem? (i := 1) rfl)
theorem dX11_glass_4 : decode cX11_glass 4 = .ok (.ifCond .eq 25, 3) := dgX11_glass_0 (4, (.ifCond .eq 25, 3)) (List.mem_of_getElem? (i := 2) rfl)
theorem dX11_glass_7 : decode cX11_glass 7 = .ok (.iload_n 2, 1) := dgX11_glass_0 (7, (.iload_n 2, 1)) (List.mem_of_getElem? (i := 3) rfl)
theorem dX11_glass_8 : decode cX11_glass 8 = .ok (.invokestatic 124, 3) := dgX11_glass_0 (8, (.invokestatic 124, 3)) (List.mem_of_getElem? (i := 4) rfl)
theorem dX11_glass_11 : decode cX11_glass 11 = .ok (.ifCond .eq 18, 3) := dgX11_glass_0 (11, (.ifCond .eq 18, 3)) (List.mem_of_getElem? (i := 5) rfl)
theorem dX11_glass_14 : decode cX11_glass 14 = .ok (.iload_n 3, 1) := dgX11_glass_0 (14, (.iload_n 3, 1)) (List.mem_of_getElem? (i := 6) rfl)
theorem dX11_glass_15 : decode cX11_glass 15 = .ok (.invokestatic 127, 3) := dgX11_glass_0 (15, (.invokestatic 127, 3)) (List.mem_of_getElem? (i := 7) rfl)
theorem dX11_glass_18 : decode cX11_glass 18 = .ok (.ifCond .eq 11, 3) := dgX11_glass_0 (18, (.ifCond .eq 11, 3)) (List.mem_of_getElem? (i := 8) rfl)
theorem dX11_glass_21 : decode cX11_glass 21 = .ok (.iload 4, 2) := dgX11_glass_0 (21, (.iload 4, 2)) (List.mem_of_getElem? (i := 9) rfl)
theorem dX11_glass_23 : decode cX11_glass 23 = .ok (.invokestatic 130, 3) := dgX11_glass_0 (23, (.invokestatic 130, 3)) (List.mem_of_getElem? (i := 10) rfl)
theorem dX11_glass_26 : decode cX11_glass 26 = .ok (.ifCond .ne 9, 3) := dgX11_glass_0 (26, (.ifCond .ne 9, 3)) (List.mem_of_getElem? (i := 11) rfl)
theorem dX11_glass_29 : decode cX11_glass 29 = .ok (.aload_n 0, 1) := dgX11_glass_0 (29, (.aload_n 0, 1)) (List.mem_of_getElem? (i := 12) rfl)
theorem dX11_glass_30 : decode cX11_glass 30 = .ok (.iconst (-1), 1) := dgX11_glass_0 (30, (.iconst (-1), 1)) (List.mem_of_getElem? (i := 13) rfl)
theorem dX11_glass_31 : decode cX11_glass 31 = .ok (.invokevirtual 104, 3) := dgX11_glass_0 (31, (.invokevirtual 104, 3)) (List.mem_of_getElem? (i := 14) rfl)
theorem dX11_glass_34 : decode cX11_glass 34 = .ok (.ireturn, 1) := dgX11_glass_0 (34, (.ireturn, 1)) (List.mem_of_getElem? (i := 15) rfl)
theorem dX11_glass_35 : decode cX11_glass 35 = .ok (.aload_n 0, 1) := dgX11_glass_0 (35, (.aload_n 0, 1)) (List.mem_of_getElem? (i := 16) rfl)
theorem dX11_glass_36 : decode cX11_glass 36 = .ok (.getfield 12, 3) := dgX11_glass_0 (36, (.getfield 12, 3)) (List.mem_of_getElem? (i := 17) rfl)
theorem dX11_glass_39 : decode cX11_glass 39 = .ok (.iload_n 1, 1) := dgX11_glass_0 (39, (.iload_n 1, 1)) (List.mem_of_getElem? (i := 18) rfl)
theorem dX11_glass_40 : decode cX11_glass 40 = .ok (.invokevirtual 133, 3) := dgX11_glass_0 (40, (.invokevirtual 133, 3)) (List.mem_of_getElem? (i := 19) rfl)
theorem dX11_glass_43 : decode cX11_glass 43 = .ok (.ifCond .ne 10, 3) := dgX11_glass_0 (43, (.ifCond .ne 10, 3)) (List.mem_of_getElem? (i := 20) rfl)
theorem dX11_glass_46 : decode cX11_glass 46 = .ok (.aload_n 0, 1) := dgX11_glass_0 (46, (.aload_n 0, 1)) (List.mem_of_getElem? (i := 21) rfl)
theorem dX11_glass_47 : decode cX11_glass 47 = .ok (.bipush (-3), 2) := dgX11_glass_0 (47, (.bipush (-3), 2)) (List.mem_of_getElem? (i := 22) rfl)
theorem dX11_glass_49 : decode cX11_glass 49 = .ok (.invokevirtual 104, 3) := dgX11_glass_0 (49, (.invokevirtual 104, 3)) (List.mem_of_getElem? (i := 23) rfl)
theorem dX11_glass_52 : decode cX11_glass 52 = .ok (.ireturn, 1) := dgX11_glass_0 (52, (.ireturn, 1)) (List.mem_of_getElem? (i := 24) rfl)
theorem dX11_glass_53 : decode cX11_glass 53 = .ok (.aload_n 0, 1) := dgX11_glass_0 (53, (.aload_n 0, 1)) (List.mem_of_getElem? (i := 25) rfl)
theorem dX11_glass_54 : decode cX11_glass 54 = .ok (.getfield 12, 3) := dgX11_glass_0 (54, (.getfield 12, 3)) (List.mem_of_getElem? (i := 26) rfl)
theorem dX11_glass_57 : decode cX11_glass 57 = .ok (.getfield 136, 3) := dgX11_glass_0 (57, (.getfield 136, 3)) (List.mem_of_getElem? (i := 27) rfl)
theorem dX11_glass_60 : decode cX11_glass 60 = .ok (.invokevirtual 140, 3) := dgX11_glass_0 (60, (.invokevirtual 140, 3)) (List.mem_of_getElem? (i := 28) rfl)
theorem dX11_glass_63 : decode cX11_glass 63 = .ok (.ifCond .eq 10, 3) := dgX11_glass_0 (63, (.ifCond .eq 10, 3)) (List.mem_of_getElem? (i := 29) rfl)
theorem dX11_glass_66 : decode cX11_glass 66 = .ok (.aload_n 0, 1) := dgX11_glass_0 (66, (.aload_n 0, 1)) (List.mem_of_getElem? (i := 30) rfl)
theorem dX11_glass_67 : decode cX11_glass 67 = .ok (.bipush (-5), 2) := dgX11_glass_0 (67, (.bipush (-5), 2)) (List.mem_of_getElem? (i := 31) rfl)
theorem dX11_glass_69 : decode cX11_glass 69 = .ok (.invokevirtual 104, 3) := dgX11_glass_0 (69, (.invokevirtual 104, 3)) (List.mem_of_getElem? (i := 32) rfl)
theorem dX11_glass_72 : decode cX11_glass 72 = .ok (.ireturn, 1) := dgX11_glass_0 (72, (.ireturn, 1)) (List.mem_of_getElem? (i := 33) rfl)
theorem dX11_glass_73 : decode cX11_glass 73 = .ok (.aload_n 0, 1) := dgX11_glass_0 (73, (.aload_n 0, 1)) (List.mem_of_getElem? (i := 34) rfl)
theorem dX11_glass_74 : decode cX11_glass 74 = .ok (.getfield 12, 3) := dgX11_glass_0 (74, (.getfield 12, 3)) (List.mem_of_getElem? (i := 35) rfl)
theorem dX11_glass_77 : decode cX11_glass 77 = .ok (.getfield 136, 3) := dgX11_glass_0 (77, (.getfield 136, 3)) (List.mem_of_getElem? (i := 36) rfl)
theorem dX11_glass_80 : decode cX11_glass 80 = .ok (.iconst 0, 1) := dgX11_glass_0 (80, (.iconst 0, 1)) (List.mem_of_getElem? (i := 37) rfl)
theorem dX11_glass_81 : decode cX11_glass 81 = .ok (.invokevirtual 146, 3) := dgX11_glass_0 (81, (.invokevirtual 146, 3)) (List.mem_of_getElem? (i := 38) rfl)
theorem dX11_glass_84 : decode cX11_glass 84 = .ok (.istore 5, 2) := dgX11_glass_0 (84, (.istore 5, 2)) (List.mem_of_getElem? (i := 39) rfl)
theorem dgX11_glass_1 : ∀ r ∈ ([(86, (.aload_n 0, 1)), (87, (.getfield 12, 3)), (90, (.getfield 136, 3)), (93, (.iload 5, 2)), (95, (.iconst 0, 1)), (96, (.iload_n 1, 1)), (97, (.invokevirtual 149, 3)), (100, (.aload_n 0, 1)), (101, (.getfield 12, 3)), (104, (.getfield 136, 3)), (107, (.iload 5, 2)), (109, (.iconst 1, 1)), (110, (.iload_n 2, 1)), (111, (.invokevirtual 149, 3)), (114, (.aload_n 0, 1)), (115, (.getfield 12, 3)), (118, (.getfield 136, 3)), (121, (.iload 5, 2)), (123, (.iconst 2, 1)), (124, (.iload_n 3, 1)), (125, (.invokevirtual 149, 3)), (128, (.aload_n 0, 1)), (129, (.getfield 12, 3)), (132, (.getfield 136, 3)), (135, (.iload 5, 2)), (137, (.iconst 3, 1)), (138, (.iload 4, 2)), (140, (.invokevirtual 149, 3)), (143, (.aload_n 0, 1)), (144, (.getfield 12, 3)), (147, (.dup, 1)), (148, (.getfield 153, 3)), (151, (.lconst 1, 1)), (152, (.iload_n 1, 1)), (153, (.lshl, 1)), (154, (.lor, 1)), (155, (.putfield 153, 3)), (158, (.aload_n 0, 1)), (159, (.iload 5, 2)), (161, (.invokevirtual 121, 3))] : List (Nat × (Instr × Nat))), decode cX11_glass r.1 = .ok r.2 := by decide +kernel
theorem dX11_glass_86 : decode cX11_glass 86 = .ok (.aload_n 0, 1) := dgX11_glass_1 (86, (.aload_n 0, 1)) (List.mem_of_getElem? (i := 0) rfl)
theorem dX11_glass_87 : decode cX11_glass 87 = .ok (.getfield 12, 3) := dgX11_glass_1 (87, (.getfield 12, 3)) (List.mem_of_getElem? (i := 1) rfl)
theorem dX11_glass_90 : decode cX11_glass 90 = .ok (.getfield 136, 3) := dgX11_glass_1 (90, (.getfield 136, 3)) (List.mem_of_getElem? (i := 2) rfl)
theorem dX11_glass_93 : decode cX11_glass 93 = .ok (.iload 5, 2) := dgX11_glass_1 (93, (.iload 5, 2)) (List.mem_of_getElem? (i := 3) rfl)
theorem dX11_glass_95 : decode cX11_glass 95 = .ok (.iconst 0, 1) := dgX11_glass_1 (95, (.iconst 0, 1)) (List.mem_of_getElem? (i := 4) rfl)
theorem dX11_glass_96 : decode cX11_glass 96 = .ok (.iload_n 1, 1) := dgX11_glass_1 (96, (.iload_n 1, 1)) (List.mem_of_getElem? (i := 5) rfl)
theorem dX11_glass_97 : decode cX11_glass 97 = .ok (.invokevirtual 149, 3) := dgX11_glass_1 (97, (.invokevirtual 149, 3)) (List.mem_of_getElem? (i := 6) rfl)
theorem dX11_glass_100 : decode cX11_glass 100 = .ok (.aload_n 0, 1) := dgX11_glass_1 (100, (.aload_n 0, 1)) (List.mem_of_getElem? (i := 7) rfl)
theorem dX11_glass_101 : decode cX11_glass 101 = .ok (.getfield 12, 3) := dgX11_glass_1 (101, (.getfield 12, 3)) (List.mem_of_getElem? (i := 8) rfl)
theorem dX11_glass_104 : decode cX11_glass 104 = .ok (.getfield 136, 3) := dgX11_glass_1 (104, (.getfield 136, 3)) (List.mem_of_getElem? (i := 9) rfl)
theorem dX11_glass_107 : decode cX11_glass 107 = .ok (.iload 5, 2) := dgX11_glass_1 (107, (.iload 5, 2)) (List.mem_of_getElem? (i := 10) rfl)
theorem dX11_glass_109 : decode cX11_glass 109 = .ok (.iconst 1, 1) := dgX11_glass_1 (109, (.iconst 1, 1)) (List.mem_of_getElem? (i := 11) rfl)
theorem dX11_glass_110 : decode cX11_glass 110 = .ok (.iload_n 2, 1) := dgX11_glass_1 (110, (.iload_n 2, 1)) (List.mem_of_getElem? (i := 12) rfl)
theorem dX11_glass_111 : decode cX11_glass 111 = .ok (.invokevirtual 149, 3) := dgX11_glass_1 (111, (.invokevirtual 149, 3)) (List.mem_of_getElem? (i := 13) rfl)
theorem dX11_glass_114 : decode cX11_glass 114 = .ok (.aload_n 0, 1) := dgX11_glass_1 (114, (.aload_n 0, 1)) (List.mem_of_getElem? (i := 14) rfl)
theorem dX11_glass_115 : decode cX11_glass 115 = .ok (.getfield 12, 3) := dgX11_glass_1 (115, (.getfield 12, 3)) (List.mem_of_getElem? (i := 15) rfl)
theorem dX11_glass_118 : decode cX11_glass 118 = .ok (.getfield 136, 3) := dgX11_glass_1 (118, (.getfield 136, 3)) (List.mem_of_getElem? (i := 16) rfl)
theorem dX11_glass_121 : decode cX11_glass 121 = .ok (.iload 5, 2) := dgX11_glass_1 (121, (.iload 5, 2)) (List.mem_of_getElem? (i := 17) rfl)
theorem dX11_glass_123 : decode cX11_glass 123 = .ok (.iconst 2, 1) := dgX11_glass_1 (123, (.iconst 2, 1)) (List.mem_of_getElem? (i := 18) rfl)
theorem dX11_glass_124 : decode cX11_glass 124 = .ok (.iload_n 3, 1) := dgX11_glass_1 (124, (.iload_n 3, 1)) (List.mem_of_getElem? (i := 19) rfl)
theorem dX11_glass_125 : decode cX11_glass 125 = .ok (.invokevirtual 149, 3) := dgX11_glass_1 (125, (.invokevirtual 149, 3)) (List.mem_of_getElem? (i := 20) rfl)
theorem dX11_glass_128 : decode cX11_glass 128 = .ok (.aload_n 0, 1) := dgX11_glass_1 (128, (.aload_n 0, 1)) (List.mem_of_getElem? (i := 21) rfl)
theorem dX11_glass_129 : decode cX11_glass 129 = .ok (.getfield 12, 3) := dgX11_glass_1 (129, (.getfield 12, 3)) (List.mem_of_getElem? (i := 22) rfl)
theorem dX11_glass_132 : decode cX11_glass 132 = .ok (.getfield 136, 3) := dgX11_glass_1 (132, (.getfield 136, 3)) (List.mem_of_getElem? (i := 23) rfl)
theorem dX11_glass_135 : decode cX11_glass 135 = .ok (.iload 5, 2) := dgX11_glass_1 (135, (.iload 5, 2)) (List.mem_of_getElem? (i := 24) rfl)
theorem dX11_glass_137 : decode cX11_glass 137 = .ok (.iconst 3, 1) := dgX11_glass_1 (137, (.iconst 3, 1)) (List.mem_of_getElem? (i := 25) rfl)
theorem dX11_glass_138 : decode cX11_glass 138 = .ok (.iload 4, 2) := dgX11_glass_1 (138, (.iload 4, 2)) (List.mem_of_getElem? (i := 26) rfl)
theorem dX11_glass_140 : decode cX11_glass 140 = .ok (.invokevirtual 149, 3) := dgX11_glass_1 (140, (.invokevirtual 149, 3)) (List.mem_of_getElem? (i := 27) rfl)
theorem dX11_glass_143 : decode cX11_glass 143 = .ok (.aload_n 0, 1) := dgX11_glass_1 (143, (.aload_n 0, 1)) (List.mem_of_getElem? (i := 28) rfl)
theorem dX11_glass_144 : decode cX11_glass 144 = .ok (.getfield 12, 3) := dgX11_glass_1 (144, (.getfield 12, 3)) (List.mem_of_getElem? (i := 29) rfl)
theorem dX11_glass_147 : decode cX11_glass 147 = .ok (.dup, 1) := dgX11_glass_1 (147, (.dup, 1)) (List.mem_of_getElem? (i := 30) rfl)
theorem dX11_glass_148 : decode cX11_glass 148 = .ok (.getfield 153, 3) := dgX11_glass_1 (148, (.getfield 153, 3)) (List.mem_of_getElem? (i := 31) rfl)
theorem dX11_glass_151 : decode cX11_glass 151 = .ok (.lconst 1, 1) := dgX11_glass_1 (151, (.lconst 1, 1)) (List.mem_of_getElem? (i := 32) rfl)
theorem dX11_glass_152 : decode cX11_glass 152 = .ok (.iload_n 1, 1) := dgX11_glass_1 (152, (.iload_n 1, 1)) (List.mem_of_getElem? (i := 33) rfl)
theorem dX11_glass_153 : decode cX11_glass 153 = .ok (.lshl, 1) := dgX11_glass_1 (153, (.lshl, 1)) (List.mem_of_getElem? (i := 34) rfl)
theorem dX11_glass_154 : decode cX11_glass 154 = .ok (.lor, 1) := dgX11_glass_1 (154, (.lor, 1)) (List.mem_of_getElem? (i := 35) rfl)
theorem dX11_glass_155 : decode cX11_glass 155 = .ok (.putfield 153, 3) := dgX11_glass_1 (155, (.putfield 153, 3)) (List.mem_of_getElem? (i := 36) rfl)
theorem dX11_glass_158 : decode cX11_glass 158 = .ok (.aload_n 0, 1) := dgX11_glass_1 (158, (.aload_n 0, 1)) (List.mem_of_getElem? (i := 37) rfl)
theorem dX11_glass_159 : decode cX11_glass 159 = .ok (.iload 5, 2) := dgX11_glass_1 (159, (.iload 5, 2)) (List.mem_of_getElem? (i := 38) rfl)
theorem dX11_glass_161 : decode cX11_glass 161 = .ok (.invokevirtual 121, 3) := dgX11_glass_1 (161, (.invokevirtual 121, 3)) (List.mem_of_getElem? (i := 39) rfl)
theorem dgX11_glass_2 : ∀ r ∈ ([(164, (.ireturn, 1))] : List (Nat × (Instr × Nat))), decode cX11_glass r.1 = .ok r.2 := by decide +kernel
theorem dX11_glass_164 : decode cX11_glass 164 = .ok (.ireturn, 1) := dgX11_glass_2 (164, (.ireturn, 1)) (List.mem_of_getElem? (i := 0) rfl)
theorem ml_X11_133 : Cond.methodLink RX11 133 yX1_canHang ∈ tblG := tg 544 (by decide +kernel) (by decide +kernel)
theorem im_X1_canHang : Cond.instanceMethod yX1_canHang ∈ tblG := tg 545 (by decide +kernel) (by decide +kernel)
theorem se_X1_canHang : Cond.selects RX1 yX1_canHang yX1_canHang ∈ tblG := tg 546 (by decide +kernel) (by decide +kernel)
theorem cd_X1_canHang : Cond.code yX1_canHang cX1_canHang 2 (some .boolean) ∈ tblG := tg 547 (by decide +kernel) (by decide +kernel)
theorem gW_X1_canHang : GoodIn tblG (wsG yX1_canHang cX1_canHang 2 (some .boolean)) := tgi cd_X1_canHang
theorem gV_X11_133 : GoodIn tblG (wsV RX11 133 RX1 yX1_canHang (wsG yX1_canHang cX1_canHang 2 (some .boolean))) := tgV ml_X11_133 im_X1_canHang se_X1_canHang ini_X1 gW_X1_canHang
theorem hv_X1_canHang : yX1_canHang.cls = RX1 ∧ yX1_canHang.cls ≠ "java/lang/invoke/MethodHandle" ∧ yX1_canHang.cls ≠ "java/lang/invoke/VarHandle" ∧ (parseMethodDescriptor yX1_canHang.desc).map (fun d => d.parameters.length) = some 1 := by decide +kernel
theorem fl_X11_136 : Cond.fieldLink RX11 136 "LateGlass$House" "glasses" "LLateGlass$Table;" ∈ tblG := tg 171 (by decide +kernel) (by decide +kernel)
theorem ml_X11_140 : Cond.methodLink RX11 140 yX6_isFull ∈ tblG := tg 548 (by decide +kernel) (by decide +kernel)
theorem gV_X11_140 : GoodIn tblG (wsV RX11 140 RX6 yX6_isFull (wsG yX6_isFull cX6_isFull 1 (some .boolean))) := tgV ml_X11_140 im_X6_isFull se_X6_isFull ini_X6 gW_X6_isFull
theorem ml_X11_146 : Cond.methodLink RX11 146 yX6_open ∈ tblG := tg 552 (by decide +kernel) (by decide +kernel)
theorem im_X6_open : Cond.instanceMethod yX6_open ∈ tblG := tg 553 (by decide +kernel) (by decide +kernel)
theorem se_X6_open : Cond.selects RX6 yX6_open yX6_open ∈ tblG := tg 554 (by decide +kernel) (by decide +kernel)
theorem cd_X6_open : Cond.code yX6_open cX6_open 4 (some .int) ∈ tblG := tg 555 (by decide +kernel) (by decide +kernel)
theorem gW_X6_open : GoodIn tblG (wsG yX6_open cX6_open 4 (some .int)) := tgi cd_X6_open
theorem gV_X11_146 : GoodIn tblG (wsV RX11 146 RX6 yX6_open (wsG yX6_open cX6_open 4 (some .int))) := tgV ml_X11_146 im_X6_open se_X6_open ini_X6 gW_X6_open
theorem hv_X6_open : yX6_open.cls = RX6 ∧ yX6_open.cls ≠ "java/lang/invoke/MethodHandle" ∧ yX6_open.cls ≠ "java/lang/invoke/VarHandle" ∧ (parseMethodDescriptor yX6_open.desc).map (fun d => d.parameters.length) = some 1 := by decide +kernel
theorem ml_X11_149 : Cond.methodLink RX11 149 yX6_set ∈ tblG := tg 565 (by decide +kernel) (by decide +kernel)
theorem gV_X11_149 : GoodIn tblG (wsV RX11 149 RX6 yX6_set (wsG yX6_set cX6_set 4 none)) := tgV ml_X11_149 im_X6_set se_X6_set ini_X6 gW_X6_set
theorem fl_X11_153 : Cond.fieldLink RX11 153 "LateGlass$House" "glassBoard" "J" ∈ tblG := tg 190 (by decide +kernel) (by decide +kernel)
theorem dgX11_turn_0 : ∀ r ∈ ([(0, (.iload_n 2, 1)), (1, (.iload_n 3, 1)), (2, (.invokestatic 156, 3)), (5, (.ifCond .ne 9, 3)), (8, (.aload_n 0, 1)), (9, (.iconst (-1), 1)), (10, (.invokevirtual 104, 3)), (13, (.ireturn, 1)), (14, (.aload_n 0, 1)), (15, (.getfield 12, 3)), (18, (.getfield 136, 3)), (21, (.iload_n 1, 1)), (22, (.invokevirtual 160, 3)), (25, (.ifCond .ne 10, 3)), (28, (.aload_n 0, 1)), (29, (.bipush (-2), 2)), (31, (.invokevirtual 104, 3)), (34, (.ireturn, 1)), (35, (.aload_n 0, 1)), (36, (.getfield 12, 3)), (39, (.getfield 136, 3)), (42, (.iload_n 1, 1)), (43, (.iload_n 2, 1)), (44, (.iconst 1, 1)), (45, (.iadd, 1)), (46, (.invokevirtual 163, 3)), (49, (.istore 4, 2)), (51, (.aload_n 0, 1)), (52, (.getfield 12, 3)), (55, (.getfield 136, 3)), (58, (.iload_n 1, 1)), (59, (.iload_n 2, 1)), (60, (.iconst 1, 1)), (61, (.iadd, 1)), (62, (.iload_n 3, 1)), (63, (.invokevirtual 149, 3)), (66, (.aload_n 0, 1)), (67, (.iload 4, 2)), (69, (.invokevirtual 121, 3)), (72, (.ireturn, 1))] : List (Nat × (Instr × Nat))), decode cX11_turn r.1 = .ok r.2 := by decide +kernel
theorem dX11_turn_0 : decode cX11_turn 0 = .ok (.iload_n 2, 1) := dgX11_turn_0 (0, (.iload_n 2, 1)) (List.mem_of_getElem? (i := 0) rfl)
theorem dX11_turn_1 : decode cX11_turn 1 = .ok (.iload_n 3, 1) := dgX11_turn_0 (1, (.iload_n 3, 1)) (List.mem_of_getElem? (i := 1) rfl)
theorem dX11_turn_2 : decode cX11_turn 2 = .ok (.invokestatic 156, 3) := dgX11_turn_0 (2, (.invokestatic 156, 3)) (List.mem_of_getElem? (i := 2) rfl)
theorem dX11_turn_5 : decode cX11_turn 5 = .ok (.ifCond .ne 9, 3) := dgX11_turn_0 (5, (.ifCond .ne 9, 3)) (List.mem_of_getElem? (i := 3) rfl)
theorem dX11_turn_8 : decode cX11_turn 8 = .ok (.aload_n 0, 1) := dgX11_turn_0 (8, (.aload_n 0, 1)) (List.mem_of_getElem? (i := 4) rfl)
theorem dX11_turn_9 : decode cX11_turn 9 = .ok (.iconst (-1), 1) := dgX11_turn_0 (9, (.iconst (-1), 1)) (List.mem_of_getElem? (i := 5) rfl)
theorem dX11_turn_10 : decode cX11_turn 10 = .ok (.invokevirtual 104, 3) := dgX11_turn_0 (10, (.invokevirtual 104, 3)) (List.mem_of_getElem? (i := 6) rfl)
theorem dX11_turn_13 : decode cX11_turn 13 = .ok (.ireturn, 1) := dgX11_turn_0 (13, (.ireturn, 1)) (List.mem_of_getElem? (i := 7) rfl)
theorem dX11_turn_14 : decode cX11_turn 14 = .ok (.aload_n 0, 1) := dgX11_turn_0 (14, (.aload_n 0, 1)) (List.mem_of_getElem? (i := 8) rfl)
theorem dX11_turn_15 : decode cX11_turn 15 = .ok (.getfield 12, 3) := dgX11_turn_0 (15, (.getfield 12, 3)) (List.mem_of_getElem? (i := 9) rfl)
theorem dX11_turn_18 : decode cX11_turn 18 = .ok (.getfield 136, 3) := dgX11_turn_0 (18, (.getfield 136, 3)) (List.mem_of_getElem? (i := 10) rfl)
theorem dX11_turn_21 : decode cX11_turn 21 = .ok (.iload_n 1, 1) := dgX11_turn_0 (21, (.iload_n 1, 1)) (List.mem_of_getElem? (i := 11) rfl)
theorem dX11_turn_22 : decode cX11_turn 22 = .ok (.invokevirtual 160, 3) := dgX11_turn_0 (22, (.invokevirtual 160, 3)) (List.mem_of_getElem? (i := 12) rfl)
theorem dX11_turn_25 : decode cX11_turn 25 = .ok (.ifCond .ne 10, 3) := dgX11_turn_0 (25, (.ifCond .ne 10, 3)) (List.mem_of_getElem? (i := 13) rfl)
theorem dX11_turn_28 : decode cX11_turn 28 = .ok (.aload_n 0, 1) := dgX11_turn_0 (28, (.aload_n 0, 1)) (List.mem_of_getElem? (i := 14) rfl)
theorem dX11_turn_29 : decode cX11_turn 29 = .ok (.bipush (-2), 2) := dgX11_turn_0 (29, (.bipush (-2), 2)) (List.mem_of_getElem? (i := 15) rfl)
theorem dX11_turn_31 : decode cX11_turn 31 = .ok (.invokevirtual 104, 3) := dgX11_turn_0 (31, (.invokevirtual 104, 3)) (List.mem_of_getElem? (i := 16) rfl)
theorem dX11_turn_34 : decode cX11_turn 34 = .ok (.ireturn, 1) := dgX11_turn_0 (34, (.ireturn, 1)) (List.mem_of_getElem? (i := 17) rfl)
theorem dX11_turn_35 : decode cX11_turn 35 = .ok (.aload_n 0, 1) := dgX11_turn_0 (35, (.aload_n 0, 1)) (List.mem_of_getElem? (i := 18) rfl)
theorem dX11_turn_36 : decode cX11_turn 36 = .ok (.getfield 12, 3) := dgX11_turn_0 (36, (.getfield 12, 3)) (List.mem_of_getElem? (i := 19) rfl)
theorem dX11_turn_39 : decode cX11_turn 39 = .ok (.getfield 136, 3) := dgX11_turn_0 (39, (.getfield 136, 3)) (List.mem_of_getElem? (i := 20) rfl)
theorem dX11_turn_42 : decode cX11_turn 42 = .ok (.iload_n 1, 1) := dgX11_turn_0 (42, (.iload_n 1, 1)) (List.mem_of_getElem? (i := 21) rfl)
theorem dX11_turn_43 : decode cX11_turn 43 = .ok (.iload_n 2, 1) := dgX11_turn_0 (43, (.iload_n 2, 1)) (List.mem_of_getElem? (i := 22) rfl)
theorem dX11_turn_44 : decode cX11_turn 44 = .ok (.iconst 1, 1) := dgX11_turn_0 (44, (.iconst 1, 1)) (List.mem_of_getElem? (i := 23) rfl)
theorem dX11_turn_45 : decode cX11_turn 45 = .ok (.iadd, 1) := dgX11_turn_0 (45, (.iadd, 1)) (List.mem_of_getElem? (i := 24) rfl)
theorem dX11_turn_46 : decode cX11_turn 46 = .ok (.invokevirtual 163, 3) := dgX11_turn_0 (46, (.invokevirtual 163, 3)) (List.mem_of_getElem? (i := 25) rfl)
theorem dX11_turn_49 : decode cX11_turn 49 = .ok (.istore 4, 2) := dgX11_turn_0 (49, (.istore 4, 2)) (List.mem_of_getElem? (i := 26) rfl)
theorem dX11_turn_51 : decode cX11_turn 51 = .ok (.aload_n 0, 1) := dgX11_turn_0 (51, (.aload_n 0, 1)) (List.mem_of_getElem? (i := 27) rfl)
theorem dX11_turn_52 : decode cX11_turn 52 = .ok (.getfield 12, 3) := dgX11_turn_0 (52, (.getfield 12, 3)) (List.mem_of_getElem? (i := 28) rfl)
theorem dX11_turn_55 : decode cX11_turn 55 = .ok (.getfield 136, 3) := dgX11_turn_0 (55, (.getfield 136, 3)) (List.mem_of_getElem? (i := 29) rfl)
theorem dX11_turn_58 : decode cX11_turn 58 = .ok (.iload_n 1, 1) := dgX11_turn_0 (58, (.iload_n 1, 1)) (List.mem_of_getElem? (i := 30) rfl)
theorem dX11_turn_59 : decode cX11_turn 59 = .ok (.iload_n 2, 1) := dgX11_turn_0 (59, (.iload_n 2, 1)) (List.mem_of_getElem? (i := 31) rfl)
theorem dX11_turn_60 : decode cX11_turn 60 = .ok (.iconst 1, 1) := dgX11_turn_0 (60, (.iconst 1, 1)) (List.mem_of_getElem? (i := 32) rfl)
theorem dX11_turn_61 : decode cX11_turn 61 = .ok (.iadd, 1) := dgX11_turn_0 (61, (.iadd, 1)) (List.mem_of_getElem? (i := 33) rfl)
theorem dX11_turn_62 : decode cX11_turn 62 = .ok (.iload_n 3, 1) := dgX11_turn_0 (62, (.iload_n 3, 1)) (List.mem_of_getElem? (i := 34) rfl)
theorem dX11_turn_63 : decode cX11_turn 63 = .ok (.invokevirtual 149, 3) := dgX11_turn_0 (63, (.invokevirtual 149, 3)) (List.mem_of_getElem? (i := 35) rfl)
theorem dX11_turn_66 : decode cX11_turn 66 = .ok (.aload_n 0, 1) := dgX11_turn_0 (66, (.aload_n 0, 1)) (List.mem_of_getElem? (i := 36) rfl)
theorem dX11_turn_67 : decode cX11_turn 67 = .ok (.iload 4, 2) := dgX11_turn_0 (67, (.iload 4, 2)) (List.mem_of_getElem? (i := 37) rfl)
theorem dX11_turn_69 : decode cX11_turn 69 = .ok (.invokevirtual 121, 3) := dgX11_turn_0 (69, (.invokevirtual 121, 3)) (List.mem_of_getElem? (i := 38) rfl)
theorem dX11_turn_72 : decode cX11_turn 72 = .ok (.ireturn, 1) := dgX11_turn_0 (72, (.ireturn, 1)) (List.mem_of_getElem? (i := 39) rfl)
theorem ml_X11_156 : Cond.methodLink RX11 156 yX11_isTurn ∈ tblG := tg 570 (by decide +kernel) (by decide +kernel)
theorem st_X11_isTurn : Cond.static yX11_isTurn ∈ tblG := tg 571 (by decide +kernel) (by decide +kernel)
theorem cd_X11_isTurn : Cond.code yX11_isTurn cX11_isTurn 2 (some .boolean) ∈ tblG := tg 572 (by decide +kernel) (by decide +kernel)
theorem gW_X11_isTurn : GoodIn tblG (wsG yX11_isTurn cX11_isTurn 2 (some .boolean)) := tgi cd_X11_isTurn
theorem gS_X11_156 : GoodIn tblG (va_wsS RX11 156 yX11_isTurn (wsG yX11_isTurn cX11_isTurn 2 (some .boolean))) := tgS ml_X11_156 st_X11_isTurn ini_X11 gW_X11_isTurn
theorem hs_X11_isTurn : yX11_isTurn.cls ≠ "java/lang/invoke/MethodHandle" ∧ yX11_isTurn.cls ≠ "java/lang/invoke/VarHandle" ∧ (parseMethodDescriptor yX11_isTurn.desc).map (fun d => d.parameters.length) = some 2 := by decide +kernel
theorem ml_X11_160 : Cond.methodLink RX11 160 yX6_has ∈ tblG := tg 574 (by decide +kernel) (by decide +kernel)
theorem gV_X11_160 : GoodIn tblG (wsV RX11 160 RX6 yX6_has (wsG yX6_has cX6_has 2 (some .boolean))) := tgV ml_X11_160 im_X6_has se_X6_has ini_X6 gW_X6_has
theorem ml_X11_163 : Cond.methodLink RX11 163 yX6_get ∈ tblG := tg 575 (by decide +kernel) (by decide +kernel)
theorem gV_X11_163 : GoodIn tblG (wsV RX11 163 RX6 yX6_get (wsG yX6_get cX6_get 3 (some .int))) := tgV ml_X11_163 im_X6_get se_X6_get ini_X6 gW_X6_get
theorem dgX11_of_0 : ∀ r ∈ ([(0, (.aload_n 0, 1)), (1, (.getfield 12, 3)), (4, (.getfield 136, 3)), (7, (.iload_n 1, 1)), (8, (.iload_n 2, 1)), (9, (.invokevirtual 163, 3)), (12, (.ireturn, 1))] : List (Nat × (Instr × Nat))), decode cX11_of r.1 = .ok r.2 := by decide +kernel
theorem dX11_of_0 : decode cX11_of 0 = .ok (.aload_n 0, 1) := dgX11_of_0 (0, (.aload_n 0, 1)) (List.mem_of_getElem? (i := 0) rfl)
theorem dX11_of_1 : decode cX11_of 1 = .ok (.getfield 12, 3) := dgX11_of_0 (1, (.getfield 12, 3)) (List.mem_of_getElem? (i := 1) rfl)
theorem dX11_of_4 : decode cX11_of 4 = .ok (.getfield 136, 3) := dgX11_of_0 (4, (.getfield 136, 3)) (List.mem_of_getElem? (i := 2) rfl)
theorem dX11_of_7 : decode cX11_of 7 = .ok (.iload_n 1, 1) := dgX11_of_0 (7, (.iload_n 1, 1)) (List.mem_of_getElem? (i := 3) rfl)
theorem dX11_of_8 : decode cX11_of 8 = .ok (.iload_n 2, 1) := dgX11_of_0 (8, (.iload_n 2, 1)) (List.mem_of_getElem? (i := 4) rfl)
theorem dX11_of_9 : decode cX11_of 9 = .ok (.invokevirtual 163, 3) := dgX11_of_0 (9, (.invokevirtual 163, 3)) (List.mem_of_getElem? (i := 5) rfl)
theorem dX11_of_12 : decode cX11_of 12 = .ok (.ireturn, 1) := dgX11_of_0 (12, (.ireturn, 1)) (List.mem_of_getElem? (i := 6) rfl)
theorem dgX11_body_0 : ∀ r ∈ ([(0, (.aload_n 0, 1)), (1, (.getfield 12, 3)), (4, (.getfield 167, 3)), (7, (.invokevirtual 140, 3)), (10, (.ifCond .eq 10, 3)), (13, (.aload_n 0, 1)), (14, (.bipush (-5), 2)), (16, (.invokevirtual 104, 3)), (19, (.ireturn, 1)), (20, (.aload_n 0, 1)), (21, (.aload_n 0, 1)), (22, (.getfield 12, 3)), (25, (.getfield 167, 3)), (28, (.iconst (-1), 1)), (29, (.invokevirtual 146, 3)), (32, (.invokevirtual 121, 3)), (35, (.ireturn, 1))] : List (Nat × (Instr × Nat))), decode cX11_body r.1 = .ok r.2 := by decide +kernel
theorem dX11_body_0 : decode cX11_body 0 = .ok (.aload_n 0, 1) := dgX11_body_0 (0, (.aload_n 0, 1)) (List.mem_of_getElem? (i := 0) rfl)
theorem dX11_body_1 : decode cX11_body 1 = .ok (.getfield 12, 3) := dgX11_body_0 (1, (.getfield 12, 3)) (List.mem_of_getElem? (i := 1) rfl)
theorem dX11_body_4 : decode cX11_body 4 = .ok (.getfield 167, 3) := dgX11_body_0 (4, (.getfield 167, 3)) (List.mem_of_getElem? (i := 2) rfl)
theorem dX11_body_7 : decode cX11_body 7 = .ok (.invokevirtual 140, 3) := dgX11_body_0 (7, (.invokevirtual 140, 3)) (List.mem_of_getElem? (i := 3) rfl)
theorem dX11_body_10 : decode cX11_body 10 = .ok (.ifCond .eq 10, 3) := dgX11_body_0 (10, (.ifCond .eq 10, 3)) (List.mem_of_getElem? (i := 4) rfl)
theorem dX11_body_13 : decode cX11_body 13 = .ok (.aload_n 0, 1) := dgX11_body_0 (13, (.aload_n 0, 1)) (List.mem_of_getElem? (i := 5) rfl)
theorem dX11_body_14 : decode cX11_body 14 = .ok (.bipush (-5), 2) := dgX11_body_0 (14, (.bipush (-5), 2)) (List.mem_of_getElem? (i := 6) rfl)
theorem dX11_body_16 : decode cX11_body 16 = .ok (.invokevirtual 104, 3) := dgX11_body_0 (16, (.invokevirtual 104, 3)) (List.mem_of_getElem? (i := 7) rfl)
theorem dX11_body_19 : decode cX11_body 19 = .ok (.ireturn, 1) := dgX11_body_0 (19, (.ireturn, 1)) (List.mem_of_getElem? (i := 8) rfl)
theorem dX11_body_20 : decode cX11_body 20 = .ok (.aload_n 0, 1) := dgX11_body_0 (20, (.aload_n 0, 1)) (List.mem_of_getElem? (i := 9) rfl)
theorem dX11_body_21 : decode cX11_body 21 = .ok (.aload_n 0, 1) := dgX11_body_0 (21, (.aload_n 0, 1)) (List.mem_of_getElem? (i := 10) rfl)
theorem dX11_body_22 : decode cX11_body 22 = .ok (.getfield 12, 3) := dgX11_body_0 (22, (.getfield 12, 3)) (List.mem_of_getElem? (i := 11) rfl)
theorem dX11_body_25 : decode cX11_body 25 = .ok (.getfield 167, 3) := dgX11_body_0 (25, (.getfield 167, 3)) (List.mem_of_getElem? (i := 12) rfl)
theorem dX11_body_28 : decode cX11_body 28 = .ok (.iconst (-1), 1) := dgX11_body_0 (28, (.iconst (-1), 1)) (List.mem_of_getElem? (i := 13) rfl)
theorem dX11_body_29 : decode cX11_body 29 = .ok (.invokevirtual 146, 3) := dgX11_body_0 (29, (.invokevirtual 146, 3)) (List.mem_of_getElem? (i := 14) rfl)
theorem dX11_body_32 : decode cX11_body 32 = .ok (.invokevirtual 121, 3) := dgX11_body_0 (32, (.invokevirtual 121, 3)) (List.mem_of_getElem? (i := 15) rfl)
theorem dX11_body_35 : decode cX11_body 35 = .ok (.ireturn, 1) := dgX11_body_0 (35, (.ireturn, 1)) (List.mem_of_getElem? (i := 16) rfl)
theorem fl_X11_167 : Cond.fieldLink RX11 167 "LateGlass$House" "bodies" "LLateGlass$Table;" ∈ tblG := tg 176 (by decide +kernel) (by decide +kernel)
theorem dgX11_stay_0 : ∀ r ∈ ([(0, (.iload_n 2, 1)), (1, (.iload_n 3, 1)), (2, (.iload 4, 2)), (4, (.invokestatic 170, 3)), (7, (.ifCond .ne 9, 3)), (10, (.aload_n 0, 1)), (11, (.iconst (-1), 1)), (12, (.invokevirtual 104, 3)), (15, (.ireturn, 1)), (16, (.aload_n 0, 1)), (17, (.getfield 12, 3)), (20, (.getfield 167, 3)), (23, (.iload_n 1, 1)), (24, (.invokevirtual 160, 3)), (27, (.ifCond .ne 10, 3)), (30, (.aload_n 0, 1)), (31, (.bipush (-2), 2)), (33, (.invokevirtual 104, 3)), (36, (.ireturn, 1)), (37, (.aload_n 0, 1)), (38, (.getfield 12, 3)), (41, (.iload 4, 2)), (43, (.invokevirtual 174, 3)), (46, (.ifCond .eq 10, 3)), (49, (.aload_n 0, 1)), (50, (.bipush (-3), 2)), (52, (.invokevirtual 104, 3)), (55, (.ireturn, 1)), (56, (.aload_n 0, 1)), (57, (.getfield 12, 3)), (60, (.iload_n 1, 1)), (61, (.iload_n 2, 1)), (62, (.iload_n 3, 1)), (63, (.iload 4, 2)), (65, (.invokevirtual 177, 3)), (68, (.aload_n 0, 1)), (69, (.iconst 0, 1)), (70, (.invokevirtual 121, 3)), (73, (.ireturn, 1))] : List (Nat × (Instr × Nat))), decode cX11_stay r.1 = .ok r.2 := by decide +kernel
theorem dX11_stay_0 : decode cX11_stay 0 = .ok (.iload_n 2, 1) := dgX11_stay_0 (0, (.iload_n 2, 1)) (List.mem_of_getElem? (i := 0) rfl)
theorem dX11_stay_1 : decode cX11_stay 1 = .ok (.iload_n 3, 1) := dgX11_stay_0 (1, (.iload_n 3, 1)) (List.mem_of_getElem? (i := 1) rfl)
theorem dX11_stay_2 : decode cX11_stay 2 = .ok (.iload 4, 2) := dgX11_stay_0 (2, (.iload 4, 2)) (List.mem_of_getElem? (i := 2) rfl)
theorem dX11_stay_4 : decode cX11_stay 4 = .ok (.invokestatic 170, 3) := dgX11_stay_0 (4, (.invokestatic 170, 3)) (List.mem_of_getElem? (i := 3) rfl)
theorem dX11_stay_7 : decode cX11_stay 7 = .ok (.ifCond .ne 9, 3) := dgX11_stay_0 (7, (.ifCond .ne 9, 3)) (List.mem_of_getElem? (i := 4) rfl)
theorem dX11_stay_10 : decode cX11_stay 10 = .ok (.aload_n 0, 1) := dgX11_stay_0 (10, (.aload_n 0, 1)) (List.mem_of_getElem? (i := 5) rfl)
theorem dX11_stay_11 : decode cX11_stay 11 = .ok (.iconst (-1), 1) := dgX11_stay_0 (11, (.iconst (-1), 1)) (List.mem_of_getElem? (i := 6) rfl)
theorem dX11_stay_12 : decode cX11_stay 12 = .ok (.invokevirtual 104, 3) := dgX11_stay_0 (12, (.invokevirtual 104, 3)) (List.mem_of_getElem? (i := 7) rfl)
theorem dX11_stay_15 : decode cX11_stay 15 = .ok (.ireturn, 1) := dgX11_stay_0 (15, (.ireturn, 1)) (List.mem_of_getElem? (i := 8) rfl)
theorem dX11_stay_16 : decode cX11_stay 16 = .ok (.aload_n 0, 1) := dgX11_stay_0 (16, (.aload_n 0, 1)) (List.mem_of_getElem? (i := 9) rfl)
theorem dX11_stay_17 : decode cX11_stay 17 = .ok (.getfield 12, 3) := dgX11_stay_0 (17, (.getfield 12, 3)) (List.mem_of_getElem? (i := 10) rfl)
theorem dX11_stay_20 : decode cX11_stay 20 = .ok (.getfield 167, 3) := dgX11_stay_0 (20, (.getfield 167, 3)) (List.mem_of_getElem? (i := 11) rfl)
theorem dX11_stay_23 : decode cX11_stay 23 = .ok (.iload_n 1, 1) := dgX11_stay_0 (23, (.iload_n 1, 1)) (List.mem_of_getElem? (i := 12) rfl)
theorem dX11_stay_24 : decode cX11_stay 24 = .ok (.invokevirtual 160, 3) := dgX11_stay_0 (24, (.invokevirtual 160, 3)) (List.mem_of_getElem? (i := 13) rfl)
theorem dX11_stay_27 : decode cX11_stay 27 = .ok (.ifCond .ne 10, 3) := dgX11_stay_0 (27, (.ifCond .ne 10, 3)) (List.mem_of_getElem? (i := 14) rfl)
theorem dX11_stay_30 : decode cX11_stay 30 = .ok (.aload_n 0, 1) := dgX11_stay_0 (30, (.aload_n 0, 1)) (List.mem_of_getElem? (i := 15) rfl)
theorem dX11_stay_31 : decode cX11_stay 31 = .ok (.bipush (-2), 2) := dgX11_stay_0 (31, (.bipush (-2), 2)) (List.mem_of_getElem? (i := 16) rfl)
theorem dX11_stay_33 : decode cX11_stay 33 = .ok (.invokevirtual 104, 3) := dgX11_stay_0 (33, (.invokevirtual 104, 3)) (List.mem_of_getElem? (i := 17) rfl)
theorem dX11_stay_36 : decode cX11_stay 36 = .ok (.ireturn, 1) := dgX11_stay_0 (36, (.ireturn, 1)) (List.mem_of_getElem? (i := 18) rfl)
theorem dX11_stay_37 : decode cX11_stay 37 = .ok (.aload_n 0, 1) := dgX11_stay_0 (37, (.aload_n 0, 1)) (List.mem_of_getElem? (i := 19) rfl)
theorem dX11_stay_38 : decode cX11_stay 38 = .ok (.getfield 12, 3) := dgX11_stay_0 (38, (.getfield 12, 3)) (List.mem_of_getElem? (i := 20) rfl)
theorem dX11_stay_41 : decode cX11_stay 41 = .ok (.iload 4, 2) := dgX11_stay_0 (41, (.iload 4, 2)) (List.mem_of_getElem? (i := 21) rfl)
theorem dX11_stay_43 : decode cX11_stay 43 = .ok (.invokevirtual 174, 3) := dgX11_stay_0 (43, (.invokevirtual 174, 3)) (List.mem_of_getElem? (i := 22) rfl)
theorem dX11_stay_46 : decode cX11_stay 46 = .ok (.ifCond .eq 10, 3) := dgX11_stay_0 (46, (.ifCond .eq 10, 3)) (List.mem_of_getElem? (i := 23) rfl)
theorem dX11_stay_49 : decode cX11_stay 49 = .ok (.aload_n 0, 1) := dgX11_stay_0 (49, (.aload_n 0, 1)) (List.mem_of_getElem? (i := 24) rfl)
theorem dX11_stay_50 : decode cX11_stay 50 = .ok (.bipush (-3), 2) := dgX11_stay_0 (50, (.bipush (-3), 2)) (List.mem_of_getElem? (i := 25) rfl)
theorem dX11_stay_52 : decode cX11_stay 52 = .ok (.invokevirtual 104, 3) := dgX11_stay_0 (52, (.invokevirtual 104, 3)) (List.mem_of_getElem? (i := 26) rfl)
theorem dX11_stay_55 : decode cX11_stay 55 = .ok (.ireturn, 1) := dgX11_stay_0 (55, (.ireturn, 1)) (List.mem_of_getElem? (i := 27) rfl)
theorem dX11_stay_56 : decode cX11_stay 56 = .ok (.aload_n 0, 1) := dgX11_stay_0 (56, (.aload_n 0, 1)) (List.mem_of_getElem? (i := 28) rfl)
theorem dX11_stay_57 : decode cX11_stay 57 = .ok (.getfield 12, 3) := dgX11_stay_0 (57, (.getfield 12, 3)) (List.mem_of_getElem? (i := 29) rfl)
theorem dX11_stay_60 : decode cX11_stay 60 = .ok (.iload_n 1, 1) := dgX11_stay_0 (60, (.iload_n 1, 1)) (List.mem_of_getElem? (i := 30) rfl)
theorem dX11_stay_61 : decode cX11_stay 61 = .ok (.iload_n 2, 1) := dgX11_stay_0 (61, (.iload_n 2, 1)) (List.mem_of_getElem? (i := 31) rfl)
theorem dX11_stay_62 : decode cX11_stay 62 = .ok (.iload_n 3, 1) := dgX11_stay_0 (62, (.iload_n 3, 1)) (List.mem_of_getElem? (i := 32) rfl)
theorem dX11_stay_63 : decode cX11_stay 63 = .ok (.iload 4, 2) := dgX11_stay_0 (63, (.iload 4, 2)) (List.mem_of_getElem? (i := 33) rfl)
theorem dX11_stay_65 : decode cX11_stay 65 = .ok (.invokevirtual 177, 3) := dgX11_stay_0 (65, (.invokevirtual 177, 3)) (List.mem_of_getElem? (i := 34) rfl)
theorem dX11_stay_68 : decode cX11_stay 68 = .ok (.aload_n 0, 1) := dgX11_stay_0 (68, (.aload_n 0, 1)) (List.mem_of_getElem? (i := 35) rfl)
theorem dX11_stay_69 : decode cX11_stay 69 = .ok (.iconst 0, 1) := dgX11_stay_0 (69, (.iconst 0, 1)) (List.mem_of_getElem? (i := 36) rfl)
theorem dX11_stay_70 : decode cX11_stay 70 = .ok (.invokevirtual 121, 3) := dgX11_stay_0 (70, (.invokevirtual 121, 3)) (List.mem_of_getElem? (i := 37) rfl)
theorem dX11_stay_73 : decode cX11_stay 73 = .ok (.ireturn, 1) := dgX11_stay_0 (73, (.ireturn, 1)) (List.mem_of_getElem? (i := 38) rfl)
theorem ml_X11_170 : Cond.methodLink RX11 170 yX11_isStay ∈ tblG := tg 588 (by decide +kernel) (by decide +kernel)
theorem st_X11_isStay : Cond.static yX11_isStay ∈ tblG := tg 589 (by decide +kernel) (by decide +kernel)
theorem cd_X11_isStay : Cond.code yX11_isStay cX11_isStay 3 (some .boolean) ∈ tblG := tg 590 (by decide +kernel) (by decide +kernel)
theorem gW_X11_isStay : GoodIn tblG (wsG yX11_isStay cX11_isStay 3 (some .boolean)) := tgi cd_X11_isStay
theorem gS_X11_170 : GoodIn tblG (va_wsS RX11 170 yX11_isStay (wsG yX11_isStay cX11_isStay 3 (some .boolean))) := tgS ml_X11_170 st_X11_isStay ini_X11 gW_X11_isStay
theorem hs_X11_isStay : yX11_isStay.cls ≠ "java/lang/invoke/MethodHandle" ∧ yX11_isStay.cls ≠ "java/lang/invoke/VarHandle" ∧ (parseMethodDescriptor yX11_isStay.desc).map (fun d => d.parameters.length) = some 3 := by decide +kernel
theorem ml_X11_174 : Cond.methodLink RX11 174 yX1_isWalled ∈ tblG := tg 594 (by decide +kernel) (by decide +kernel)
theorem im_X1_isWalled : Cond.instanceMethod yX1_isWalled ∈ tblG := tg 595 (by decide +kernel) (by decide +kernel)
theorem se_X1_isWalled : Cond.selects RX1 yX1_isWalled yX1_isWalled ∈ tblG := tg 596 (by decide +kernel) (by decide +kernel)
theorem cd_X1_isWalled : Cond.code yX1_isWalled cX1_isWalled 2 (some .boolean) ∈ tblG := tg 597 (by decide +kernel) (by decide +kernel)
theorem gW_X1_isWalled : GoodIn tblG (wsG yX1_isWalled cX1_isWalled 2 (some .boolean)) := tgi cd_X1_isWalled
theorem gV_X11_174 : GoodIn tblG (wsV RX11 174 RX1 yX1_isWalled (wsG yX1_isWalled cX1_isWalled 2 (some .boolean))) := tgV ml_X11_174 im_X1_isWalled se_X1_isWalled ini_X1 gW_X1_isWalled
theorem hv_X1_isWalled : yX1_isWalled.cls = RX1 ∧ yX1_isWalled.cls ≠ "java/lang/invoke/MethodHandle" ∧ yX1_isWalled.cls ≠ "java/lang/invoke/VarHandle" ∧ (parseMethodDescriptor yX1_isWalled.desc).map (fun d => d.parameters.length) = some 1 := by decide +kernel
theorem ml_X11_177 : Cond.methodLink RX11 177 yX1_put ∈ tblG := tg 598 (by decide +kernel) (by decide +kernel)
theorem im_X1_put : Cond.instanceMethod yX1_put ∈ tblG := tg 599 (by decide +kernel) (by decide +kernel)
theorem se_X1_put : Cond.selects RX1 yX1_put yX1_put ∈ tblG := tg 600 (by decide +kernel) (by decide +kernel)
theorem cd_X1_put : Cond.code yX1_put cX1_put 10 none ∈ tblG := tg 601 (by decide +kernel) (by decide +kernel)
theorem gW_X1_put : GoodIn tblG (wsG yX1_put cX1_put 10 none) := tgi cd_X1_put
theorem gV_X11_177 : GoodIn tblG (wsV RX11 177 RX1 yX1_put (wsG yX1_put cX1_put 10 none)) := tgV ml_X11_177 im_X1_put se_X1_put ini_X1 gW_X1_put
theorem hv_X1_put : yX1_put.cls = RX1 ∧ yX1_put.cls ≠ "java/lang/invoke/MethodHandle" ∧ yX1_put.cls ≠ "java/lang/invoke/VarHandle" ∧ (parseMethodDescriptor yX1_put.desc).map (fun d => d.parameters.length) = some 4 := by decide +kernel
theorem dgX11_where_0 : ∀ r ∈ ([(0, (.aload_n 0, 1)), (1, (.getfield 12, 3)), (4, (.getfield 167, 3)), (7, (.iload_n 1, 1)), (8, (.iload_n 2, 1)), (9, (.invokevirtual 163, 3)), (12, (.ireturn, 1))] : List (Nat × (Instr × Nat))), decode cX11_where r.1 = .ok r.2 := by decide +kernel
theorem dX11_where_0 : decode cX11_where 0 = .ok (.aload_n 0, 1) := dgX11_where_0 (0, (.aload_n 0, 1)) (List.mem_of_getElem? (i := 0) rfl)
theorem dX11_where_1 : decode cX11_where 1 = .ok (.getfield 12, 3) := dgX11_where_0 (1, (.getfield 12, 3)) (List.mem_of_getElem? (i := 1) rfl)
theorem dX11_where_4 : decode cX11_where 4 = .ok (.getfield 167, 3) := dgX11_where_0 (4, (.getfield 167, 3)) (List.mem_of_getElem? (i := 2) rfl)
theorem dX11_where_7 : decode cX11_where 7 = .ok (.iload_n 1, 1) := dgX11_where_0 (7, (.iload_n 1, 1)) (List.mem_of_getElem? (i := 3) rfl)
theorem dX11_where_8 : decode cX11_where 8 = .ok (.iload_n 2, 1) := dgX11_where_0 (8, (.iload_n 2, 1)) (List.mem_of_getElem? (i := 4) rfl)
theorem dX11_where_9 : decode cX11_where 9 = .ok (.invokevirtual 163, 3) := dgX11_where_0 (9, (.invokevirtual 163, 3)) (List.mem_of_getElem? (i := 5) rfl)
theorem dX11_where_12 : decode cX11_where 12 = .ok (.ireturn, 1) := dgX11_where_0 (12, (.ireturn, 1)) (List.mem_of_getElem? (i := 6) rfl)
theorem dgX11_least_0 : ∀ r ∈ ([(0, (.iload_n 1, 1)), (1, (.ifCond .lt 9, 3)), (4, (.iload_n 1, 1)), (5, (.ldc 181, 2)), (7, (.if_icmp .le 9, 3)), (10, (.aload_n 0, 1)), (11, (.iconst (-1), 1)), (12, (.invokevirtual 104, 3)), (15, (.ireturn, 1)), (16, (.aload_n 0, 1)), (17, (.getfield 12, 3)), (20, (.getfield 182, 3)), (23, (.istore_n 2, 1)), (24, (.aload_n 0, 1)), (25, (.getfield 12, 3)), (28, (.iload_n 1, 1)), (29, (.putfield 182, 3)), (32, (.aload_n 0, 1)), (33, (.iload_n 2, 1)), (34, (.invokevirtual 121, 3)), (37, (.ireturn, 1))] : List (Nat × (Instr × Nat))), decode cX11_least r.1 = .ok r.2 := by decide +kernel
theorem dX11_least_0 : decode cX11_least 0 = .ok (.iload_n 1, 1) := dgX11_least_0 (0, (.iload_n 1, 1)) (List.mem_of_getElem? (i := 0) rfl)
theorem dX11_least_1 : decode cX11_least 1 = .ok (.ifCond .lt 9, 3) := dgX11_least_0 (1, (.ifCond .lt 9, 3)) (List.mem_of_getElem? (i := 1) rfl)
theorem dX11_least_4 : decode cX11_least 4 = .ok (.iload_n 1, 1) := dgX11_least_0 (4, (.iload_n 1, 1)) (List.mem_of_getElem? (i := 2) rfl)
theorem dX11_least_5 : decode cX11_least 5 = .ok (.ldc 181, 2) := dgX11_least_0 (5, (.ldc 181, 2)) (List.mem_of_getElem? (i := 3) rfl)
theorem dX11_least_7 : decode cX11_least 7 = .ok (.if_icmp .le 9, 3) := dgX11_least_0 (7, (.if_icmp .le 9, 3)) (List.mem_of_getElem? (i := 4) rfl)
theorem dX11_least_10 : decode cX11_least 10 = .ok (.aload_n 0, 1) := dgX11_least_0 (10, (.aload_n 0, 1)) (List.mem_of_getElem? (i := 5) rfl)
theorem dX11_least_11 : decode cX11_least 11 = .ok (.iconst (-1), 1) := dgX11_least_0 (11, (.iconst (-1), 1)) (List.mem_of_getElem? (i := 6) rfl)
theorem dX11_least_12 : decode cX11_least 12 = .ok (.invokevirtual 104, 3) := dgX11_least_0 (12, (.invokevirtual 104, 3)) (List.mem_of_getElem? (i := 7) rfl)
theorem dX11_least_15 : decode cX11_least 15 = .ok (.ireturn, 1) := dgX11_least_0 (15, (.ireturn, 1)) (List.mem_of_getElem? (i := 8) rfl)
theorem dX11_least_16 : decode cX11_least 16 = .ok (.aload_n 0, 1) := dgX11_least_0 (16, (.aload_n 0, 1)) (List.mem_of_getElem? (i := 9) rfl)
theorem dX11_least_17 : decode cX11_least 17 = .ok (.getfield 12, 3) := dgX11_least_0 (17, (.getfield 12, 3)) (List.mem_of_getElem? (i := 10) rfl)
theorem dX11_least_20 : decode cX11_least 20 = .ok (.getfield 182, 3) := dgX11_least_0 (20, (.getfield 182, 3)) (List.mem_of_getElem? (i := 11) rfl)
theorem dX11_least_23 : decode cX11_least 23 = .ok (.istore_n 2, 1) := dgX11_least_0 (23, (.istore_n 2, 1)) (List.mem_of_getElem? (i := 12) rfl)
theorem dX11_least_24 : decode cX11_least 24 = .ok (.aload_n 0, 1) := dgX11_least_0 (24, (.aload_n 0, 1)) (List.mem_of_getElem? (i := 13) rfl)
theorem dX11_least_25 : decode cX11_least 25 = .ok (.getfield 12, 3) := dgX11_least_0 (25, (.getfield 12, 3)) (List.mem_of_getElem? (i := 14) rfl)
theorem dX11_least_28 : decode cX11_least 28 = .ok (.iload_n 1, 1) := dgX11_least_0 (28, (.iload_n 1, 1)) (List.mem_of_getElem? (i := 15) rfl)
theorem dX11_least_29 : decode cX11_least 29 = .ok (.putfield 182, 3) := dgX11_least_0 (29, (.putfield 182, 3)) (List.mem_of_getElem? (i := 16) rfl)
theorem dX11_least_32 : decode cX11_least 32 = .ok (.aload_n 0, 1) := dgX11_least_0 (32, (.aload_n 0, 1)) (List.mem_of_getElem? (i := 17) rfl)
theorem dX11_least_33 : decode cX11_least 33 = .ok (.iload_n 2, 1) := dgX11_least_0 (33, (.iload_n 2, 1)) (List.mem_of_getElem? (i := 18) rfl)
theorem dX11_least_34 : decode cX11_least 34 = .ok (.invokevirtual 121, 3) := dgX11_least_0 (34, (.invokevirtual 121, 3)) (List.mem_of_getElem? (i := 19) rfl)
theorem dX11_least_37 : decode cX11_least 37 = .ok (.ireturn, 1) := dgX11_least_0 (37, (.ireturn, 1)) (List.mem_of_getElem? (i := 20) rfl)
theorem ki_X11_181 : Cond.constant RX11 181 1000000 ∈ tblG := tg 612 (by decide +kernel) (by decide +kernel)
theorem fl_X11_182 : Cond.fieldLink RX11 182 "LateGlass$House" "least" "I" ∈ tblG := tg 159 (by decide +kernel) (by decide +kernel)
theorem dgX11_write_0 : ∀ r ∈ ([(0, (.bipush 24, 2)), (2, (.istore_n 2, 1)), (3, (.iload_n 2, 1)), (4, (.ifCond .lt 47, 3)), (7, (.aload_n 0, 1)), (8, (.getfield 74, 3)), (11, (.aload_n 0, 1)), (12, (.getfield 70, 3)), (15, (.arraylength, 1)), (16, (.if_icmp .ge 35, 3)), (19, (.aload_n 0, 1)), (20, (.getfield 70, 3)), (23, (.aload_n 0, 1)), (24, (.getfield 74, 3)), (27, (.iload_n 1, 1)), (28, (.iload_n 2, 1)), (29, (.iushr, 1)), (30, (.sipush 255, 3)), (33, (.iand, 1)), (34, (.iastore, 1)), (35, (.aload_n 0, 1)), (36, (.dup, 1)), (37, (.getfield 74, 3)), (40, (.iconst 1, 1)), (41, (.iadd, 1)), (42, (.putfield 74, 3)), (45, (.iinc 2 (-8), 3)), (48, (.goto (-45), 3)), (51, (.return_, 1))] : List (Nat × (Instr × Nat))), decode cX11_write r.1 = .ok r.2 := by decide +kernel
theorem dX11_write_0 : decode cX11_write 0 = .ok (.bipush 24, 2) := dgX11_write_0 (0, (.bipush 24, 2)) (List.mem_of_getElem? (i := 0) rfl)
theorem dX11_write_2 : decode cX11_write 2 = .ok (.istore_n 2, 1) := dgX11_write_0 (2, (.istore_n 2, 1)) (List.mem_of_getElem? (i := 1) rfl)
theorem dX11_write_3 : decode cX11_write 3 = .ok (.iload_n 2, 1) := dgX11_write_0 (3, (.iload_n 2, 1)) (List.mem_of_getElem? (i := 2) rfl)
theorem dX11_write_4 : decode cX11_write 4 = .ok (.ifCond .lt 47, 3) := dgX11_write_0 (4, (.ifCond .lt 47, 3)) (List.mem_of_getElem? (i := 3) rfl)
theorem dX11_write_7 : decode cX11_write 7 = .ok (.aload_n 0, 1) := dgX11_write_0 (7, (.aload_n 0, 1)) (List.mem_of_getElem? (i := 4) rfl)
theorem dX11_write_8 : decode cX11_write 8 = .ok (.getfield 74, 3) := dgX11_write_0 (8, (.getfield 74, 3)) (List.mem_of_getElem? (i := 5) rfl)
theorem dX11_write_11 : decode cX11_write 11 = .ok (.aload_n 0, 1) := dgX11_write_0 (11, (.aload_n 0, 1)) (List.mem_of_getElem? (i := 6) rfl)
theorem dX11_write_12 : decode cX11_write 12 = .ok (.getfield 70, 3) := dgX11_write_0 (12, (.getfield 70, 3)) (List.mem_of_getElem? (i := 7) rfl)
theorem dX11_write_15 : decode cX11_write 15 = .ok (.arraylength, 1) := dgX11_write_0 (15, (.arraylength, 1)) (List.mem_of_getElem? (i := 8) rfl)
theorem dX11_write_16 : decode cX11_write 16 = .ok (.if_icmp .ge 35, 3) := dgX11_write_0 (16, (.if_icmp .ge 35, 3)) (List.mem_of_getElem? (i := 9) rfl)
theorem dX11_write_19 : decode cX11_write 19 = .ok (.aload_n 0, 1) := dgX11_write_0 (19, (.aload_n 0, 1)) (List.mem_of_getElem? (i := 10) rfl)
theorem dX11_write_20 : decode cX11_write 20 = .ok (.getfield 70, 3) := dgX11_write_0 (20, (.getfield 70, 3)) (List.mem_of_getElem? (i := 11) rfl)
theorem dX11_write_23 : decode cX11_write 23 = .ok (.aload_n 0, 1) := dgX11_write_0 (23, (.aload_n 0, 1)) (List.mem_of_getElem? (i := 12) rfl)
theorem dX11_write_24 : decode cX11_write 24 = .ok (.getfield 74, 3) := dgX11_write_0 (24, (.getfield 74, 3)) (List.mem_of_getElem? (i := 13) rfl)
theorem dX11_write_27 : decode cX11_write 27 = .ok (.iload_n 1, 1) := dgX11_write_0 (27, (.iload_n 1, 1)) (List.mem_of_getElem? (i := 14) rfl)
theorem dX11_write_28 : decode cX11_write 28 = .ok (.iload_n 2, 1) := dgX11_write_0 (28, (.iload_n 2, 1)) (List.mem_of_getElem? (i := 15) rfl)
theorem dX11_write_29 : decode cX11_write 29 = .ok (.iushr, 1) := dgX11_write_0 (29, (.iushr, 1)) (List.mem_of_getElem? (i := 16) rfl)
theorem dX11_write_30 : decode cX11_write 30 = .ok (.sipush 255, 3) := dgX11_write_0 (30, (.sipush 255, 3)) (List.mem_of_getElem? (i := 17) rfl)
theorem dX11_write_33 : decode cX11_write 33 = .ok (.iand, 1) := dgX11_write_0 (33, (.iand, 1)) (List.mem_of_getElem? (i := 18) rfl)
theorem dX11_write_34 : decode cX11_write 34 = .ok (.iastore, 1) := dgX11_write_0 (34, (.iastore, 1)) (List.mem_of_getElem? (i := 19) rfl)
theorem dX11_write_35 : decode cX11_write 35 = .ok (.aload_n 0, 1) := dgX11_write_0 (35, (.aload_n 0, 1)) (List.mem_of_getElem? (i := 20) rfl)
theorem dX11_write_36 : decode cX11_write 36 = .ok (.dup, 1) := dgX11_write_0 (36, (.dup, 1)) (List.mem_of_getElem? (i := 21) rfl)
theorem dX11_write_37 : decode cX11_write 37 = .ok (.getfield 74, 3) := dgX11_write_0 (37, (.getfield 74, 3)) (List.mem_of_getElem? (i := 22) rfl)
theorem dX11_write_40 : decode cX11_write 40 = .ok (.iconst 1, 1) := dgX11_write_0 (40, (.iconst 1, 1)) (List.mem_of_getElem? (i := 23) rfl)
theorem dX11_write_41 : decode cX11_write 41 = .ok (.iadd, 1) := dgX11_write_0 (41, (.iadd, 1)) (List.mem_of_getElem? (i := 24) rfl)
theorem dX11_write_42 : decode cX11_write 42 = .ok (.putfield 74, 3) := dgX11_write_0 (42, (.putfield 74, 3)) (List.mem_of_getElem? (i := 25) rfl)
theorem dX11_write_45 : decode cX11_write 45 = .ok (.iinc 2 (-8), 3) := dgX11_write_0 (45, (.iinc 2 (-8), 3)) (List.mem_of_getElem? (i := 26) rfl)
theorem dX11_write_48 : decode cX11_write 48 = .ok (.goto (-45), 3) := dgX11_write_0 (48, (.goto (-45), 3)) (List.mem_of_getElem? (i := 27) rfl)
theorem dX11_write_51 : decode cX11_write 51 = .ok (.return_, 1) := dgX11_write_0 (51, (.return_, 1)) (List.mem_of_getElem? (i := 28) rfl)
theorem fl_X11_74 : Cond.fieldLink RX11 74 "LateGlass" "tapeLength" "I" ∈ tblG := tg 454 (by decide +kernel) (by decide +kernel)
theorem fl_X11_70 : Cond.fieldLink RX11 70 "LateGlass" "tape" "[I" ∈ tblG := tg 453 (by decide +kernel) (by decide +kernel)
theorem dgX11_feed_0 : ∀ r ∈ ([(0, (.aload_n 0, 1)), (1, (.getfield 74, 3)), (4, (.bipush 20, 2)), (6, (.iadd, 1)), (7, (.sipush 400, 3)), (10, (.if_icmp .le 5, 3)), (13, (.iconst (-1), 1)), (14, (.ireturn, 1)), (15, (.aload_n 0, 1)), (16, (.iload_n 1, 1)), (17, (.invokevirtual 185, 3)), (20, (.aload_n 0, 1)), (21, (.iload_n 2, 1)), (22, (.invokevirtual 185, 3)), (25, (.aload_n 0, 1)), (26, (.iload_n 3, 1)), (27, (.invokevirtual 185, 3)), (30, (.aload_n 0, 1)), (31, (.iload 4, 2)), (33, (.invokevirtual 185, 3)), (36, (.aload_n 0, 1)), (37, (.iload 5, 2)), (39, (.invokevirtual 185, 3)), (42, (.aload_n 0, 1)), (43, (.getfield 74, 3)), (46, (.ireturn, 1))] : List (Nat × (Instr × Nat))), decode cX11_feed r.1 = .ok r.2 := by decide +kernel
theorem dX11_feed_0 : decode cX11_feed 0 = .ok (.aload_n 0, 1) := dgX11_feed_0 (0, (.aload_n 0, 1)) (List.mem_of_getElem? (i := 0) rfl)
theorem dX11_feed_1 : decode cX11_feed 1 = .ok (.getfield 74, 3) := dgX11_feed_0 (1, (.getfield 74, 3)) (List.mem_of_getElem? (i := 1) rfl)
theorem dX11_feed_4 : decode cX11_feed 4 = .ok (.bipush 20, 2) := dgX11_feed_0 (4, (.bipush 20, 2)) (List.mem_of_getElem? (i := 2) rfl)
theorem dX11_feed_6 : decode cX11_feed 6 = .ok (.iadd, 1) := dgX11_feed_0 (6, (.iadd, 1)) (List.mem_of_getElem? (i := 3) rfl)
theorem dX11_feed_7 : decode cX11_feed 7 = .ok (.sipush 400, 3) := dgX11_feed_0 (7, (.sipush 400, 3)) (List.mem_of_getElem? (i := 4) rfl)
theorem dX11_feed_10 : decode cX11_feed 10 = .ok (.if_icmp .le 5, 3) := dgX11_feed_0 (10, (.if_icmp .le 5, 3)) (List.mem_of_getElem? (i := 5) rfl)
theorem dX11_feed_13 : decode cX11_feed 13 = .ok (.iconst (-1), 1) := dgX11_feed_0 (13, (.iconst (-1), 1)) (List.mem_of_getElem? (i := 6) rfl)
theorem dX11_feed_14 : decode cX11_feed 14 = .ok (.ireturn, 1) := dgX11_feed_0 (14, (.ireturn, 1)) (List.mem_of_getElem? (i := 7) rfl)
theorem dX11_feed_15 : decode cX11_feed 15 = .ok (.aload_n 0, 1) := dgX11_feed_0 (15, (.aload_n 0, 1)) (List.mem_of_getElem? (i := 8) rfl)
theorem dX11_feed_16 : decode cX11_feed 16 = .ok (.iload_n 1, 1) := dgX11_feed_0 (16, (.iload_n 1, 1)) (List.mem_of_getElem? (i := 9) rfl)
theorem dX11_feed_17 : decode cX11_feed 17 = .ok (.invokevirtual 185, 3) := dgX11_feed_0 (17, (.invokevirtual 185, 3)) (List.mem_of_getElem? (i := 10) rfl)
theorem dX11_feed_20 : decode cX11_feed 20 = .ok (.aload_n 0, 1) := dgX11_feed_0 (20, (.aload_n 0, 1)) (List.mem_of_getElem? (i := 11) rfl)
theorem dX11_feed_21 : decode cX11_feed 21 = .ok (.iload_n 2, 1) := dgX11_feed_0 (21, (.iload_n 2, 1)) (List.mem_of_getElem? (i := 12) rfl)
theorem dX11_feed_22 : decode cX11_feed 22 = .ok (.invokevirtual 185, 3) := dgX11_feed_0 (22, (.invokevirtual 185, 3)) (List.mem_of_getElem? (i := 13) rfl)
theorem dX11_feed_25 : decode cX11_feed 25 = .ok (.aload_n 0, 1) := dgX11_feed_0 (25, (.aload_n 0, 1)) (List.mem_of_getElem? (i := 14) rfl)
theorem dX11_feed_26 : decode cX11_feed 26 = .ok (.iload_n 3, 1) := dgX11_feed_0 (26, (.iload_n 3, 1)) (List.mem_of_getElem? (i := 15) rfl)
theorem dX11_feed_27 : decode cX11_feed 27 = .ok (.invokevirtual 185, 3) := dgX11_feed_0 (27, (.invokevirtual 185, 3)) (List.mem_of_getElem? (i := 16) rfl)
theorem dX11_feed_30 : decode cX11_feed 30 = .ok (.aload_n 0, 1) := dgX11_feed_0 (30, (.aload_n 0, 1)) (List.mem_of_getElem? (i := 17) rfl)
theorem dX11_feed_31 : decode cX11_feed 31 = .ok (.iload 4, 2) := dgX11_feed_0 (31, (.iload 4, 2)) (List.mem_of_getElem? (i := 18) rfl)
theorem dX11_feed_33 : decode cX11_feed 33 = .ok (.invokevirtual 185, 3) := dgX11_feed_0 (33, (.invokevirtual 185, 3)) (List.mem_of_getElem? (i := 19) rfl)
theorem dX11_feed_36 : decode cX11_feed 36 = .ok (.aload_n 0, 1) := dgX11_feed_0 (36, (.aload_n 0, 1)) (List.mem_of_getElem? (i := 20) rfl)
theorem dX11_feed_37 : decode cX11_feed 37 = .ok (.iload 5, 2) := dgX11_feed_0 (37, (.iload 5, 2)) (List.mem_of_getElem? (i := 21) rfl)
theorem dX11_feed_39 : decode cX11_feed 39 = .ok (.invokevirtual 185, 3) := dgX11_feed_0 (39, (.invokevirtual 185, 3)) (List.mem_of_getElem? (i := 22) rfl)
theorem dX11_feed_42 : decode cX11_feed 42 = .ok (.aload_n 0, 1) := dgX11_feed_0 (42, (.aload_n 0, 1)) (List.mem_of_getElem? (i := 23) rfl)
theorem dX11_feed_43 : decode cX11_feed 43 = .ok (.getfield 74, 3) := dgX11_feed_0 (43, (.getfield 74, 3)) (List.mem_of_getElem? (i := 24) rfl)
theorem dX11_feed_46 : decode cX11_feed 46 = .ok (.ireturn, 1) := dgX11_feed_0 (46, (.ireturn, 1)) (List.mem_of_getElem? (i := 25) rfl)
theorem ml_X11_185 : Cond.methodLink RX11 185 yX11_write ∈ tblG := tg 617 (by decide +kernel) (by decide +kernel)
theorem im_X11_write : Cond.instanceMethod yX11_write ∈ tblG := tg 619 (by decide +kernel) (by decide +kernel)
theorem se_X11_write : Cond.selects RX11 yX11_write yX11_write ∈ tblG := tg 2 (by decide +kernel) (by decide +kernel)
theorem cd_X11_write : Cond.code yX11_write cX11_write 3 none ∈ tblG := tg 620 (by decide +kernel) (by decide +kernel)
theorem gW_X11_write : GoodIn tblG (wsG yX11_write cX11_write 3 none) := tgi cd_X11_write
theorem gV_X11_185 : GoodIn tblG (wsV RX11 185 RX11 yX11_write (wsG yX11_write cX11_write 3 none)) := tgV ml_X11_185 im_X11_write se_X11_write ini_X11 gW_X11_write
theorem hv_X11_write : yX11_write.cls = RX11 ∧ yX11_write.cls ≠ "java/lang/invoke/MethodHandle" ∧ yX11_write.cls ≠ "java/lang/invoke/VarHandle" ∧ (parseMethodDescriptor yX11_write.desc).map (fun d => d.parameters.length) = some 1 := by decide +kernel
theorem dgX11_end_0 : ∀ r ∈ ([(0, (.iload_n 1, 1)), (1, (.ifCond .lt 11, 3)), (4, (.iload_n 1, 1)), (5, (.aload_n 0, 1)), (6, (.getfield 74, 3)), (9, (.if_icmp .le 5, 3)), (12, (.iconst (-1), 1)), (13, (.ireturn, 1)), (14, (.aload_n 0, 1)), (15, (.iload_n 1, 1)), (16, (.putfield 74, 3)), (19, (.iload_n 1, 1)), (20, (.ireturn, 1))] : List (Nat × (Instr × Nat))), decode cX11_end r.1 = .ok r.2 := by decide +kernel
theorem dX11_end_0 : decode cX11_end 0 = .ok (.iload_n 1, 1) := dgX11_end_0 (0, (.iload_n 1, 1)) (List.mem_of_getElem? (i := 0) rfl)
theorem dX11_end_1 : decode cX11_end 1 = .ok (.ifCond .lt 11, 3) := dgX11_end_0 (1, (.ifCond .lt 11, 3)) (List.mem_of_getElem? (i := 1) rfl)
theorem dX11_end_4 : decode cX11_end 4 = .ok (.iload_n 1, 1) := dgX11_end_0 (4, (.iload_n 1, 1)) (List.mem_of_getElem? (i := 2) rfl)
theorem dX11_end_5 : decode cX11_end 5 = .ok (.aload_n 0, 1) := dgX11_end_0 (5, (.aload_n 0, 1)) (List.mem_of_getElem? (i := 3) rfl)
theorem dX11_end_6 : decode cX11_end 6 = .ok (.getfield 74, 3) := dgX11_end_0 (6, (.getfield 74, 3)) (List.mem_of_getElem? (i := 4) rfl)
theorem dX11_end_9 : decode cX11_end 9 = .ok (.if_icmp .le 5, 3) := dgX11_end_0 (9, (.if_icmp .le 5, 3)) (List.mem_of_getElem? (i := 5) rfl)
theorem dX11_end_12 : decode cX11_end 12 = .ok (.iconst (-1), 1) := dgX11_end_0 (12, (.iconst (-1), 1)) (List.mem_of_getElem? (i := 6) rfl)
theorem dX11_end_13 : decode cX11_end 13 = .ok (.ireturn, 1) := dgX11_end_0 (13, (.ireturn, 1)) (List.mem_of_getElem? (i := 7) rfl)
theorem dX11_end_14 : decode cX11_end 14 = .ok (.aload_n 0, 1) := dgX11_end_0 (14, (.aload_n 0, 1)) (List.mem_of_getElem? (i := 8) rfl)
theorem dX11_end_15 : decode cX11_end 15 = .ok (.iload_n 1, 1) := dgX11_end_0 (15, (.iload_n 1, 1)) (List.mem_of_getElem? (i := 9) rfl)
theorem dX11_end_16 : decode cX11_end 16 = .ok (.putfield 74, 3) := dgX11_end_0 (16, (.putfield 74, 3)) (List.mem_of_getElem? (i := 10) rfl)
theorem dX11_end_19 : decode cX11_end 19 = .ok (.iload_n 1, 1) := dgX11_end_0 (19, (.iload_n 1, 1)) (List.mem_of_getElem? (i := 11) rfl)
theorem dX11_end_20 : decode cX11_end 20 = .ok (.ireturn, 1) := dgX11_end_0 (20, (.ireturn, 1)) (List.mem_of_getElem? (i := 12) rfl)
theorem dX11_faded_0 : decode cX11_faded 0 = .ok (.aload_n 0, 1) := by decide +kernel
theorem dX11_faded_1 : decode cX11_faded 1 = .ok (.getfield 78, 3) := by decide +kernel
theorem dX11_faded_4 : decode cX11_faded 4 = .ok (.ireturn, 1) := by decide +kernel
theorem fl_X11_78 : Cond.fieldLink RX11 78 "LateGlass" "fadedStays" "I" ∈ tblG := tg 455 (by decide +kernel) (by decide +kernel)
set_option maxHeartbeats 4000000 in
set_option maxRecDepth 100000 in
theorem x_faded (l : Launch) (G : g5_G) (a_o a_h a_im a_ke a_k a_wa a_th a_ha a_wk a_r a_x a_wd a_rf : Nat) (sz : Nat) (e_tl : Int32) (e_fd : Int32) (e_fpl : Int32) (e_wn : Int32) (e_lr : Int32) (h_e_tl : 0 ≤ e_tl.toInt ∧ e_tl.toInt ≤ 400) (h_e_wn : 0 ≤ e_wn.toInt ∧ e_wn.toInt ≤ 1) : Met l yX11_faded (wsG yX11_faded cX11_faded 1 (some .int)) ({ frames := 0, cells := 0, slots := 0, locals := 0 }) (va_Pc [.ref a_o] (g5_P G [(a_o, (oc11 a_h a_im a_ke a_k a_wa a_th a_ha a_wk a_r a_x e_tl e_fd e_fpl a_wd e_wn a_rf e_lr))] sz)) (va_Qi (fun (r : Int32) (u : va_W) => ((r = e_fd) ∧ (u = [(a_o, (oc11 a_h a_im a_ke a_k a_wa a_th a_ha a_wk a_r a_x e_tl e_fd e_fpl a_wd e_wn a_rf e_lr))]))) (g5_B G (va_A [(a_o, (oc11 a_h a_im a_ke a_k a_wa a_th a_ha a_wk a_r a_x e_tl e_fd e_fpl a_wd e_wn a_rf e_lr))] sz)) (va_A [(a_o, (oc11 a_h a_im a_ke a_k a_wa a_th a_ha a_wk a_r a_x e_tl e_fd e_fpl a_wd e_wn a_rf e_lr))] sz)) 0 0 (va_A [(a_o, (oc11 a_h a_im a_ke a_k a_wa a_th a_ha a_wk a_r a_x e_tl e_fd e_fpl a_wd e_wn a_rf e_lr))] sz) := by
  refine Met.ofW (cc := cX11_faded) (maxL := 1) (ret := (some .int)) (by decide) rfl ?_
  intro p e s m args below meth c s₁ B hml hv
  obtain ⟨rfl, hsz, hP, hK, hD0, hN, hT⟩ := hv
  have hx := B.exec
  have hb := B.bytes
  have hr := B.returns
  have hts : ∀ w ∈ tblG, w.before _ s = true := fun w h => atoms_spec (ws := (wsG yX11_faded cX11_faded 1 (some .int))) B.pre w (List.mem_cons_of_mem _ h)
  have hown : s.vm.findClass RX11 = some m.cls := findClass_of_methodNamed B.named
  have hlocks := B.notSynchronized
  subst hsz
  have hD := hD0.self (sz := s.heap.size)
  generalize hAe : va_A [(a_o, (oc11 a_h a_im a_ke a_k a_wa a_th a_ha a_wk a_r a_x e_tl e_fd e_fpl a_wd e_wn a_rf e_lr))] s.heap.size = A at hD hT ⊢
  have hA : ∀ q : Nat, s.heap.size ≤ q → A q := fun q h => by rw [← hAe]; exact Or.inr h
  have hS : va_S A s.heap s.heap [] := va_S.rf
  have hP : va_P G.1 vwCl [(a_o, (oc11 a_h a_im a_ke a_k a_wa a_th a_ha a_wk a_r a_x e_tl e_fd e_fpl a_wd e_wn a_rf e_lr))] s.heap := hP
  have hl := lv_entry ([.ref a_o]) (n := 1) (Nat.le_of_ble_eq_true rfl)
  rw [lg_entry_eq]
  generalize (lg_sl ([.ref a_o]) ++ List.replicate (1 - (lg_sl ([.ref a_o])).length) Slot.unset).toArray = ls at hl ⊢
  have hl : lv_has ls 1 [(0, .ref a_o)] := hl
  refine lv_aload_n hx hb dX11_faded_0 rfl (lv_at hl 0 rfl) ?_
  refine va_get (D := G.1) (ci := 11) (v := .int e_fd) (C := RX11) (T := TX11) (N := 17) hx hb hts inG_X11 hown hK hP 0 rfl rfl 11 (by decide) (hts _ fl_X11_78) (fun _ h9 => h9) rfl dX11_faded_1 ?_
  exact W.iret (v := e_fd) hx hb hr (fun t ht hW => ⟨⟨e_fd, [(a_o, (oc11 a_h a_im a_ke a_k a_wa a_th a_ha a_wk a_r a_x e_tl e_fd e_fpl a_wd e_wn a_rf e_lr))], rfl, ⟨rfl, rfl⟩, by rw [ht]; exact hP.sub [0] rfl, hD.sub [0] (by decide) rfl⟩, hS.F ht⟩) hS.2.2 dX11_faded_4
theorem dX11_fault_0 : decode cX11_fault 0 = .ok (.aload_n 0, 1) := by decide +kernel
theorem dX11_fault_1 : decode cX11_fault 1 = .ok (.getfield 81, 3) := by decide +kernel
theorem dX11_fault_4 : decode cX11_fault 4 = .ok (.ireturn, 1) := by decide +kernel
theorem fl_X11_81 : Cond.fieldLink RX11 81 "LateGlass" "faultPlace" "I" ∈ tblG := tg 456 (by decide +kernel) (by decide +kernel)
set_option maxHeartbeats 4000000 in
set_option maxRecDepth 100000 in
theorem x_fault (l : Launch) (G : g5_G) (a_o a_h a_im a_ke a_k a_wa a_th a_ha a_wk a_r a_x a_wd a_rf : Nat) (sz : Nat) (e_tl : Int32) (e_fd : Int32) (e_fpl : Int32) (e_wn : Int32) (e_lr : Int32) (h_e_tl : 0 ≤ e_tl.toInt ∧ e_tl.toInt ≤ 400) (h_e_wn : 0 ≤ e_wn.toInt ∧ e_wn.toInt ≤ 1) : Met l yX11_fault (wsG yX11_fault cX11_fault 1 (some .int)) ({ frames := 0, cells := 0, slots := 0, locals := 0 }) (va_Pc [.ref a_o] (g5_P G [(a_o, (oc11 a_h a_im a_ke a_k a_wa a_th a_ha a_wk a_r a_x e_tl e_fd e_fpl a_wd e_wn a_rf e_lr))] sz)) (va_Qi (fun (r : Int32) (u : va_W) => ((r = e_fpl) ∧ (u = [(a_o, (oc11 a_h a_im a_ke a_k a_wa a_th a_ha a_wk a_r a_x e_tl e_fd e_fpl a_wd e_wn a_rf e_lr))]))) (g5_B G (va_A [(a_o, (oc11 a_h a_im a_ke a_k a_wa a_th a_ha a_wk a_r a_x e_tl e_fd e_fpl a_wd e_wn a_rf e_lr))] sz)) (va_A [(a_o, (oc11 a_h a_im a_ke a_k a_wa a_th a_ha a_wk a_r a_x e_tl e_fd e_fpl a_wd e_wn a_rf e_lr))] sz)) 0 0 (va_A [(a_o, (oc11 a_h a_im a_ke a_k a_wa a_th a_ha a_wk a_r a_x e_tl e_fd e_fpl a_wd e_wn a_rf e_lr))] sz) := by
  refine Met.ofW (cc := cX11_fault) (maxL := 1) (ret := (some .int)) (by decide) rfl ?_
  intro p e s m args below meth c s₁ B hml hv
  obtain ⟨rfl, hsz, hP, hK, hD0, hN, hT⟩ := hv
  have hx := B.exec
  have hb := B.bytes
  have hr := B.returns
  have hts : ∀ w ∈ tblG, w.before _ s = true := fun w h => atoms_spec (ws := (wsG yX11_fault cX11_fault 1 (some .int))) B.pre w (List.mem_cons_of_mem _ h)
  have hown : s.vm.findClass RX11 = some m.cls := findClass_of_methodNamed B.named
  have hlocks := B.notSynchronized
  subst hsz
  have hD := hD0.self (sz := s.heap.size)
  generalize hAe : va_A [(a_o, (oc11 a_h a_im a_ke a_k a_wa a_th a_ha a_wk a_r a_x e_tl e_fd e_fpl a_wd e_wn a_rf e_lr))] s.heap.size = A at hD hT ⊢
  have hA : ∀ q : Nat, s.heap.size ≤ q → A q := fun q h => by rw [← hAe]; exact Or.inr h
  have hS : va_S A s.heap s.heap [] := va_S.rf
  have hP : va_P G.1 vwCl [(a_o, (oc11 a_h a_im a_ke a_k a_wa a_th a_ha a_wk a_r a_x e_tl e_fd e_fpl a_wd e_wn a_rf e_lr))] s.heap := hP
  have hl := lv_entry ([.ref a_o]) (n := 1) (Nat.le_of_ble_eq_true rfl)
  rw [lg_entry_eq]
  generalize (lg_sl ([.ref a_o]) ++ List.replicate (1 - (lg_sl ([.ref a_o])).length) Slot.unset).toArray = ls at hl ⊢
  have hl : lv_has ls 1 [(0, .ref a_o)] := hl
  refine lv_aload_n hx hb dX11_fault_0 rfl (lv_at hl 0 rfl) ?_
  refine va_get (D := G.1) (ci := 11) (v := .int e_fpl) (C := RX11) (T := TX11) (N := 17) hx hb hts inG_X11 hown hK hP 0 rfl rfl 12 (by decide) (hts _ fl_X11_81) (fun _ h9 => h9) rfl dX11_fault_1 ?_
  exact W.iret (v := e_fpl) hx hb hr (fun t ht hW => ⟨⟨e_fpl, [(a_o, (oc11 a_h a_im a_ke a_k a_wa a_th a_ha a_wk a_r a_x e_tl e_fd e_fpl a_wd e_wn a_rf e_lr))], rfl, ⟨rfl, rfl⟩, by rw [ht]; exact hP.sub [0] rfl, hD.sub [0] (by decide) rfl⟩, hS.F ht⟩) hS.2.2 dX11_fault_4
theorem dX11_status_0 : decode cX11_status 0 = .ok (.aload_n 0, 1) := by decide +kernel
theorem dX11_status_1 : decode cX11_status 1 = .ok (.getfield 94, 3) := by decide +kernel
theorem dX11_status_4 : decode cX11_status 4 = .ok (.ireturn, 1) := by decide +kernel
set_option maxHeartbeats 4000000 in
set_option maxRecDepth 100000 in
theorem x_status (l : Launch) (G : g5_G) (a_o a_h a_im a_ke a_k a_wa a_th a_ha a_wk a_r a_x a_wd a_rf : Nat) (sz : Nat) (e_tl : Int32) (e_fd : Int32) (e_fpl : Int32) (e_wn : Int32) (e_lr : Int32) (h_e_tl : 0 ≤ e_tl.toInt ∧ e_tl.toInt ≤ 400) (h_e_wn : 0 ≤ e_wn.toInt ∧ e_wn.toInt ≤ 1) : Met l yX11_status (wsG yX11_status cX11_status 1 (some .int)) ({ frames := 0, cells := 0, slots := 0, locals := 0 }) (va_Pc [.ref a_o] (g5_P G [(a_o, (oc11 a_h a_im a_ke a_k a_wa a_th a_ha a_wk a_r a_x e_tl e_fd e_fpl a_wd e_wn a_rf e_lr))] sz)) (va_Qi (fun (r : Int32) (u : va_W) => ((r = e_lr) ∧ (u = [(a_o, (oc11 a_h a_im a_ke a_k a_wa a_th a_ha a_wk a_r a_x e_tl e_fd e_fpl a_wd e_wn a_rf e_lr))]))) (g5_B G (va_A [(a_o, (oc11 a_h a_im a_ke a_k a_wa a_th a_ha a_wk a_r a_x e_tl e_fd e_fpl a_wd e_wn a_rf e_lr))] sz)) (va_A [(a_o, (oc11 a_h a_im a_ke a_k a_wa a_th a_ha a_wk a_r a_x e_tl e_fd e_fpl a_wd e_wn a_rf e_lr))] sz)) 0 0 (va_A [(a_o, (oc11 a_h a_im a_ke a_k a_wa a_th a_ha a_wk a_r a_x e_tl e_fd e_fpl a_wd e_wn a_rf e_lr))] sz) := by
  refine Met.ofW (cc := cX11_status) (maxL := 1) (ret := (some .int)) (by decide) rfl ?_
  intro p e s m args below meth c s₁ B hml hv
  obtain ⟨rfl, hsz, hP, hK, hD0, hN, hT⟩ := hv
  have hx := B.exec
  have hb := B.bytes
  have hr := B.returns
  have hts : ∀ w ∈ tblG, w.before _ s = true := fun w h => atoms_spec (ws := (wsG yX11_status cX11_status 1 (some .int))) B.pre w (List.mem_cons_of_mem _ h)
  have hown : s.vm.findClass RX11 = some m.cls := findClass_of_methodNamed B.named
  have hlocks := B.notSynchronized
  subst hsz
  have hD := hD0.self (sz := s.heap.size)
  generalize hAe : va_A [(a_o, (oc11 a_h a_im a_ke a_k a_wa a_th a_ha a_wk a_r a_x e_tl e_fd e_fpl a_wd e_wn a_rf e_lr))] s.heap.size = A at hD hT ⊢
  have hA : ∀ q : Nat, s.heap.size ≤ q → A q := fun q h => by rw [← hAe]; exact Or.inr h
  have hS : va_S A s.heap s.heap [] := va_S.rf
  have hP : va_P G.1 vwCl [(a_o, (oc11 a_h a_im a_ke a_k a_wa a_th a_ha a_wk a_r a_x e_tl e_fd e_fpl a_wd e_wn a_rf e_lr))] s.heap := hP
  have hl := lv_entry ([.ref a_o]) (n := 1) (Nat.le_of_ble_eq_true rfl)
  rw [lg_entry_eq]
  generalize (lg_sl ([.ref a_o]) ++ List.replicate (1 - (lg_sl ([.ref a_o])).length) Slot.unset).toArray = ls at hl ⊢
  have hl : lv_has ls 1 [(0, .ref a_o)] := hl
  refine lv_aload_n hx hb dX11_status_0 rfl (lv_at hl 0 rfl) ?_
  refine va_get (D := G.1) (ci := 11) (v := .int e_lr) (C := RX11) (T := TX11) (N := 17) hx hb hts inG_X11 hown hK hP 0 rfl rfl 16 (by decide) (hts _ fl_X11_94) (fun _ h9 => h9) rfl dX11_status_1 ?_
  exact W.iret (v := e_lr) hx hb hr (fun t ht hW => ⟨⟨e_lr, [(a_o, (oc11 a_h a_im a_ke a_k a_wa a_th a_ha a_wk a_r a_x e_tl e_fd e_fpl a_wd e_wn a_rf e_lr))], rfl, ⟨rfl, rfl⟩, by rw [ht]; exact hP.sub [0] rfl, hD.sub [0] (by decide) rfl⟩, hS.F ht⟩) hS.2.2 dX11_status_4
theorem dgX11_drawn_0 : ∀ r ∈ ([(0, (.aload_n 0, 1)), (1, (.getfield 87, 3)), (4, (.ifCond .eq 19, 3)), (7, (.iload_n 1, 1)), (8, (.invokestatic 127, 3)), (11, (.ifCond .eq 12, 3)), (14, (.aload_n 0, 1)), (15, (.getfield 84, 3)), (18, (.iload_n 1, 1)), (19, (.iaload, 1)), (20, (.goto 4, 3)), (23, (.iconst (-1), 1)), (24, (.ireturn, 1))] : List (Nat × (Instr × Nat))), decode cX11_drawn r.1 = .ok r.2 := by decide +kernel
theorem dX11_drawn_0 : decode cX11_drawn 0 = .ok (.aload_n 0, 1) := dgX11_drawn_0 (0, (.aload_n 0, 1)) (List.mem_of_getElem? (i := 0) rfl)
theorem dX11_drawn_1 : decode cX11_drawn 1 = .ok (.getfield 87, 3) := dgX11_drawn_0 (1, (.getfield 87, 3)) (List.mem_of_getElem? (i := 1) rfl)
theorem dX11_drawn_4 : decode cX11_drawn 4 = .ok (.ifCond .eq 19, 3) := dgX11_drawn_0 (4, (.ifCond .eq 19, 3)) (List.mem_of_getElem? (i := 2) rfl)
theorem dX11_drawn_7 : decode cX11_drawn 7 = .ok (.iload_n 1, 1) := dgX11_drawn_0 (7, (.iload_n 1, 1)) (List.mem_of_getElem? (i := 3) rfl)
theorem dX11_drawn_8 : decode cX11_drawn 8 = .ok (.invokestatic 127, 3) := dgX11_drawn_0 (8, (.invokestatic 127, 3)) (List.mem_of_getElem? (i := 4) rfl)
theorem dX11_drawn_11 : decode cX11_drawn 11 = .ok (.ifCond .eq 12, 3) := dgX11_drawn_0 (11, (.ifCond .eq 12, 3)) (List.mem_of_getElem? (i := 5) rfl)
theorem dX11_drawn_14 : decode cX11_drawn 14 = .ok (.aload_n 0, 1) := dgX11_drawn_0 (14, (.aload_n 0, 1)) (List.mem_of_getElem? (i := 6) rfl)
theorem dX11_drawn_15 : decode cX11_drawn 15 = .ok (.getfield 84, 3) := dgX11_drawn_0 (15, (.getfield 84, 3)) (List.mem_of_getElem? (i := 7) rfl)
theorem dX11_drawn_18 : decode cX11_drawn 18 = .ok (.iload_n 1, 1) := dgX11_drawn_0 (18, (.iload_n 1, 1)) (List.mem_of_getElem? (i := 8) rfl)
theorem dX11_drawn_19 : decode cX11_drawn 19 = .ok (.iaload, 1) := dgX11_drawn_0 (19, (.iaload, 1)) (List.mem_of_getElem? (i := 9) rfl)
theorem dX11_drawn_20 : decode cX11_drawn 20 = .ok (.goto 4, 3) := dgX11_drawn_0 (20, (.goto 4, 3)) (List.mem_of_getElem? (i := 10) rfl)
theorem dX11_drawn_23 : decode cX11_drawn 23 = .ok (.iconst (-1), 1) := dgX11_drawn_0 (23, (.iconst (-1), 1)) (List.mem_of_getElem? (i := 11) rfl)
theorem dX11_drawn_24 : decode cX11_drawn 24 = .ok (.ireturn, 1) := dgX11_drawn_0 (24, (.ireturn, 1)) (List.mem_of_getElem? (i := 12) rfl)
theorem fl_X11_87 : Cond.fieldLink RX11 87 "LateGlass" "wandered" "Z" ∈ tblG := tg 458 (by decide +kernel) (by decide +kernel)
theorem fl_X11_84 : Cond.fieldLink RX11 84 "LateGlass" "wandering" "[I" ∈ tblG := tg 457 (by decide +kernel) (by decide +kernel)
theorem dgX11_force_0 : ∀ r ∈ ([(0, (.iload_n 1, 1)), (1, (.iconst (-1), 1)), (2, (.if_icmp .lt 14, 3)), (5, (.iload_n 1, 1)), (6, (.aload_n 0, 1)), (7, (.getfield 12, 3)), (10, (.getfield 192, 3)), (13, (.if_icmp .lt 10, 3)), (16, (.aload_n 0, 1)), (17, (.bipush (-2), 2)), (19, (.invokevirtual 104, 3)), (22, (.ireturn, 1)), (23, (.aload_n 0, 1)), (24, (.getfield 12, 3)), (27, (.getfield 204, 3)), (30, (.istore_n 2, 1)), (31, (.aload_n 0, 1)), (32, (.getfield 12, 3)), (35, (.iload_n 1, 1)), (36, (.putfield 204, 3)), (39, (.aload_n 0, 1)), (40, (.iload_n 2, 1)), (41, (.invokevirtual 121, 3)), (44, (.ireturn, 1))] : List (Nat × (Instr × Nat))), decode cX11_force r.1 = .ok r.2 := by decide +kernel
theorem dX11_force_0 : decode cX11_force 0 = .ok (.iload_n 1, 1) := dgX11_force_0 (0, (.iload_n 1, 1)) (List.mem_of_getElem? (i := 0) rfl)
theorem dX11_force_1 : decode cX11_force 1 = .ok (.iconst (-1), 1) := dgX11_force_0 (1, (.iconst (-1), 1)) (List.mem_of_getElem? (i := 1) rfl)
theorem dX11_force_2 : decode cX11_force 2 = .ok (.if_icmp .lt 14, 3) := dgX11_force_0 (2, (.if_icmp .lt 14, 3)) (List.mem_of_getElem? (i := 2) rfl)
theorem dX11_force_5 : decode cX11_force 5 = .ok (.iload_n 1, 1) := dgX11_force_0 (5, (.iload_n 1, 1)) (List.mem_of_getElem? (i := 3) rfl)
theorem dX11_force_6 : decode cX11_force 6 = .ok (.aload_n 0, 1) := dgX11_force_0 (6, (.aload_n 0, 1)) (List.mem_of_getElem? (i := 4) rfl)
theorem dX11_force_7 : decode cX11_force 7 = .ok (.getfield 12, 3) := dgX11_force_0 (7, (.getfield 12, 3)) (List.mem_of_getElem? (i := 5) rfl)
theorem dX11_force_10 : decode cX11_force 10 = .ok (.getfield 192, 3) := dgX11_force_0 (10, (.getfield 192, 3)) (List.mem_of_getElem? (i := 6) rfl)
theorem dX11_force_13 : decode cX11_force 13 = .ok (.if_icmp .lt 10, 3) := dgX11_force_0 (13, (.if_icmp .lt 10, 3)) (List.mem_of_getElem? (i := 7) rfl)
theorem dX11_force_16 : decode cX11_force 16 = .ok (.aload_n 0, 1) := dgX11_force_0 (16, (.aload_n 0, 1)) (List.mem_of_getElem? (i := 8) rfl)
theorem dX11_force_17 : decode cX11_force 17 = .ok (.bipush (-2), 2) := dgX11_force_0 (17, (.bipush (-2), 2)) (List.mem_of_getElem? (i := 9) rfl)
theorem dX11_force_19 : decode cX11_force 19 = .ok (.invokevirtual 104, 3) := dgX11_force_0 (19, (.invokevirtual 104, 3)) (List.mem_of_getElem? (i := 10) rfl)
theorem dX11_force_22 : decode cX11_force 22 = .ok (.ireturn, 1) := dgX11_force_0 (22, (.ireturn, 1)) (List.mem_of_getElem? (i := 11) rfl)
theorem dX11_force_23 : decode cX11_force 23 = .ok (.aload_n 0, 1) := dgX11_force_0 (23, (.aload_n 0, 1)) (List.mem_of_getElem? (i := 12) rfl)
theorem dX11_force_24 : decode cX11_force 24 = .ok (.getfield 12, 3) := dgX11_force_0 (24, (.getfield 12, 3)) (List.mem_of_getElem? (i := 13) rfl)
theorem dX11_force_27 : decode cX11_force 27 = .ok (.getfield 204, 3) := dgX11_force_0 (27, (.getfield 204, 3)) (List.mem_of_getElem? (i := 14) rfl)
theorem dX11_force_30 : decode cX11_force 30 = .ok (.istore_n 2, 1) := dgX11_force_0 (30, (.istore_n 2, 1)) (List.mem_of_getElem? (i := 15) rfl)
theorem dX11_force_31 : decode cX11_force 31 = .ok (.aload_n 0, 1) := dgX11_force_0 (31, (.aload_n 0, 1)) (List.mem_of_getElem? (i := 16) rfl)
theorem dX11_force_32 : decode cX11_force 32 = .ok (.getfield 12, 3) := dgX11_force_0 (32, (.getfield 12, 3)) (List.mem_of_getElem? (i := 17) rfl)
theorem dX11_force_35 : decode cX11_force 35 = .ok (.iload_n 1, 1) := dgX11_force_0 (35, (.iload_n 1, 1)) (List.mem_of_getElem? (i := 18) rfl)
theorem dX11_force_36 : decode cX11_force 36 = .ok (.putfield 204, 3) := dgX11_force_0 (36, (.putfield 204, 3)) (List.mem_of_getElem? (i := 19) rfl)
theorem dX11_force_39 : decode cX11_force 39 = .ok (.aload_n 0, 1) := dgX11_force_0 (39, (.aload_n 0, 1)) (List.mem_of_getElem? (i := 20) rfl)
theorem dX11_force_40 : decode cX11_force 40 = .ok (.iload_n 2, 1) := dgX11_force_0 (40, (.iload_n 2, 1)) (List.mem_of_getElem? (i := 21) rfl)
theorem dX11_force_41 : decode cX11_force 41 = .ok (.invokevirtual 121, 3) := dgX11_force_0 (41, (.invokevirtual 121, 3)) (List.mem_of_getElem? (i := 22) rfl)
theorem dX11_force_44 : decode cX11_force 44 = .ok (.ireturn, 1) := dgX11_force_0 (44, (.ireturn, 1)) (List.mem_of_getElem? (i := 23) rfl)
theorem fl_X11_192 : Cond.fieldLink RX11 192 "LateGlass$House" "lawCount" "I" ∈ tblG := tg 167 (by decide +kernel) (by decide +kernel)
theorem fl_X11_204 : Cond.fieldLink RX11 204 "LateGlass$House" "forced" "I" ∈ tblG := tg 165 (by decide +kernel) (by decide +kernel)
theorem dgX11_start_0 : ∀ r ∈ ([(0, (.iload_n 1, 1)), (1, (.invokestatic 241, 3)), (4, (.ifCond .ne 9, 3)), (7, (.aload_n 0, 1)), (8, (.iconst (-1), 1)), (9, (.invokevirtual 104, 3)), (12, (.ireturn, 1)), (13, (.aload_n 0, 1)), (14, (.getfield 12, 3)), (17, (.iload_n 1, 1)), (18, (.invokevirtual 174, 3)), (21, (.ifCond .eq 10, 3)), (24, (.aload_n 0, 1)), (25, (.bipush (-3), 2)), (27, (.invokevirtual 104, 3)), (30, (.ireturn, 1)), (31, (.aload_n 0, 1)), (32, (.getfield 12, 3)), (35, (.getfield 274, 3)), (38, (.istore_n 2, 1)), (39, (.aload_n 0, 1)), (40, (.getfield 12, 3)), (43, (.iload_n 1, 1)), (44, (.putfield 274, 3)), (47, (.aload_n 0, 1)), (48, (.iload_n 2, 1)), (49, (.invokevirtual 121, 3)), (52, (.ireturn, 1))] : List (Nat × (Instr × Nat))), decode cX11_start r.1 = .ok r.2 := by decide +kernel
theorem dX11_start_0 : decode cX11_start 0 = .ok (.iload_n 1, 1) := dgX11_start_0 (0, (.iload_n 1, 1)) (List.mem_of_getElem? (i := 0) rfl)
theorem dX11_start_1 : decode cX11_start 1 = .ok (.invokestatic 241, 3) := dgX11_start_0 (1, (.invokestatic 241, 3)) (List.mem_of_getElem? (i := 1) rfl)
theorem dX11_start_4 : decode cX11_start 4 = .ok (.ifCond .ne 9, 3) := dgX11_start_0 (4, (.ifCond .ne 9, 3)) (List.mem_of_getElem? (i := 2) rfl)
theorem dX11_start_7 : decode cX11_start 7 = .ok (.aload_n 0, 1) := dgX11_start_0 (7, (.aload_n 0, 1)) (List.mem_of_getElem? (i := 3) rfl)
theorem dX11_start_8 : decode cX11_start 8 = .ok (.iconst (-1), 1) := dgX11_start_0 (8, (.iconst (-1), 1)) (List.mem_of_getElem? (i := 4) rfl)
theorem dX11_start_9 : decode cX11_start 9 = .ok (.invokevirtual 104, 3) := dgX11_start_0 (9, (.invokevirtual 104, 3)) (List.mem_of_getElem? (i := 5) rfl)
theorem dX11_start_12 : decode cX11_start 12 = .ok (.ireturn, 1) := dgX11_start_0 (12, (.ireturn, 1)) (List.mem_of_getElem? (i := 6) rfl)
theorem dX11_start_13 : decode cX11_start 13 = .ok (.aload_n 0, 1) := dgX11_start_0 (13, (.aload_n 0, 1)) (List.mem_of_getElem? (i := 7) rfl)
theorem dX11_start_14 : decode cX11_start 14 = .ok (.getfield 12, 3) := dgX11_start_0 (14, (.getfield 12, 3)) (List.mem_of_getElem? (i := 8) rfl)
theorem dX11_start_17 : decode cX11_start 17 = .ok (.iload_n 1, 1) := dgX11_start_0 (17, (.iload_n 1, 1)) (List.mem_of_getElem? (i := 9) rfl)
theorem dX11_start_18 : decode cX11_start 18 = .ok (.invokevirtual 174, 3) := dgX11_start_0 (18, (.invokevirtual 174, 3)) (List.mem_of_getElem? (i := 10) rfl)
theorem dX11_start_21 : decode cX11_start 21 = .ok (.ifCond .eq 10, 3) := dgX11_start_0 (21, (.ifCond .eq 10, 3)) (List.mem_of_getElem? (i := 11) rfl)
theorem dX11_start_24 : decode cX11_start 24 = .ok (.aload_n 0, 1) := dgX11_start_0 (24, (.aload_n 0, 1)) (List.mem_of_getElem? (i := 12) rfl)
theorem dX11_start_25 : decode cX11_start 25 = .ok (.bipush (-3), 2) := dgX11_start_0 (25, (.bipush (-3), 2)) (List.mem_of_getElem? (i := 13) rfl)
theorem dX11_start_27 : decode cX11_start 27 = .ok (.invokevirtual 104, 3) := dgX11_start_0 (27, (.invokevirtual 104, 3)) (List.mem_of_getElem? (i := 14) rfl)
theorem dX11_start_30 : decode cX11_start 30 = .ok (.ireturn, 1) := dgX11_start_0 (30, (.ireturn, 1)) (List.mem_of_getElem? (i := 15) rfl)
theorem dX11_start_31 : decode cX11_start 31 = .ok (.aload_n 0, 1) := dgX11_start_0 (31, (.aload_n 0, 1)) (List.mem_of_getElem? (i := 16) rfl)
theorem dX11_start_32 : decode cX11_start 32 = .ok (.getfield 12, 3) := dgX11_start_0 (32, (.getfield 12, 3)) (List.mem_of_getElem? (i := 17) rfl)
theorem dX11_start_35 : decode cX11_start 35 = .ok (.getfield 274, 3) := dgX11_start_0 (35, (.getfield 274, 3)) (List.mem_of_getElem? (i := 18) rfl)
theorem dX11_start_38 : decode cX11_start 38 = .ok (.istore_n 2, 1) := dgX11_start_0 (38, (.istore_n 2, 1)) (List.mem_of_getElem? (i := 19) rfl)
theorem dX11_start_39 : decode cX11_start 39 = .ok (.aload_n 0, 1) := dgX11_start_0 (39, (.aload_n 0, 1)) (List.mem_of_getElem? (i := 20) rfl)
theorem dX11_start_40 : decode cX11_start 40 = .ok (.getfield 12, 3) := dgX11_start_0 (40, (.getfield 12, 3)) (List.mem_of_getElem? (i := 21) rfl)
theorem dX11_start_43 : decode cX11_start 43 = .ok (.iload_n 1, 1) := dgX11_start_0 (43, (.iload_n 1, 1)) (List.mem_of_getElem? (i := 22) rfl)
theorem dX11_start_44 : decode cX11_start 44 = .ok (.putfield 274, 3) := dgX11_start_0 (44, (.putfield 274, 3)) (List.mem_of_getElem? (i := 23) rfl)
theorem dX11_start_47 : decode cX11_start 47 = .ok (.aload_n 0, 1) := dgX11_start_0 (47, (.aload_n 0, 1)) (List.mem_of_getElem? (i := 24) rfl)
theorem dX11_start_48 : decode cX11_start 48 = .ok (.iload_n 2, 1) := dgX11_start_0 (48, (.iload_n 2, 1)) (List.mem_of_getElem? (i := 25) rfl)
theorem dX11_start_49 : decode cX11_start 49 = .ok (.invokevirtual 121, 3) := dgX11_start_0 (49, (.invokevirtual 121, 3)) (List.mem_of_getElem? (i := 26) rfl)
theorem dX11_start_52 : decode cX11_start 52 = .ok (.ireturn, 1) := dgX11_start_0 (52, (.ireturn, 1)) (List.mem_of_getElem? (i := 27) rfl)
theorem fl_X11_274 : Cond.fieldLink RX11 274 "LateGlass$House" "start" "I" ∈ tblG := tg 163 (by decide +kernel) (by decide +kernel)
theorem dgX11_readStay_0 : ∀ r ∈ ([(0, (.iload_n 1, 1)), (1, (.iconst 4, 1)), (2, (.iadd, 1)), (3, (.aload_n 0, 1)), (4, (.getfield 74, 3)), (7, (.if_icmp .le 5, 3)), (10, (.iconst 0, 1)), (11, (.ireturn, 1)), (12, (.aload_n 0, 1)), (13, (.getfield 70, 3)), (16, (.iload_n 1, 1)), (17, (.iaload, 1)), (18, (.istore_n 2, 1)), (19, (.aload_n 0, 1)), (20, (.getfield 70, 3)), (23, (.iload_n 1, 1)), (24, (.iconst 1, 1)), (25, (.iadd, 1)), (26, (.iaload, 1)), (27, (.istore_n 3, 1)), (28, (.aload_n 0, 1)), (29, (.getfield 70, 3)), (32, (.iload_n 1, 1)), (33, (.iconst 2, 1)), (34, (.iadd, 1)), (35, (.iaload, 1)), (36, (.istore 4, 2)), (38, (.aload_n 0, 1)), (39, (.getfield 70, 3)), (42, (.iload_n 1, 1)), (43, (.iconst 3, 1)), (44, (.iadd, 1)), (45, (.iaload, 1)), (46, (.sipush 255, 3)), (49, (.if_icmp .ne 7, 3)), (52, (.iconst (-1), 1)), (53, (.goto 11, 3)), (56, (.aload_n 0, 1)), (57, (.getfield 70, 3)), (60, (.iload_n 1, 1))] : List (Nat × (Instr × Nat))), decode cX11_readStay r.1 = .ok r.2 := by decide +kernel
theorem dX11_readStay_0 : decode cX11_readStay 0 = .ok (.iload_n 1, 1) := dgX11_readStay_0 (0, (.iload_n 1, 1)) (List.mem_of_getElem? (i := 0) rfl)
theorem dX11_readStay_1 : decode cX11_readStay 1 = .ok (.iconst 4, 1) := dgX11_readStay_0 (1, (.iconst 4, 1)) (List.mem_of_getElem? (i := 1) rfl)
theorem dX11_readStay_2 : decode cX11_readStay 2 = .ok (.iadd, 1) := dgX11_readStay_0 (2, (.iadd, 1)) (List.mem_of_getElem? (i := 2) rfl)
theorem dX11_readStay_3 : decode cX11_readStay 3 = .ok (.aload_n 0, 1) := dgX11_readStay_0 (3, (.aload_n 0, 1)) (List.mem_of_getElem? (i := 3) rfl)
theorem dX11_readStay_4 : decode cX11_readStay 4 = .ok (.getfield 74, 3) := dgX11_readStay_0 (4, (.getfield 74, 3)) (List.mem_of_getElem? (i := 4) rfl)
theorem dX11_readStay_7 : decode cX11_readStay 7 = .ok (.if_icmp .le 5, 3) := dgX11_readStay_0 (7, (.if_icmp .le 5, 3)) (List.mem_of_getElem? (i := 5) rfl)
theorem dX11_readStay_10 : decode cX11_readStay 10 = .ok (.iconst 0, 1) := dgX11_readStay_0 (10, (.iconst 0, 1)) (List.mem_of_getElem? (i := 6) rfl)
theorem dX11_readStay_11 : decode cX11_readStay 11 = .ok (.ireturn, 1) := dgX11_readStay_0 (11, (.ireturn, 1)) (List.mem_of_getElem? (i := 7) rfl)
theorem dX11_readStay_12 : decode cX11_readStay 12 = .ok (.aload_n 0, 1) := dgX11_readStay_0 (12, (.aload_n 0, 1)) (List.mem_of_getElem? (i := 8) rfl)
theorem dX11_readStay_13 : decode cX11_readStay 13 = .ok (.getfield 70, 3) := dgX11_readStay_0 (13, (.getfield 70, 3)) (List.mem_of_getElem? (i := 9) rfl)
theorem dX11_readStay_16 : decode cX11_readStay 16 = .ok (.iload_n 1, 1) := dgX11_readStay_0 (16, (.iload_n 1, 1)) (List.mem_of_getElem? (i := 10) rfl)
theorem dX11_readStay_17 : decode cX11_readStay 17 = .ok (.iaload, 1) := dgX11_readStay_0 (17, (.iaload, 1)) (List.mem_of_getElem? (i := 11) rfl)
theorem dX11_readStay_18 : decode cX11_readStay 18 = .ok (.istore_n 2, 1) := dgX11_readStay_0 (18, (.istore_n 2, 1)) (List.mem_of_getElem? (i := 12) rfl)
theorem dX11_readStay_19 : decode cX11_readStay 19 = .ok (.aload_n 0, 1) := dgX11_readStay_0 (19, (.aload_n 0, 1)) (List.mem_of_getElem? (i := 13) rfl)
theorem dX11_readStay_20 : decode cX11_readStay 20 = .ok (.getfield 70, 3) := dgX11_readStay_0 (20, (.getfield 70, 3)) (List.mem_of_getElem? (i := 14) rfl)
theorem dX11_readStay_23 : decode cX11_readStay 23 = .ok (.iload_n 1, 1) := dgX11_readStay_0 (23, (.iload_n 1, 1)) (List.mem_of_getElem? (i := 15) rfl)
theorem dX11_readStay_24 : decode cX11_readStay 24 = .ok (.iconst 1, 1) := dgX11_readStay_0 (24, (.iconst 1, 1)) (List.mem_of_getElem? (i := 16) rfl)
theorem dX11_readStay_25 : decode cX11_readStay 25 = .ok (.iadd, 1) := dgX11_readStay_0 (25, (.iadd, 1)) (List.mem_of_getElem? (i := 17) rfl)
theorem dX11_readStay_26 : decode cX11_readStay 26 = .ok (.iaload, 1) := dgX11_readStay_0 (26, (.iaload, 1)) (List.mem_of_getElem? (i := 18) rfl)
theorem dX11_readStay_27 : decode cX11_readStay 27 = .ok (.istore_n 3, 1) := dgX11_readStay_0 (27, (.istore_n 3, 1)) (List.mem_of_getElem? (i := 19) rfl)
theorem dX11_readStay_28 : decode cX11_readStay 28 = .ok (.aload_n 0, 1) := dgX11_readStay_0 (28, (.aload_n 0, 1)) (List.mem_of_getElem? (i := 20) rfl)
theorem dX11_readStay_29 : decode cX11_readStay 29 = .ok (.getfield 70, 3) := dgX11_readStay_0 (29, (.getfield 70, 3)) (List.mem_of_getElem? (i := 21) rfl)
theorem dX11_readStay_32 : decode cX11_readStay 32 = .ok (.iload_n 1, 1) := dgX11_readStay_0 (32, (.iload_n 1, 1)) (List.mem_of_getElem? (i := 22) rfl)
theorem dX11_readStay_33 : decode cX11_readStay 33 = .ok (.iconst 2, 1) := dgX11_readStay_0 (33, (.iconst 2, 1)) (List.mem_of_getElem? (i := 23) rfl)
theorem dX11_readStay_34 : decode cX11_readStay 34 = .ok (.iadd, 1) := dgX11_readStay_0 (34, (.iadd, 1)) (List.mem_of_getElem? (i := 24) rfl)
theorem dX11_readStay_35 : decode cX11_readStay 35 = .ok (.iaload, 1) := dgX11_readStay_0 (35, (.iaload, 1)) (List.mem_of_getElem? (i := 25) rfl)
theorem dX11_readStay_36 : decode cX11_readStay 36 = .ok (.istore 4, 2) := dgX11_readStay_0 (36, (.istore 4, 2)) (List.mem_of_getElem? (i := 26) rfl)
theorem dX11_readStay_38 : decode cX11_readStay 38 = .ok (.aload_n 0, 1) := dgX11_readStay_0 (38, (.aload_n 0, 1)) (List.mem_of_getElem? (i := 27) rfl)
theorem dX11_readStay_39 : decode cX11_readStay 39 = .ok (.getfield 70, 3) := dgX11_readStay_0 (39, (.getfield 70, 3)) (List.mem_of_getElem? (i := 28) rfl)
theorem dX11_readStay_42 : decode cX11_readStay 42 = .ok (.iload_n 1, 1) := dgX11_readStay_0 (42, (.iload_n 1, 1)) (List.mem_of_getElem? (i := 29) rfl)
theorem dX11_readStay_43 : decode cX11_readStay 43 = .ok (.iconst 3, 1) := dgX11_readStay_0 (43, (.iconst 3, 1)) (List.mem_of_getElem? (i := 30) rfl)
theorem dX11_readStay_44 : decode cX11_readStay 44 = .ok (.iadd, 1) := dgX11_readStay_0 (44, (.iadd, 1)) (List.mem_of_getElem? (i := 31) rfl)
theorem dX11_readStay_45 : decode cX11_readStay 45 = .ok (.iaload, 1) := dgX11_readStay_0 (45, (.iaload, 1)) (List.mem_of_getElem? (i := 32) rfl)
theorem dX11_readStay_46 : decode cX11_readStay 46 = .ok (.sipush 255, 3) := dgX11_readStay_0 (46, (.sipush 255, 3)) (List.mem_of_getElem? (i := 33) rfl)
theorem dX11_readStay_49 : decode cX11_readStay 49 = .ok (.if_icmp .ne 7, 3) := dgX11_readStay_0 (49, (.if_icmp .ne 7, 3)) (List.mem_of_getElem? (i := 34) rfl)
theorem dX11_readStay_52 : decode cX11_readStay 52 = .ok (.iconst (-1), 1) := dgX11_readStay_0 (52, (.iconst (-1), 1)) (List.mem_of_getElem? (i := 35) rfl)
theorem dX11_readStay_53 : decode cX11_readStay 53 = .ok (.goto 11, 3) := dgX11_readStay_0 (53, (.goto 11, 3)) (List.mem_of_getElem? (i := 36) rfl)
theorem dX11_readStay_56 : decode cX11_readStay 56 = .ok (.aload_n 0, 1) := dgX11_readStay_0 (56, (.aload_n 0, 1)) (List.mem_of_getElem? (i := 37) rfl)
theorem dX11_readStay_57 : decode cX11_readStay 57 = .ok (.getfield 70, 3) := dgX11_readStay_0 (57, (.getfield 70, 3)) (List.mem_of_getElem? (i := 38) rfl)
theorem dX11_readStay_60 : decode cX11_readStay 60 = .ok (.iload_n 1, 1) := dgX11_readStay_0 (60, (.iload_n 1, 1)) (List.mem_of_getElem? (i := 39) rfl)
theorem dgX11_readStay_1 : ∀ r ∈ ([(61, (.iconst 3, 1)), (62, (.iadd, 1)), (63, (.iaload, 1)), (64, (.istore 5, 2)), (66, (.aload_n 0, 1)), (67, (.getfield 12, 3)), (70, (.getfield 167, 3)), (73, (.iload_n 2, 1)), (74, (.invokevirtual 160, 3)), (77, (.ifCond .eq 26, 3)), (80, (.iload_n 3, 1)), (81, (.iload 4, 2)), (83, (.iload 5, 2)), (85, (.invokestatic 170, 3)), (88, (.ifCond .eq 15, 3)), (91, (.aload_n 0, 1)), (92, (.getfield 12, 3)), (95, (.iload 5, 2)), (97, (.invokevirtual 174, 3)), (100, (.ifCond .eq 5, 3)), (103, (.iconst 0, 1)), (104, (.ireturn, 1)), (105, (.aload_n 0, 1)), (106, (.getfield 12, 3)), (109, (.iload_n 2, 1)), (110, (.iload_n 3, 1)), (111, (.iload 4, 2)), (113, (.iload 5, 2)), (115, (.invokevirtual 177, 3)), (118, (.iconst 1, 1)), (119, (.ireturn, 1))] : List (Nat × (Instr × Nat))), decode cX11_readStay r.1 = .ok r.2 := by decide +kernel
theorem dX11_readStay_61 : decode cX11_readStay 61 = .ok (.iconst 3, 1) := dgX11_readStay_1 (61, (.iconst 3, 1)) (List.mem_of_getElem? (i := 0) rfl)
theorem dX11_readStay_62 : decode cX11_readStay 62 = .ok (.iadd, 1) := dgX11_readStay_1 (62, (.iadd, 1)) (List.mem_of_getElem? (i := 1) rfl)
theorem dX11_readStay_63 : decode cX11_readStay 63 = .ok (.iaload, 1) := dgX11_readStay_1 (63, (.iaload, 1)) (List.mem_of_getElem? (i := 2) rfl)
theorem dX11_readStay_64 : decode cX11_readStay 64 = .ok (.istore 5, 2) := dgX11_readStay_1 (64, (.istore 5, 2)) (List.mem_of_getElem? (i := 3) rfl)
theorem dX11_readStay_66 : decode cX11_readStay 66 = .ok (.aload_n 0, 1) := dgX11_readStay_1 (66, (.aload_n 0, 1)) (List.mem_of_getElem? (i := 4) rfl)
theorem dX11_readStay_67 : decode cX11_readStay 67 = .ok (.getfield 12, 3) := dgX11_readStay_1 (67, (.getfield 12, 3)) (List.mem_of_getElem? (i := 5) rfl)
theorem dX11_readStay_70 : decode cX11_readStay 70 = .ok (.getfield 167, 3) := dgX11_readStay_1 (70, (.getfield 167, 3)) (List.mem_of_getElem? (i := 6) rfl)
theorem dX11_readStay_73 : decode cX11_readStay 73 = .ok (.iload_n 2, 1) := dgX11_readStay_1 (73, (.iload_n 2, 1)) (List.mem_of_getElem? (i := 7) rfl)
theorem dX11_readStay_74 : decode cX11_readStay 74 = .ok (.invokevirtual 160, 3) := dgX11_readStay_1 (74, (.invokevirtual 160, 3)) (List.mem_of_getElem? (i := 8) rfl)
theorem dX11_readStay_77 : decode cX11_readStay 77 = .ok (.ifCond .eq 26, 3) := dgX11_readStay_1 (77, (.ifCond .eq 26, 3)) (List.mem_of_getElem? (i := 9) rfl)
theorem dX11_readStay_80 : decode cX11_readStay 80 = .ok (.iload_n 3, 1) := dgX11_readStay_1 (80, (.iload_n 3, 1)) (List.mem_of_getElem? (i := 10) rfl)
theorem dX11_readStay_81 : decode cX11_readStay 81 = .ok (.iload 4, 2) := dgX11_readStay_1 (81, (.iload 4, 2)) (List.mem_of_getElem? (i := 11) rfl)
theorem dX11_readStay_83 : decode cX11_readStay 83 = .ok (.iload 5, 2) := dgX11_readStay_1 (83, (.iload 5, 2)) (List.mem_of_getElem? (i := 12) rfl)
theorem dX11_readStay_85 : decode cX11_readStay 85 = .ok (.invokestatic 170, 3) := dgX11_readStay_1 (85, (.invokestatic 170, 3)) (List.mem_of_getElem? (i := 13) rfl)
theorem dX11_readStay_88 : decode cX11_readStay 88 = .ok (.ifCond .eq 15, 3) := dgX11_readStay_1 (88, (.ifCond .eq 15, 3)) (List.mem_of_getElem? (i := 14) rfl)
theorem dX11_readStay_91 : decode cX11_readStay 91 = .ok (.aload_n 0, 1) := dgX11_readStay_1 (91, (.aload_n 0, 1)) (List.mem_of_getElem? (i := 15) rfl)
theorem dX11_readStay_92 : decode cX11_readStay 92 = .ok (.getfield 12, 3) := dgX11_readStay_1 (92, (.getfield 12, 3)) (List.mem_of_getElem? (i := 16) rfl)
theorem dX11_readStay_95 : decode cX11_readStay 95 = .ok (.iload 5, 2) := dgX11_readStay_1 (95, (.iload 5, 2)) (List.mem_of_getElem? (i := 17) rfl)
theorem dX11_readStay_97 : decode cX11_readStay 97 = .ok (.invokevirtual 174, 3) := dgX11_readStay_1 (97, (.invokevirtual 174, 3)) (List.mem_of_getElem? (i := 18) rfl)
theorem dX11_readStay_100 : decode cX11_readStay 100 = .ok (.ifCond .eq 5, 3) := dgX11_readStay_1 (100, (.ifCond .eq 5, 3)) (List.mem_of_getElem? (i := 19) rfl)
theorem dX11_readStay_103 : decode cX11_readStay 103 = .ok (.iconst 0, 1) := dgX11_readStay_1 (103, (.iconst 0, 1)) (List.mem_of_getElem? (i := 20) rfl)
theorem dX11_readStay_104 : decode cX11_readStay 104 = .ok (.ireturn, 1) := dgX11_readStay_1 (104, (.ireturn, 1)) (List.mem_of_getElem? (i := 21) rfl)
theorem dX11_readStay_105 : decode cX11_readStay 105 = .ok (.aload_n 0, 1) := dgX11_readStay_1 (105, (.aload_n 0, 1)) (List.mem_of_getElem? (i := 22) rfl)
theorem dX11_readStay_106 : decode cX11_readStay 106 = .ok (.getfield 12, 3) := dgX11_readStay_1 (106, (.getfield 12, 3)) (List.mem_of_getElem? (i := 23) rfl)
theorem dX11_readStay_109 : decode cX11_readStay 109 = .ok (.iload_n 2, 1) := dgX11_readStay_1 (109, (.iload_n 2, 1)) (List.mem_of_getElem? (i := 24) rfl)
theorem dX11_readStay_110 : decode cX11_readStay 110 = .ok (.iload_n 3, 1) := dgX11_readStay_1 (110, (.iload_n 3, 1)) (List.mem_of_getElem? (i := 25) rfl)
theorem dX11_readStay_111 : decode cX11_readStay 111 = .ok (.iload 4, 2) := dgX11_readStay_1 (111, (.iload 4, 2)) (List.mem_of_getElem? (i := 26) rfl)
theorem dX11_readStay_113 : decode cX11_readStay 113 = .ok (.iload 5, 2) := dgX11_readStay_1 (113, (.iload 5, 2)) (List.mem_of_getElem? (i := 27) rfl)
theorem dX11_readStay_115 : decode cX11_readStay 115 = .ok (.invokevirtual 177, 3) := dgX11_readStay_1 (115, (.invokevirtual 177, 3)) (List.mem_of_getElem? (i := 28) rfl)
theorem dX11_readStay_118 : decode cX11_readStay 118 = .ok (.iconst 1, 1) := dgX11_readStay_1 (118, (.iconst 1, 1)) (List.mem_of_getElem? (i := 29) rfl)
theorem dX11_readStay_119 : decode cX11_readStay 119 = .ok (.ireturn, 1) := dgX11_readStay_1 (119, (.ireturn, 1)) (List.mem_of_getElem? (i := 30) rfl)
theorem dgX11_row_0 : ∀ r ∈ ([(0, (.aload_n 0, 1)), (1, (.getfield 74, 3)), (4, (.ifCond .ne 10, 3)), (7, (.aload_n 0, 1)), (8, (.bipush (-6), 2)), (10, (.invokevirtual 104, 3)), (13, (.ireturn, 1)), (14, (.iconst 0, 1)), (15, (.istore_n 1, 1)), (16, (.iconst 0, 1)), (17, (.istore_n 2, 1)), (18, (.iconst 0, 1)), (19, (.istore_n 3, 1)), (20, (.iload_n 3, 1)), (21, (.aload_n 0, 1)), (22, (.getfield 74, 3)), (25, (.if_icmp .ge 26, 3)), (28, (.aload_n 0, 1)), (29, (.iload_n 3, 1)), (30, (.invokevirtual 189, 3)), (33, (.ifCond .eq 9, 3)), (36, (.iinc 1 1, 3)), (39, (.goto 6, 3)), (42, (.iinc 2 1, 3)), (45, (.iinc 3 4, 3)), (48, (.goto (-28), 3)), (51, (.aload_n 0, 1)), (52, (.iload_n 2, 1)), (53, (.putfield 78, 3)), (56, (.aload_n 0, 1)), (57, (.iconst 0, 1)), (58, (.putfield 74, 3)), (61, (.aload_n 0, 1)), (62, (.iload_n 1, 1)), (63, (.invokevirtual 121, 3)), (66, (.ireturn, 1))] : List (Nat × (Instr × Nat))), decode cX11_row r.1 = .ok r.2 := by decide +kernel
theorem dX11_row_0 : decode cX11_row 0 = .ok (.aload_n 0, 1) := dgX11_row_0 (0, (.aload_n 0, 1)) (List.mem_of_getElem? (i := 0) rfl)
theorem dX11_row_1 : decode cX11_row 1 = .ok (.getfield 74, 3) := dgX11_row_0 (1, (.getfield 74, 3)) (List.mem_of_getElem? (i := 1) rfl)
theorem dX11_row_4 : decode cX11_row 4 = .ok (.ifCond .ne 10, 3) := dgX11_row_0 (4, (.ifCond .ne 10, 3)) (List.mem_of_getElem? (i := 2) rfl)
theorem dX11_row_7 : decode cX11_row 7 = .ok (.aload_n 0, 1) := dgX11_row_0 (7, (.aload_n 0, 1)) (List.mem_of_getElem? (i := 3) rfl)
theorem dX11_row_8 : decode cX11_row 8 = .ok (.bipush (-6), 2) := dgX11_row_0 (8, (.bipush (-6), 2)) (List.mem_of_getElem? (i := 4) rfl)
theorem dX11_row_10 : decode cX11_row 10 = .ok (.invokevirtual 104, 3) := dgX11_row_0 (10, (.invokevirtual 104, 3)) (List.mem_of_getElem? (i := 5) rfl)
theorem dX11_row_13 : decode cX11_row 13 = .ok (.ireturn, 1) := dgX11_row_0 (13, (.ireturn, 1)) (List.mem_of_getElem? (i := 6) rfl)
theorem dX11_row_14 : decode cX11_row 14 = .ok (.iconst 0, 1) := dgX11_row_0 (14, (.iconst 0, 1)) (List.mem_of_getElem? (i := 7) rfl)
theorem dX11_row_15 : decode cX11_row 15 = .ok (.istore_n 1, 1) := dgX11_row_0 (15, (.istore_n 1, 1)) (List.mem_of_getElem? (i := 8) rfl)
theorem dX11_row_16 : decode cX11_row 16 = .ok (.iconst 0, 1) := dgX11_row_0 (16, (.iconst 0, 1)) (List.mem_of_getElem? (i := 9) rfl)
theorem dX11_row_17 : decode cX11_row 17 = .ok (.istore_n 2, 1) := dgX11_row_0 (17, (.istore_n 2, 1)) (List.mem_of_getElem? (i := 10) rfl)
theorem dX11_row_18 : decode cX11_row 18 = .ok (.iconst 0, 1) := dgX11_row_0 (18, (.iconst 0, 1)) (List.mem_of_getElem? (i := 11) rfl)
theorem dX11_row_19 : decode cX11_row 19 = .ok (.istore_n 3, 1) := dgX11_row_0 (19, (.istore_n 3, 1)) (List.mem_of_getElem? (i := 12) rfl)
theorem dX11_row_20 : decode cX11_row 20 = .ok (.iload_n 3, 1) := dgX11_row_0 (20, (.iload_n 3, 1)) (List.mem_of_getElem? (i := 13) rfl)
theorem dX11_row_21 : decode cX11_row 21 = .ok (.aload_n 0, 1) := dgX11_row_0 (21, (.aload_n 0, 1)) (List.mem_of_getElem? (i := 14) rfl)
theorem dX11_row_22 : decode cX11_row 22 = .ok (.getfield 74, 3) := dgX11_row_0 (22, (.getfield 74, 3)) (List.mem_of_getElem? (i := 15) rfl)
theorem dX11_row_25 : decode cX11_row 25 = .ok (.if_icmp .ge 26, 3) := dgX11_row_0 (25, (.if_icmp .ge 26, 3)) (List.mem_of_getElem? (i := 16) rfl)
theorem dX11_row_28 : decode cX11_row 28 = .ok (.aload_n 0, 1) := dgX11_row_0 (28, (.aload_n 0, 1)) (List.mem_of_getElem? (i := 17) rfl)
theorem dX11_row_29 : decode cX11_row 29 = .ok (.iload_n 3, 1) := dgX11_row_0 (29, (.iload_n 3, 1)) (List.mem_of_getElem? (i := 18) rfl)
theorem dX11_row_30 : decode cX11_row 30 = .ok (.invokevirtual 189, 3) := dgX11_row_0 (30, (.invokevirtual 189, 3)) (List.mem_of_getElem? (i := 19) rfl)
theorem dX11_row_33 : decode cX11_row 33 = .ok (.ifCond .eq 9, 3) := dgX11_row_0 (33, (.ifCond .eq 9, 3)) (List.mem_of_getElem? (i := 20) rfl)
theorem dX11_row_36 : decode cX11_row 36 = .ok (.iinc 1 1, 3) := dgX11_row_0 (36, (.iinc 1 1, 3)) (List.mem_of_getElem? (i := 21) rfl)
theorem dX11_row_39 : decode cX11_row 39 = .ok (.goto 6, 3) := dgX11_row_0 (39, (.goto 6, 3)) (List.mem_of_getElem? (i := 22) rfl)
theorem dX11_row_42 : decode cX11_row 42 = .ok (.iinc 2 1, 3) := dgX11_row_0 (42, (.iinc 2 1, 3)) (List.mem_of_getElem? (i := 23) rfl)
theorem dX11_row_45 : decode cX11_row 45 = .ok (.iinc 3 4, 3) := dgX11_row_0 (45, (.iinc 3 4, 3)) (List.mem_of_getElem? (i := 24) rfl)
theorem dX11_row_48 : decode cX11_row 48 = .ok (.goto (-28), 3) := dgX11_row_0 (48, (.goto (-28), 3)) (List.mem_of_getElem? (i := 25) rfl)
theorem dX11_row_51 : decode cX11_row 51 = .ok (.aload_n 0, 1) := dgX11_row_0 (51, (.aload_n 0, 1)) (List.mem_of_getElem? (i := 26) rfl)
theorem dX11_row_52 : decode cX11_row 52 = .ok (.iload_n 2, 1) := dgX11_row_0 (52, (.iload_n 2, 1)) (List.mem_of_getElem? (i := 27) rfl)
theorem dX11_row_53 : decode cX11_row 53 = .ok (.putfield 78, 3) := dgX11_row_0 (53, (.putfield 78, 3)) (List.mem_of_getElem? (i := 28) rfl)
theorem dX11_row_56 : decode cX11_row 56 = .ok (.aload_n 0, 1) := dgX11_row_0 (56, (.aload_n 0, 1)) (List.mem_of_getElem? (i := 29) rfl)
theorem dX11_row_57 : decode cX11_row 57 = .ok (.iconst 0, 1) := dgX11_row_0 (57, (.iconst 0, 1)) (List.mem_of_getElem? (i := 30) rfl)
theorem dX11_row_58 : decode cX11_row 58 = .ok (.putfield 74, 3) := dgX11_row_0 (58, (.putfield 74, 3)) (List.mem_of_getElem? (i := 31) rfl)
theorem dX11_row_61 : decode cX11_row 61 = .ok (.aload_n 0, 1) := dgX11_row_0 (61, (.aload_n 0, 1)) (List.mem_of_getElem? (i := 32) rfl)
theorem dX11_row_62 : decode cX11_row 62 = .ok (.iload_n 1, 1) := dgX11_row_0 (62, (.iload_n 1, 1)) (List.mem_of_getElem? (i := 33) rfl)
theorem dX11_row_63 : decode cX11_row 63 = .ok (.invokevirtual 121, 3) := dgX11_row_0 (63, (.invokevirtual 121, 3)) (List.mem_of_getElem? (i := 34) rfl)
theorem dX11_row_66 : decode cX11_row 66 = .ok (.ireturn, 1) := dgX11_row_0 (66, (.ireturn, 1)) (List.mem_of_getElem? (i := 35) rfl)
theorem ml_X11_189 : Cond.methodLink RX11 189 yX11_readStay ∈ tblG := tg 629 (by decide +kernel) (by decide +kernel)
theorem im_X11_readStay : Cond.instanceMethod yX11_readStay ∈ tblG := tg 631 (by decide +kernel) (by decide +kernel)
theorem se_X11_readStay : Cond.selects RX11 yX11_readStay yX11_readStay ∈ tblG := tg 3 (by decide +kernel) (by decide +kernel)
theorem cd_X11_readStay : Cond.code yX11_readStay cX11_readStay 6 (some .boolean) ∈ tblG := tg 632 (by decide +kernel) (by decide +kernel)
theorem gW_X11_readStay : GoodIn tblG (wsG yX11_readStay cX11_readStay 6 (some .boolean)) := tgi cd_X11_readStay
theorem gV_X11_189 : GoodIn tblG (wsV RX11 189 RX11 yX11_readStay (wsG yX11_readStay cX11_readStay 6 (some .boolean))) := tgV ml_X11_189 im_X11_readStay se_X11_readStay ini_X11 gW_X11_readStay
theorem hv_X11_readStay : yX11_readStay.cls = RX11 ∧ yX11_readStay.cls ≠ "java/lang/invoke/MethodHandle" ∧ yX11_readStay.cls ≠ "java/lang/invoke/VarHandle" ∧ (parseMethodDescriptor yX11_readStay.desc).map (fun d => d.parameters.length) = some 1 := by decide +kernel
theorem dgX11_sighting_0 : ∀ r ∈ ([(0, (.iload_n 1, 1)), (1, (.iload_n 2, 1)), (2, (.iload_n 3, 1)), (3, (.invokestatic 207, 3)), (6, (.ifCond .eq 11, 3)), (9, (.iload 4, 2)), (11, (.invokestatic 101, 3)), (14, (.ifCond .ne 9, 3)), (17, (.aload_n 0, 1)), (18, (.iconst (-1), 1)), (19, (.invokevirtual 104, 3)), (22, (.ireturn, 1)), (23, (.aload_n 0, 1)), (24, (.getfield 12, 3)), (27, (.getfield 261, 3)), (30, (.invokevirtual 140, 3)), (33, (.ifCond .ne 20, 3)), (36, (.iload 4, 2)), (38, (.iconst 1, 1)), (39, (.if_icmp .ne 21, 3)), (42, (.aload_n 0, 1)), (43, (.getfield 12, 3)), (46, (.invokevirtual 264, 3)), (49, (.iconst 5, 1)), (50, (.if_icmp .lt 10, 3)), (53, (.aload_n 0, 1)), (54, (.bipush (-5), 2)), (56, (.invokevirtual 104, 3)), (59, (.ireturn, 1)), (60, (.aload_n 0, 1)), (61, (.getfield 12, 3)), (64, (.getfield 261, 3)), (67, (.iconst 0, 1)), (68, (.invokevirtual 146, 3)), (71, (.istore 5, 2)), (73, (.aload_n 0, 1)), (74, (.getfield 12, 3)), (77, (.getfield 261, 3)), (80, (.iload 5, 2)), (82, (.iload_n 1, 1))] : List (Nat × (Instr × Nat))), decode cX11_sighting r.1 = .ok r.2 := by decide +kernel
theorem dX11_sighting_0 : decode cX11_sighting 0 = .ok (.iload_n 1, 1) := dgX11_sighting_0 (0, (.iload_n 1, 1)) (List.mem_of_getElem? (i := 0) rfl)
theorem dX11_sighting_1 : decode cX11_sighting 1 = .ok (.iload_n 2, 1) := dgX11_sighting_0 (1, (.iload_n 2, 1)) (List.mem_of_getElem? (i := 1) rfl)
theorem dX11_sighting_2 : decode cX11_sighting 2 = .ok (.iload_n 3, 1) := dgX11_sighting_0 (2, (.iload_n 3, 1)) (List.mem_of_getElem? (i := 2) rfl)
theorem dX11_sighting_3 : decode cX11_sighting 3 = .ok (.invokestatic 207, 3) := dgX11_sighting_0 (3, (.invokestatic 207, 3)) (List.mem_of_getElem? (i := 3) rfl)
theorem dX11_sighting_6 : decode cX11_sighting 6 = .ok (.ifCond .eq 11, 3) := dgX11_sighting_0 (6, (.ifCond .eq 11, 3)) (List.mem_of_getElem? (i := 4) rfl)
theorem dX11_sighting_9 : decode cX11_sighting 9 = .ok (.iload 4, 2) := dgX11_sighting_0 (9, (.iload 4, 2)) (List.mem_of_getElem? (i := 5) rfl)
theorem dX11_sighting_11 : decode cX11_sighting 11 = .ok (.invokestatic 101, 3) := dgX11_sighting_0 (11, (.invokestatic 101, 3)) (List.mem_of_getElem? (i := 6) rfl)
theorem dX11_sighting_14 : decode cX11_sighting 14 = .ok (.ifCond .ne 9, 3) := dgX11_sighting_0 (14, (.ifCond .ne 9, 3)) (List.mem_of_getElem? (i := 7) rfl)
theorem dX11_sighting_17 : decode cX11_sighting 17 = .ok (.aload_n 0, 1) := dgX11_sighting_0 (17, (.aload_n 0, 1)) (List.mem_of_getElem? (i := 8) rfl)
theorem dX11_sighting_18 : decode cX11_sighting 18 = .ok (.iconst (-1), 1) := dgX11_sighting_0 (18, (.iconst (-1), 1)) (List.mem_of_getElem? (i := 9) rfl)
theorem dX11_sighting_19 : decode cX11_sighting 19 = .ok (.invokevirtual 104, 3) := dgX11_sighting_0 (19, (.invokevirtual 104, 3)) (List.mem_of_getElem? (i := 10) rfl)
theorem dX11_sighting_22 : decode cX11_sighting 22 = .ok (.ireturn, 1) := dgX11_sighting_0 (22, (.ireturn, 1)) (List.mem_of_getElem? (i := 11) rfl)
theorem dX11_sighting_23 : decode cX11_sighting 23 = .ok (.aload_n 0, 1) := dgX11_sighting_0 (23, (.aload_n 0, 1)) (List.mem_of_getElem? (i := 12) rfl)
theorem dX11_sighting_24 : decode cX11_sighting 24 = .ok (.getfield 12, 3) := dgX11_sighting_0 (24, (.getfield 12, 3)) (List.mem_of_getElem? (i := 13) rfl)
theorem dX11_sighting_27 : decode cX11_sighting 27 = .ok (.getfield 261, 3) := dgX11_sighting_0 (27, (.getfield 261, 3)) (List.mem_of_getElem? (i := 14) rfl)
theorem dX11_sighting_30 : decode cX11_sighting 30 = .ok (.invokevirtual 140, 3) := dgX11_sighting_0 (30, (.invokevirtual 140, 3)) (List.mem_of_getElem? (i := 15) rfl)
theorem dX11_sighting_33 : decode cX11_sighting 33 = .ok (.ifCond .ne 20, 3) := dgX11_sighting_0 (33, (.ifCond .ne 20, 3)) (List.mem_of_getElem? (i := 16) rfl)
theorem dX11_sighting_36 : decode cX11_sighting 36 = .ok (.iload 4, 2) := dgX11_sighting_0 (36, (.iload 4, 2)) (List.mem_of_getElem? (i := 17) rfl)
theorem dX11_sighting_38 : decode cX11_sighting 38 = .ok (.iconst 1, 1) := dgX11_sighting_0 (38, (.iconst 1, 1)) (List.mem_of_getElem? (i := 18) rfl)
theorem dX11_sighting_39 : decode cX11_sighting 39 = .ok (.if_icmp .ne 21, 3) := dgX11_sighting_0 (39, (.if_icmp .ne 21, 3)) (List.mem_of_getElem? (i := 19) rfl)
theorem dX11_sighting_42 : decode cX11_sighting 42 = .ok (.aload_n 0, 1) := dgX11_sighting_0 (42, (.aload_n 0, 1)) (List.mem_of_getElem? (i := 20) rfl)
theorem dX11_sighting_43 : decode cX11_sighting 43 = .ok (.getfield 12, 3) := dgX11_sighting_0 (43, (.getfield 12, 3)) (List.mem_of_getElem? (i := 21) rfl)
theorem dX11_sighting_46 : decode cX11_sighting 46 = .ok (.invokevirtual 264, 3) := dgX11_sighting_0 (46, (.invokevirtual 264, 3)) (List.mem_of_getElem? (i := 22) rfl)
theorem dX11_sighting_49 : decode cX11_sighting 49 = .ok (.iconst 5, 1) := dgX11_sighting_0 (49, (.iconst 5, 1)) (List.mem_of_getElem? (i := 23) rfl)
theorem dX11_sighting_50 : decode cX11_sighting 50 = .ok (.if_icmp .lt 10, 3) := dgX11_sighting_0 (50, (.if_icmp .lt 10, 3)) (List.mem_of_getElem? (i := 24) rfl)
theorem dX11_sighting_53 : decode cX11_sighting 53 = .ok (.aload_n 0, 1) := dgX11_sighting_0 (53, (.aload_n 0, 1)) (List.mem_of_getElem? (i := 25) rfl)
theorem dX11_sighting_54 : decode cX11_sighting 54 = .ok (.bipush (-5), 2) := dgX11_sighting_0 (54, (.bipush (-5), 2)) (List.mem_of_getElem? (i := 26) rfl)
theorem dX11_sighting_56 : decode cX11_sighting 56 = .ok (.invokevirtual 104, 3) := dgX11_sighting_0 (56, (.invokevirtual 104, 3)) (List.mem_of_getElem? (i := 27) rfl)
theorem dX11_sighting_59 : decode cX11_sighting 59 = .ok (.ireturn, 1) := dgX11_sighting_0 (59, (.ireturn, 1)) (List.mem_of_getElem? (i := 28) rfl)
theorem dX11_sighting_60 : decode cX11_sighting 60 = .ok (.aload_n 0, 1) := dgX11_sighting_0 (60, (.aload_n 0, 1)) (List.mem_of_getElem? (i := 29) rfl)
theorem dX11_sighting_61 : decode cX11_sighting 61 = .ok (.getfield 12, 3) := dgX11_sighting_0 (61, (.getfield 12, 3)) (List.mem_of_getElem? (i := 30) rfl)
theorem dX11_sighting_64 : decode cX11_sighting 64 = .ok (.getfield 261, 3) := dgX11_sighting_0 (64, (.getfield 261, 3)) (List.mem_of_getElem? (i := 31) rfl)
theorem dX11_sighting_67 : decode cX11_sighting 67 = .ok (.iconst 0, 1) := dgX11_sighting_0 (67, (.iconst 0, 1)) (List.mem_of_getElem? (i := 32) rfl)
theorem dX11_sighting_68 : decode cX11_sighting 68 = .ok (.invokevirtual 146, 3) := dgX11_sighting_0 (68, (.invokevirtual 146, 3)) (List.mem_of_getElem? (i := 33) rfl)
theorem dX11_sighting_71 : decode cX11_sighting 71 = .ok (.istore 5, 2) := dgX11_sighting_0 (71, (.istore 5, 2)) (List.mem_of_getElem? (i := 34) rfl)
theorem dX11_sighting_73 : decode cX11_sighting 73 = .ok (.aload_n 0, 1) := dgX11_sighting_0 (73, (.aload_n 0, 1)) (List.mem_of_getElem? (i := 35) rfl)
theorem dX11_sighting_74 : decode cX11_sighting 74 = .ok (.getfield 12, 3) := dgX11_sighting_0 (74, (.getfield 12, 3)) (List.mem_of_getElem? (i := 36) rfl)
theorem dX11_sighting_77 : decode cX11_sighting 77 = .ok (.getfield 261, 3) := dgX11_sighting_0 (77, (.getfield 261, 3)) (List.mem_of_getElem? (i := 37) rfl)
theorem dX11_sighting_80 : decode cX11_sighting 80 = .ok (.iload 5, 2) := dgX11_sighting_0 (80, (.iload 5, 2)) (List.mem_of_getElem? (i := 38) rfl)
theorem dX11_sighting_82 : decode cX11_sighting 82 = .ok (.iload_n 1, 1) := dgX11_sighting_0 (82, (.iload_n 1, 1)) (List.mem_of_getElem? (i := 39) rfl)
theorem dgX11_sighting_1 : ∀ r ∈ ([(83, (.iload_n 2, 1)), (84, (.iload_n 3, 1)), (85, (.invokevirtual 268, 3)), (88, (.aload_n 0, 1)), (89, (.getfield 12, 3)), (92, (.getfield 261, 3)), (95, (.iload 5, 2)), (97, (.iconst 3, 1)), (98, (.iload 4, 2)), (100, (.invokevirtual 149, 3)), (103, (.aload_n 0, 1)), (104, (.aload_n 0, 1)), (105, (.getfield 12, 3)), (108, (.getfield 261, 3)), (111, (.getfield 238, 3)), (114, (.invokevirtual 121, 3)), (117, (.ireturn, 1))] : List (Nat × (Instr × Nat))), decode cX11_sighting r.1 = .ok r.2 := by decide +kernel
theorem dX11_sighting_83 : decode cX11_sighting 83 = .ok (.iload_n 2, 1) := dgX11_sighting_1 (83, (.iload_n 2, 1)) (List.mem_of_getElem? (i := 0) rfl)
theorem dX11_sighting_84 : decode cX11_sighting 84 = .ok (.iload_n 3, 1) := dgX11_sighting_1 (84, (.iload_n 3, 1)) (List.mem_of_getElem? (i := 1) rfl)
theorem dX11_sighting_85 : decode cX11_sighting 85 = .ok (.invokevirtual 268, 3) := dgX11_sighting_1 (85, (.invokevirtual 268, 3)) (List.mem_of_getElem? (i := 2) rfl)
theorem dX11_sighting_88 : decode cX11_sighting 88 = .ok (.aload_n 0, 1) := dgX11_sighting_1 (88, (.aload_n 0, 1)) (List.mem_of_getElem? (i := 3) rfl)
theorem dX11_sighting_89 : decode cX11_sighting 89 = .ok (.getfield 12, 3) := dgX11_sighting_1 (89, (.getfield 12, 3)) (List.mem_of_getElem? (i := 4) rfl)
theorem dX11_sighting_92 : decode cX11_sighting 92 = .ok (.getfield 261, 3) := dgX11_sighting_1 (92, (.getfield 261, 3)) (List.mem_of_getElem? (i := 5) rfl)
theorem dX11_sighting_95 : decode cX11_sighting 95 = .ok (.iload 5, 2) := dgX11_sighting_1 (95, (.iload 5, 2)) (List.mem_of_getElem? (i := 6) rfl)
theorem dX11_sighting_97 : decode cX11_sighting 97 = .ok (.iconst 3, 1) := dgX11_sighting_1 (97, (.iconst 3, 1)) (List.mem_of_getElem? (i := 7) rfl)
theorem dX11_sighting_98 : decode cX11_sighting 98 = .ok (.iload 4, 2) := dgX11_sighting_1 (98, (.iload 4, 2)) (List.mem_of_getElem? (i := 8) rfl)
theorem dX11_sighting_100 : decode cX11_sighting 100 = .ok (.invokevirtual 149, 3) := dgX11_sighting_1 (100, (.invokevirtual 149, 3)) (List.mem_of_getElem? (i := 9) rfl)
theorem dX11_sighting_103 : decode cX11_sighting 103 = .ok (.aload_n 0, 1) := dgX11_sighting_1 (103, (.aload_n 0, 1)) (List.mem_of_getElem? (i := 10) rfl)
theorem dX11_sighting_104 : decode cX11_sighting 104 = .ok (.aload_n 0, 1) := dgX11_sighting_1 (104, (.aload_n 0, 1)) (List.mem_of_getElem? (i := 11) rfl)
theorem dX11_sighting_105 : decode cX11_sighting 105 = .ok (.getfield 12, 3) := dgX11_sighting_1 (105, (.getfield 12, 3)) (List.mem_of_getElem? (i := 12) rfl)
theorem dX11_sighting_108 : decode cX11_sighting 108 = .ok (.getfield 261, 3) := dgX11_sighting_1 (108, (.getfield 261, 3)) (List.mem_of_getElem? (i := 13) rfl)
theorem dX11_sighting_111 : decode cX11_sighting 111 = .ok (.getfield 238, 3) := dgX11_sighting_1 (111, (.getfield 238, 3)) (List.mem_of_getElem? (i := 14) rfl)
theorem dX11_sighting_114 : decode cX11_sighting 114 = .ok (.invokevirtual 121, 3) := dgX11_sighting_1 (114, (.invokevirtual 121, 3)) (List.mem_of_getElem? (i := 15) rfl)
theorem dX11_sighting_117 : decode cX11_sighting 117 = .ok (.ireturn, 1) := dgX11_sighting_1 (117, (.ireturn, 1)) (List.mem_of_getElem? (i := 16) rfl)
theorem ml_X11_207 : Cond.methodLink RX11 207 yX11_isLook ∈ tblG := tg 808 (by decide +kernel) (by decide +kernel)
theorem gS_X11_207 : GoodIn tblG (va_wsS RX11 207 yX11_isLook (wsG yX11_isLook cX11_isLook 3 (some .boolean))) := tgS ml_X11_207 st_X11_isLook ini_X11 gW_X11_isLook
theorem fl_X11_261 : Cond.fieldLink RX11 261 "LateGlass$House" "sightings" "LLateGlass$Table;" ∈ tblG := tg 180 (by decide +kernel) (by decide +kernel)
theorem ml_X11_268 : Cond.methodLink RX11 268 yX6_setLook ∈ tblG := tg 934 (by decide +kernel) (by decide +kernel)
theorem im_X6_setLook : Cond.instanceMethod yX6_setLook ∈ tblG := tg 935 (by decide +kernel) (by decide +kernel)
theorem se_X6_setLook : Cond.selects RX6 yX6_setLook yX6_setLook ∈ tblG := tg 936 (by decide +kernel) (by decide +kernel)
theorem cd_X6_setLook : Cond.code yX6_setLook cX6_setLook 5 none ∈ tblG := tg 937 (by decide +kernel) (by decide +kernel)
theorem gW_X6_setLook : GoodIn tblG (wsG yX6_setLook cX6_setLook 5 none) := tgi cd_X6_setLook
theorem gV_X11_268 : GoodIn tblG (wsV RX11 268 RX6 yX6_setLook (wsG yX6_setLook cX6_setLook 5 none)) := tgV ml_X11_268 im_X6_setLook se_X6_setLook ini_X6 gW_X6_setLook
theorem hv_X6_setLook : yX6_setLook.cls = RX6 ∧ yX6_setLook.cls ≠ "java/lang/invoke/MethodHandle" ∧ yX6_setLook.cls ≠ "java/lang/invoke/VarHandle" ∧ (parseMethodDescriptor yX6_setLook.desc).map (fun d => d.parameters.length) = some 4 := by decide +kernel
theorem fl_X11_238 : Cond.fieldLink RX11 238 "LateGlass$Table" "rows" "I" ∈ tblG := tg 142 (by decide +kernel) (by decide +kernel)
theorem ml_X11_264 : Cond.methodLink RX11 264 yX1_countSeen ∈ tblG := tg 930 (by decide +kernel) (by decide +kernel)
theorem im_X1_countSeen : Cond.instanceMethod yX1_countSeen ∈ tblG := tg 931 (by decide +kernel) (by decide +kernel)
theorem se_X1_countSeen : Cond.selects RX1 yX1_countSeen yX1_countSeen ∈ tblG := tg 932 (by decide +kernel) (by decide +kernel)
theorem cd_X1_countSeen : Cond.code yX1_countSeen cX1_countSeen 3 (some .int) ∈ tblG := tg 933 (by decide +kernel) (by decide +kernel)
theorem gW_X1_countSeen : GoodIn tblG (wsG yX1_countSeen cX1_countSeen 3 (some .int)) := tgi cd_X1_countSeen
theorem gV_X11_264 : GoodIn tblG (wsV RX11 264 RX1 yX1_countSeen (wsG yX1_countSeen cX1_countSeen 3 (some .int))) := tgV ml_X11_264 im_X1_countSeen se_X1_countSeen ini_X1 gW_X1_countSeen
theorem hv_X1_countSeen : yX1_countSeen.cls = RX1 ∧ yX1_countSeen.cls ≠ "java/lang/invoke/MethodHandle" ∧ yX1_countSeen.cls ≠ "java/lang/invoke/VarHandle" ∧ (parseMethodDescriptor yX1_countSeen.desc).map (fun d => d.parameters.length) = some 0 := by decide +kernel
theorem dgX11_drop_0 : ∀ r ∈ ([(0, (.aload_n 0, 1)), (1, (.getfield 12, 3)), (4, (.getfield 261, 3)), (7, (.iload_n 1, 1)), (8, (.invokevirtual 160, 3)), (11, (.ifCond .ne 10, 3)), (14, (.aload_n 0, 1)), (15, (.bipush (-2), 2)), (17, (.invokevirtual 104, 3)), (20, (.ireturn, 1)), (21, (.aload_n 0, 1)), (22, (.getfield 12, 3)), (25, (.getfield 261, 3)), (28, (.iload_n 1, 1)), (29, (.invokevirtual 271, 3)), (32, (.aload_n 0, 1)), (33, (.aload_n 0, 1)), (34, (.getfield 12, 3)), (37, (.getfield 261, 3)), (40, (.getfield 238, 3)), (43, (.invokevirtual 121, 3)), (46, (.ireturn, 1))] : List (Nat × (Instr × Nat))), decode cX11_drop r.1 = .ok r.2 := by decide +kernel
theorem dX11_drop_0 : decode cX11_drop 0 = .ok (.aload_n 0, 1) := dgX11_drop_0 (0, (.aload_n 0, 1)) (List.mem_of_getElem? (i := 0) rfl)
theorem dX11_drop_1 : decode cX11_drop 1 = .ok (.getfield 12, 3) := dgX11_drop_0 (1, (.getfield 12, 3)) (List.mem_of_getElem? (i := 1) rfl)
theorem dX11_drop_4 : decode cX11_drop 4 = .ok (.getfield 261, 3) := dgX11_drop_0 (4, (.getfield 261, 3)) (List.mem_of_getElem? (i := 2) rfl)
theorem dX11_drop_7 : decode cX11_drop 7 = .ok (.iload_n 1, 1) := dgX11_drop_0 (7, (.iload_n 1, 1)) (List.mem_of_getElem? (i := 3) rfl)
theorem dX11_drop_8 : decode cX11_drop 8 = .ok (.invokevirtual 160, 3) := dgX11_drop_0 (8, (.invokevirtual 160, 3)) (List.mem_of_getElem? (i := 4) rfl)
theorem dX11_drop_11 : decode cX11_drop 11 = .ok (.ifCond .ne 10, 3) := dgX11_drop_0 (11, (.ifCond .ne 10, 3)) (List.mem_of_getElem? (i := 5) rfl)
theorem dX11_drop_14 : decode cX11_drop 14 = .ok (.aload_n 0, 1) := dgX11_drop_0 (14, (.aload_n 0, 1)) (List.mem_of_getElem? (i := 6) rfl)
theorem dX11_drop_15 : decode cX11_drop 15 = .ok (.bipush (-2), 2) := dgX11_drop_0 (15, (.bipush (-2), 2)) (List.mem_of_getElem? (i := 7) rfl)
theorem dX11_drop_17 : decode cX11_drop 17 = .ok (.invokevirtual 104, 3) := dgX11_drop_0 (17, (.invokevirtual 104, 3)) (List.mem_of_getElem? (i := 8) rfl)
theorem dX11_drop_20 : decode cX11_drop 20 = .ok (.ireturn, 1) := dgX11_drop_0 (20, (.ireturn, 1)) (List.mem_of_getElem? (i := 9) rfl)
theorem dX11_drop_21 : decode cX11_drop 21 = .ok (.aload_n 0, 1) := dgX11_drop_0 (21, (.aload_n 0, 1)) (List.mem_of_getElem? (i := 10) rfl)
theorem dX11_drop_22 : decode cX11_drop 22 = .ok (.getfield 12, 3) := dgX11_drop_0 (22, (.getfield 12, 3)) (List.mem_of_getElem? (i := 11) rfl)
theorem dX11_drop_25 : decode cX11_drop 25 = .ok (.getfield 261, 3) := dgX11_drop_0 (25, (.getfield 261, 3)) (List.mem_of_getElem? (i := 12) rfl)
theorem dX11_drop_28 : decode cX11_drop 28 = .ok (.iload_n 1, 1) := dgX11_drop_0 (28, (.iload_n 1, 1)) (List.mem_of_getElem? (i := 13) rfl)
theorem dX11_drop_29 : decode cX11_drop 29 = .ok (.invokevirtual 271, 3) := dgX11_drop_0 (29, (.invokevirtual 271, 3)) (List.mem_of_getElem? (i := 14) rfl)
theorem dX11_drop_32 : decode cX11_drop 32 = .ok (.aload_n 0, 1) := dgX11_drop_0 (32, (.aload_n 0, 1)) (List.mem_of_getElem? (i := 15) rfl)
theorem dX11_drop_33 : decode cX11_drop 33 = .ok (.aload_n 0, 1) := dgX11_drop_0 (33, (.aload_n 0, 1)) (List.mem_of_getElem? (i := 16) rfl)
theorem dX11_drop_34 : decode cX11_drop 34 = .ok (.getfield 12, 3) := dgX11_drop_0 (34, (.getfield 12, 3)) (List.mem_of_getElem? (i := 17) rfl)
theorem dX11_drop_37 : decode cX11_drop 37 = .ok (.getfield 261, 3) := dgX11_drop_0 (37, (.getfield 261, 3)) (List.mem_of_getElem? (i := 18) rfl)
theorem dX11_drop_40 : decode cX11_drop 40 = .ok (.getfield 238, 3) := dgX11_drop_0 (40, (.getfield 238, 3)) (List.mem_of_getElem? (i := 19) rfl)
theorem dX11_drop_43 : decode cX11_drop 43 = .ok (.invokevirtual 121, 3) := dgX11_drop_0 (43, (.invokevirtual 121, 3)) (List.mem_of_getElem? (i := 20) rfl)
theorem dX11_drop_46 : decode cX11_drop 46 = .ok (.ireturn, 1) := dgX11_drop_0 (46, (.ireturn, 1)) (List.mem_of_getElem? (i := 21) rfl)
theorem ml_X11_271 : Cond.methodLink RX11 271 yX6_remove ∈ tblG := tg 942 (by decide +kernel) (by decide +kernel)
theorem im_X6_remove : Cond.instanceMethod yX6_remove ∈ tblG := tg 943 (by decide +kernel) (by decide +kernel)
theorem se_X6_remove : Cond.selects RX6 yX6_remove yX6_remove ∈ tblG := tg 944 (by decide +kernel) (by decide +kernel)
theorem cd_X6_remove : Cond.code yX6_remove cX6_remove 3 none ∈ tblG := tg 945 (by decide +kernel) (by decide +kernel)
theorem gW_X6_remove : GoodIn tblG (wsG yX6_remove cX6_remove 3 none) := tgi cd_X6_remove
theorem gV_X11_271 : GoodIn tblG (wsV RX11 271 RX6 yX6_remove (wsG yX6_remove cX6_remove 3 none)) := tgV ml_X11_271 im_X6_remove se_X6_remove ini_X6 gW_X6_remove
theorem hv_X6_remove : yX6_remove.cls = RX6 ∧ yX6_remove.cls ≠ "java/lang/invoke/MethodHandle" ∧ yX6_remove.cls ≠ "java/lang/invoke/VarHandle" ∧ (parseMethodDescriptor yX6_remove.desc).map (fun d => d.parameters.length) = some 1 := by decide +kernel
theorem dgX11_spot_0 : ∀ r ∈ ([(0, (.iload_n 1, 1)), (1, (.invokestatic 97, 3)), (4, (.ifCond .eq 17, 3)), (7, (.iload_n 2, 1)), (8, (.invokestatic 124, 3)), (11, (.ifCond .eq 10, 3)), (14, (.iload_n 3, 1)), (15, (.invokestatic 127, 3)), (18, (.ifCond .ne 9, 3)), (21, (.aload_n 0, 1)), (22, (.iconst (-1), 1)), (23, (.invokevirtual 104, 3)), (26, (.ireturn, 1)), (27, (.aload_n 0, 1)), (28, (.getfield 12, 3)), (31, (.iload_n 1, 1)), (32, (.invokevirtual 133, 3)), (35, (.ifCond .ne 10, 3)), (38, (.aload_n 0, 1)), (39, (.bipush (-3), 2)), (41, (.invokevirtual 104, 3)), (44, (.ireturn, 1)), (45, (.aload_n 0, 1)), (46, (.getfield 12, 3)), (49, (.getfield 306, 3)), (52, (.invokevirtual 140, 3)), (55, (.ifCond .eq 10, 3)), (58, (.aload_n 0, 1)), (59, (.bipush (-5), 2)), (61, (.invokevirtual 104, 3)), (64, (.ireturn, 1)), (65, (.aload_n 0, 1)), (66, (.getfield 12, 3)), (69, (.getfield 306, 3)), (72, (.iconst 0, 1)), (73, (.invokevirtual 146, 3)), (76, (.istore 4, 2)), (78, (.aload_n 0, 1)), (79, (.getfield 12, 3)), (82, (.getfield 306, 3))] : List (Nat × (Instr × Nat))), decode cX11_spot r.1 = .ok r.2 := by decide +kernel
theorem dX11_spot_0 : decode cX11_spot 0 = .ok (.iload_n 1, 1) := dgX11_spot_0 (0, (.iload_n 1, 1)) (List.mem_of_getElem? (i := 0) rfl)
theorem dX11_spot_1 : decode cX11_spot 1 = .ok (.invokestatic 97, 3) := dgX11_spot_0 (1, (.invokestatic 97, 3)) (List.mem_of_getElem? (i := 1) rfl)
theorem dX11_spot_4 : decode cX11_spot 4 = .ok (.ifCond .eq 17, 3) := dgX11_spot_0 (4, (.ifCond .eq 17, 3)) (List.mem_of_getElem? (i := 2) rfl)
theorem dX11_spot_7 : decode cX11_spot 7 = .ok (.iload_n 2, 1) := dgX11_spot_0 (7, (.iload_n 2, 1)) (List.mem_of_getElem? (i := 3) rfl)
theorem dX11_spot_8 : decode cX11_spot 8 = .ok (.invokestatic 124, 3) := dgX11_spot_0 (8, (.invokestatic 124, 3)) (List.mem_of_getElem? (i := 4) rfl)
theorem dX11_spot_11 : decode cX11_spot 11 = .ok (.ifCond .eq 10, 3) := dgX11_spot_0 (11, (.ifCond .eq 10, 3)) (List.mem_of_getElem? (i := 5) rfl)
theorem dX11_spot_14 : decode cX11_spot 14 = .ok (.iload_n 3, 1) := dgX11_spot_0 (14, (.iload_n 3, 1)) (List.mem_of_getElem? (i := 6) rfl)
theorem dX11_spot_15 : decode cX11_spot 15 = .ok (.invokestatic 127, 3) := dgX11_spot_0 (15, (.invokestatic 127, 3)) (List.mem_of_getElem? (i := 7) rfl)
theorem dX11_spot_18 : decode cX11_spot 18 = .ok (.ifCond .ne 9, 3) := dgX11_spot_0 (18, (.ifCond .ne 9, 3)) (List.mem_of_getElem? (i := 8) rfl)
theorem dX11_spot_21 : decode cX11_spot 21 = .ok (.aload_n 0, 1) := dgX11_spot_0 (21, (.aload_n 0, 1)) (List.mem_of_getElem? (i := 9) rfl)
theorem dX11_spot_22 : decode cX11_spot 22 = .ok (.iconst (-1), 1) := dgX11_spot_0 (22, (.iconst (-1), 1)) (List.mem_of_getElem? (i := 10) rfl)
theorem dX11_spot_23 : decode cX11_spot 23 = .ok (.invokevirtual 104, 3) := dgX11_spot_0 (23, (.invokevirtual 104, 3)) (List.mem_of_getElem? (i := 11) rfl)
theorem dX11_spot_26 : decode cX11_spot 26 = .ok (.ireturn, 1) := dgX11_spot_0 (26, (.ireturn, 1)) (List.mem_of_getElem? (i := 12) rfl)
theorem dX11_spot_27 : decode cX11_spot 27 = .ok (.aload_n 0, 1) := dgX11_spot_0 (27, (.aload_n 0, 1)) (List.mem_of_getElem? (i := 13) rfl)
theorem dX11_spot_28 : decode cX11_spot 28 = .ok (.getfield 12, 3) := dgX11_spot_0 (28, (.getfield 12, 3)) (List.mem_of_getElem? (i := 14) rfl)
theorem dX11_spot_31 : decode cX11_spot 31 = .ok (.iload_n 1, 1) := dgX11_spot_0 (31, (.iload_n 1, 1)) (List.mem_of_getElem? (i := 15) rfl)
theorem dX11_spot_32 : decode cX11_spot 32 = .ok (.invokevirtual 133, 3) := dgX11_spot_0 (32, (.invokevirtual 133, 3)) (List.mem_of_getElem? (i := 16) rfl)
theorem dX11_spot_35 : decode cX11_spot 35 = .ok (.ifCond .ne 10, 3) := dgX11_spot_0 (35, (.ifCond .ne 10, 3)) (List.mem_of_getElem? (i := 17) rfl)
theorem dX11_spot_38 : decode cX11_spot 38 = .ok (.aload_n 0, 1) := dgX11_spot_0 (38, (.aload_n 0, 1)) (List.mem_of_getElem? (i := 18) rfl)
theorem dX11_spot_39 : decode cX11_spot 39 = .ok (.bipush (-3), 2) := dgX11_spot_0 (39, (.bipush (-3), 2)) (List.mem_of_getElem? (i := 19) rfl)
theorem dX11_spot_41 : decode cX11_spot 41 = .ok (.invokevirtual 104, 3) := dgX11_spot_0 (41, (.invokevirtual 104, 3)) (List.mem_of_getElem? (i := 20) rfl)
theorem dX11_spot_44 : decode cX11_spot 44 = .ok (.ireturn, 1) := dgX11_spot_0 (44, (.ireturn, 1)) (List.mem_of_getElem? (i := 21) rfl)
theorem dX11_spot_45 : decode cX11_spot 45 = .ok (.aload_n 0, 1) := dgX11_spot_0 (45, (.aload_n 0, 1)) (List.mem_of_getElem? (i := 22) rfl)
theorem dX11_spot_46 : decode cX11_spot 46 = .ok (.getfield 12, 3) := dgX11_spot_0 (46, (.getfield 12, 3)) (List.mem_of_getElem? (i := 23) rfl)
theorem dX11_spot_49 : decode cX11_spot 49 = .ok (.getfield 306, 3) := dgX11_spot_0 (49, (.getfield 306, 3)) (List.mem_of_getElem? (i := 24) rfl)
theorem dX11_spot_52 : decode cX11_spot 52 = .ok (.invokevirtual 140, 3) := dgX11_spot_0 (52, (.invokevirtual 140, 3)) (List.mem_of_getElem? (i := 25) rfl)
theorem dX11_spot_55 : decode cX11_spot 55 = .ok (.ifCond .eq 10, 3) := dgX11_spot_0 (55, (.ifCond .eq 10, 3)) (List.mem_of_getElem? (i := 26) rfl)
theorem dX11_spot_58 : decode cX11_spot 58 = .ok (.aload_n 0, 1) := dgX11_spot_0 (58, (.aload_n 0, 1)) (List.mem_of_getElem? (i := 27) rfl)
theorem dX11_spot_59 : decode cX11_spot 59 = .ok (.bipush (-5), 2) := dgX11_spot_0 (59, (.bipush (-5), 2)) (List.mem_of_getElem? (i := 28) rfl)
theorem dX11_spot_61 : decode cX11_spot 61 = .ok (.invokevirtual 104, 3) := dgX11_spot_0 (61, (.invokevirtual 104, 3)) (List.mem_of_getElem? (i := 29) rfl)
theorem dX11_spot_64 : decode cX11_spot 64 = .ok (.ireturn, 1) := dgX11_spot_0 (64, (.ireturn, 1)) (List.mem_of_getElem? (i := 30) rfl)
theorem dX11_spot_65 : decode cX11_spot 65 = .ok (.aload_n 0, 1) := dgX11_spot_0 (65, (.aload_n 0, 1)) (List.mem_of_getElem? (i := 31) rfl)
theorem dX11_spot_66 : decode cX11_spot 66 = .ok (.getfield 12, 3) := dgX11_spot_0 (66, (.getfield 12, 3)) (List.mem_of_getElem? (i := 32) rfl)
theorem dX11_spot_69 : decode cX11_spot 69 = .ok (.getfield 306, 3) := dgX11_spot_0 (69, (.getfield 306, 3)) (List.mem_of_getElem? (i := 33) rfl)
theorem dX11_spot_72 : decode cX11_spot 72 = .ok (.iconst 0, 1) := dgX11_spot_0 (72, (.iconst 0, 1)) (List.mem_of_getElem? (i := 34) rfl)
theorem dX11_spot_73 : decode cX11_spot 73 = .ok (.invokevirtual 146, 3) := dgX11_spot_0 (73, (.invokevirtual 146, 3)) (List.mem_of_getElem? (i := 35) rfl)
theorem dX11_spot_76 : decode cX11_spot 76 = .ok (.istore 4, 2) := dgX11_spot_0 (76, (.istore 4, 2)) (List.mem_of_getElem? (i := 36) rfl)
theorem dX11_spot_78 : decode cX11_spot 78 = .ok (.aload_n 0, 1) := dgX11_spot_0 (78, (.aload_n 0, 1)) (List.mem_of_getElem? (i := 37) rfl)
theorem dX11_spot_79 : decode cX11_spot 79 = .ok (.getfield 12, 3) := dgX11_spot_0 (79, (.getfield 12, 3)) (List.mem_of_getElem? (i := 38) rfl)
theorem dX11_spot_82 : decode cX11_spot 82 = .ok (.getfield 306, 3) := dgX11_spot_0 (82, (.getfield 306, 3)) (List.mem_of_getElem? (i := 39) rfl)
theorem dgX11_spot_1 : ∀ r ∈ ([(85, (.iload 4, 2)), (87, (.iconst 0, 1)), (88, (.iload_n 1, 1)), (89, (.invokevirtual 149, 3)), (92, (.aload_n 0, 1)), (93, (.getfield 12, 3)), (96, (.getfield 306, 3)), (99, (.iload 4, 2)), (101, (.iconst 1, 1)), (102, (.iload_n 2, 1)), (103, (.invokevirtual 149, 3)), (106, (.aload_n 0, 1)), (107, (.getfield 12, 3)), (110, (.getfield 306, 3)), (113, (.iload 4, 2)), (115, (.iconst 2, 1)), (116, (.iload_n 3, 1)), (117, (.invokevirtual 149, 3)), (120, (.aload_n 0, 1)), (121, (.iload 4, 2)), (123, (.invokevirtual 121, 3)), (126, (.ireturn, 1))] : List (Nat × (Instr × Nat))), decode cX11_spot r.1 = .ok r.2 := by decide +kernel
theorem dX11_spot_85 : decode cX11_spot 85 = .ok (.iload 4, 2) := dgX11_spot_1 (85, (.iload 4, 2)) (List.mem_of_getElem? (i := 0) rfl)
theorem dX11_spot_87 : decode cX11_spot 87 = .ok (.iconst 0, 1) := dgX11_spot_1 (87, (.iconst 0, 1)) (List.mem_of_getElem? (i := 1) rfl)
theorem dX11_spot_88 : decode cX11_spot 88 = .ok (.iload_n 1, 1) := dgX11_spot_1 (88, (.iload_n 1, 1)) (List.mem_of_getElem? (i := 2) rfl)
theorem dX11_spot_89 : decode cX11_spot 89 = .ok (.invokevirtual 149, 3) := dgX11_spot_1 (89, (.invokevirtual 149, 3)) (List.mem_of_getElem? (i := 3) rfl)
theorem dX11_spot_92 : decode cX11_spot 92 = .ok (.aload_n 0, 1) := dgX11_spot_1 (92, (.aload_n 0, 1)) (List.mem_of_getElem? (i := 4) rfl)
theorem dX11_spot_93 : decode cX11_spot 93 = .ok (.getfield 12, 3) := dgX11_spot_1 (93, (.getfield 12, 3)) (List.mem_of_getElem? (i := 5) rfl)
theorem dX11_spot_96 : decode cX11_spot 96 = .ok (.getfield 306, 3) := dgX11_spot_1 (96, (.getfield 306, 3)) (List.mem_of_getElem? (i := 6) rfl)
theorem dX11_spot_99 : decode cX11_spot 99 = .ok (.iload 4, 2) := dgX11_spot_1 (99, (.iload 4, 2)) (List.mem_of_getElem? (i := 7) rfl)
theorem dX11_spot_101 : decode cX11_spot 101 = .ok (.iconst 1, 1) := dgX11_spot_1 (101, (.iconst 1, 1)) (List.mem_of_getElem? (i := 8) rfl)
theorem dX11_spot_102 : decode cX11_spot 102 = .ok (.iload_n 2, 1) := dgX11_spot_1 (102, (.iload_n 2, 1)) (List.mem_of_getElem? (i := 9) rfl)
theorem dX11_spot_103 : decode cX11_spot 103 = .ok (.invokevirtual 149, 3) := dgX11_spot_1 (103, (.invokevirtual 149, 3)) (List.mem_of_getElem? (i := 10) rfl)
theorem dX11_spot_106 : decode cX11_spot 106 = .ok (.aload_n 0, 1) := dgX11_spot_1 (106, (.aload_n 0, 1)) (List.mem_of_getElem? (i := 11) rfl)
theorem dX11_spot_107 : decode cX11_spot 107 = .ok (.getfield 12, 3) := dgX11_spot_1 (107, (.getfield 12, 3)) (List.mem_of_getElem? (i := 12) rfl)
theorem dX11_spot_110 : decode cX11_spot 110 = .ok (.getfield 306, 3) := dgX11_spot_1 (110, (.getfield 306, 3)) (List.mem_of_getElem? (i := 13) rfl)
theorem dX11_spot_113 : decode cX11_spot 113 = .ok (.iload 4, 2) := dgX11_spot_1 (113, (.iload 4, 2)) (List.mem_of_getElem? (i := 14) rfl)
theorem dX11_spot_115 : decode cX11_spot 115 = .ok (.iconst 2, 1) := dgX11_spot_1 (115, (.iconst 2, 1)) (List.mem_of_getElem? (i := 15) rfl)
theorem dX11_spot_116 : decode cX11_spot 116 = .ok (.iload_n 3, 1) := dgX11_spot_1 (116, (.iload_n 3, 1)) (List.mem_of_getElem? (i := 16) rfl)
theorem dX11_spot_117 : decode cX11_spot 117 = .ok (.invokevirtual 149, 3) := dgX11_spot_1 (117, (.invokevirtual 149, 3)) (List.mem_of_getElem? (i := 17) rfl)
theorem dX11_spot_120 : decode cX11_spot 120 = .ok (.aload_n 0, 1) := dgX11_spot_1 (120, (.aload_n 0, 1)) (List.mem_of_getElem? (i := 18) rfl)
theorem dX11_spot_121 : decode cX11_spot 121 = .ok (.iload 4, 2) := dgX11_spot_1 (121, (.iload 4, 2)) (List.mem_of_getElem? (i := 19) rfl)
theorem dX11_spot_123 : decode cX11_spot 123 = .ok (.invokevirtual 121, 3) := dgX11_spot_1 (123, (.invokevirtual 121, 3)) (List.mem_of_getElem? (i := 20) rfl)
theorem dX11_spot_126 : decode cX11_spot 126 = .ok (.ireturn, 1) := dgX11_spot_1 (126, (.ireturn, 1)) (List.mem_of_getElem? (i := 21) rfl)
theorem fl_X11_306 : Cond.fieldLink RX11 306 "LateGlass$House" "spots" "LLateGlass$Table;" ∈ tblG := tg 184 (by decide +kernel) (by decide +kernel)
theorem dgX11_wish_0 : ∀ r ∈ ([(0, (.iload_n 1, 1)), (1, (.iload_n 2, 1)), (2, (.iload_n 3, 1)), (3, (.invokestatic 207, 3)), (6, (.ifCond .eq 27, 3)), (9, (.iload 4, 2)), (11, (.invokestatic 97, 3)), (14, (.ifCond .eq 19, 3)), (17, (.iload 5, 2)), (19, (.invokestatic 127, 3)), (22, (.ifCond .eq 11, 3)), (25, (.iload 6, 2)), (27, (.invokestatic 101, 3)), (30, (.ifCond .ne 9, 3)), (33, (.aload_n 0, 1)), (34, (.iconst (-1), 1)), (35, (.invokevirtual 104, 3)), (38, (.ireturn, 1)), (39, (.aload_n 0, 1)), (40, (.getfield 12, 3)), (43, (.getfield 309, 3)), (46, (.invokevirtual 140, 3)), (49, (.ifCond .eq 10, 3)), (52, (.aload_n 0, 1)), (53, (.bipush (-5), 2)), (55, (.invokevirtual 104, 3)), (58, (.ireturn, 1)), (59, (.aload_n 0, 1)), (60, (.getfield 12, 3)), (63, (.getfield 309, 3)), (66, (.iconst 0, 1)), (67, (.invokevirtual 146, 3)), (70, (.istore 7, 2)), (72, (.aload_n 0, 1)), (73, (.getfield 12, 3)), (76, (.getfield 309, 3)), (79, (.iload 7, 2)), (81, (.iload_n 1, 1)), (82, (.iload_n 2, 1)), (83, (.iload_n 3, 1))] : List (Nat × (Instr × Nat))), decode cX11_wish r.1 = .ok r.2 := by decide +kernel
theorem dX11_wish_0 : decode cX11_wish 0 = .ok (.iload_n 1, 1) := dgX11_wish_0 (0, (.iload_n 1, 1)) (List.mem_of_getElem? (i := 0) rfl)
theorem dX11_wish_1 : decode cX11_wish 1 = .ok (.iload_n 2, 1) := dgX11_wish_0 (1, (.iload_n 2, 1)) (List.mem_of_getElem? (i := 1) rfl)
theorem dX11_wish_2 : decode cX11_wish 2 = .ok (.iload_n 3, 1) := dgX11_wish_0 (2, (.iload_n 3, 1)) (List.mem_of_getElem? (i := 2) rfl)
theorem dX11_wish_3 : decode cX11_wish 3 = .ok (.invokestatic 207, 3) := dgX11_wish_0 (3, (.invokestatic 207, 3)) (List.mem_of_getElem? (i := 3) rfl)
theorem dX11_wish_6 : decode cX11_wish 6 = .ok (.ifCond .eq 27, 3) := dgX11_wish_0 (6, (.ifCond .eq 27, 3)) (List.mem_of_getElem? (i := 4) rfl)
theorem dX11_wish_9 : decode cX11_wish 9 = .ok (.iload 4, 2) := dgX11_wish_0 (9, (.iload 4, 2)) (List.mem_of_getElem? (i := 5) rfl)
theorem dX11_wish_11 : decode cX11_wish 11 = .ok (.invokestatic 97, 3) := dgX11_wish_0 (11, (.invokestatic 97, 3)) (List.mem_of_getElem? (i := 6) rfl)
theorem dX11_wish_14 : decode cX11_wish 14 = .ok (.ifCond .eq 19, 3) := dgX11_wish_0 (14, (.ifCond .eq 19, 3)) (List.mem_of_getElem? (i := 7) rfl)
theorem dX11_wish_17 : decode cX11_wish 17 = .ok (.iload 5, 2) := dgX11_wish_0 (17, (.iload 5, 2)) (List.mem_of_getElem? (i := 8) rfl)
theorem dX11_wish_19 : decode cX11_wish 19 = .ok (.invokestatic 127, 3) := dgX11_wish_0 (19, (.invokestatic 127, 3)) (List.mem_of_getElem? (i := 9) rfl)
theorem dX11_wish_22 : decode cX11_wish 22 = .ok (.ifCond .eq 11, 3) := dgX11_wish_0 (22, (.ifCond .eq 11, 3)) (List.mem_of_getElem? (i := 10) rfl)
theorem dX11_wish_25 : decode cX11_wish 25 = .ok (.iload 6, 2) := dgX11_wish_0 (25, (.iload 6, 2)) (List.mem_of_getElem? (i := 11) rfl)
theorem dX11_wish_27 : decode cX11_wish 27 = .ok (.invokestatic 101, 3) := dgX11_wish_0 (27, (.invokestatic 101, 3)) (List.mem_of_getElem? (i := 12) rfl)
theorem dX11_wish_30 : decode cX11_wish 30 = .ok (.ifCond .ne 9, 3) := dgX11_wish_0 (30, (.ifCond .ne 9, 3)) (List.mem_of_getElem? (i := 13) rfl)
theorem dX11_wish_33 : decode cX11_wish 33 = .ok (.aload_n 0, 1) := dgX11_wish_0 (33, (.aload_n 0, 1)) (List.mem_of_getElem? (i := 14) rfl)
theorem dX11_wish_34 : decode cX11_wish 34 = .ok (.iconst (-1), 1) := dgX11_wish_0 (34, (.iconst (-1), 1)) (List.mem_of_getElem? (i := 15) rfl)
theorem dX11_wish_35 : decode cX11_wish 35 = .ok (.invokevirtual 104, 3) := dgX11_wish_0 (35, (.invokevirtual 104, 3)) (List.mem_of_getElem? (i := 16) rfl)
theorem dX11_wish_38 : decode cX11_wish 38 = .ok (.ireturn, 1) := dgX11_wish_0 (38, (.ireturn, 1)) (List.mem_of_getElem? (i := 17) rfl)
theorem dX11_wish_39 : decode cX11_wish 39 = .ok (.aload_n 0, 1) := dgX11_wish_0 (39, (.aload_n 0, 1)) (List.mem_of_getElem? (i := 18) rfl)
theorem dX11_wish_40 : decode cX11_wish 40 = .ok (.getfield 12, 3) := dgX11_wish_0 (40, (.getfield 12, 3)) (List.mem_of_getElem? (i := 19) rfl)
theorem dX11_wish_43 : decode cX11_wish 43 = .ok (.getfield 309, 3) := dgX11_wish_0 (43, (.getfield 309, 3)) (List.mem_of_getElem? (i := 20) rfl)
theorem dX11_wish_46 : decode cX11_wish 46 = .ok (.invokevirtual 140, 3) := dgX11_wish_0 (46, (.invokevirtual 140, 3)) (List.mem_of_getElem? (i := 21) rfl)
theorem dX11_wish_49 : decode cX11_wish 49 = .ok (.ifCond .eq 10, 3) := dgX11_wish_0 (49, (.ifCond .eq 10, 3)) (List.mem_of_getElem? (i := 22) rfl)
theorem dX11_wish_52 : decode cX11_wish 52 = .ok (.aload_n 0, 1) := dgX11_wish_0 (52, (.aload_n 0, 1)) (List.mem_of_getElem? (i := 23) rfl)
theorem dX11_wish_53 : decode cX11_wish 53 = .ok (.bipush (-5), 2) := dgX11_wish_0 (53, (.bipush (-5), 2)) (List.mem_of_getElem? (i := 24) rfl)
theorem dX11_wish_55 : decode cX11_wish 55 = .ok (.invokevirtual 104, 3) := dgX11_wish_0 (55, (.invokevirtual 104, 3)) (List.mem_of_getElem? (i := 25) rfl)
theorem dX11_wish_58 : decode cX11_wish 58 = .ok (.ireturn, 1) := dgX11_wish_0 (58, (.ireturn, 1)) (List.mem_of_getElem? (i := 26) rfl)
theorem dX11_wish_59 : decode cX11_wish 59 = .ok (.aload_n 0, 1) := dgX11_wish_0 (59, (.aload_n 0, 1)) (List.mem_of_getElem? (i := 27) rfl)
theorem dX11_wish_60 : decode cX11_wish 60 = .ok (.getfield 12, 3) := dgX11_wish_0 (60, (.getfield 12, 3)) (List.mem_of_getElem? (i := 28) rfl)
theorem dX11_wish_63 : decode cX11_wish 63 = .ok (.getfield 309, 3) := dgX11_wish_0 (63, (.getfield 309, 3)) (List.mem_of_getElem? (i := 29) rfl)
theorem dX11_wish_66 : decode cX11_wish 66 = .ok (.iconst 0, 1) := dgX11_wish_0 (66, (.iconst 0, 1)) (List.mem_of_getElem? (i := 30) rfl)
theorem dX11_wish_67 : decode cX11_wish 67 = .ok (.invokevirtual 146, 3) := dgX11_wish_0 (67, (.invokevirtual 146, 3)) (List.mem_of_getElem? (i := 31) rfl)
theorem dX11_wish_70 : decode cX11_wish 70 = .ok (.istore 7, 2) := dgX11_wish_0 (70, (.istore 7, 2)) (List.mem_of_getElem? (i := 32) rfl)
theorem dX11_wish_72 : decode cX11_wish 72 = .ok (.aload_n 0, 1) := dgX11_wish_0 (72, (.aload_n 0, 1)) (List.mem_of_getElem? (i := 33) rfl)
theorem dX11_wish_73 : decode cX11_wish 73 = .ok (.getfield 12, 3) := dgX11_wish_0 (73, (.getfield 12, 3)) (List.mem_of_getElem? (i := 34) rfl)
theorem dX11_wish_76 : decode cX11_wish 76 = .ok (.getfield 309, 3) := dgX11_wish_0 (76, (.getfield 309, 3)) (List.mem_of_getElem? (i := 35) rfl)
theorem dX11_wish_79 : decode cX11_wish 79 = .ok (.iload 7, 2) := dgX11_wish_0 (79, (.iload 7, 2)) (List.mem_of_getElem? (i := 36) rfl)
theorem dX11_wish_81 : decode cX11_wish 81 = .ok (.iload_n 1, 1) := dgX11_wish_0 (81, (.iload_n 1, 1)) (List.mem_of_getElem? (i := 37) rfl)
theorem dX11_wish_82 : decode cX11_wish 82 = .ok (.iload_n 2, 1) := dgX11_wish_0 (82, (.iload_n 2, 1)) (List.mem_of_getElem? (i := 38) rfl)
theorem dX11_wish_83 : decode cX11_wish 83 = .ok (.iload_n 3, 1) := dgX11_wish_0 (83, (.iload_n 3, 1)) (List.mem_of_getElem? (i := 39) rfl)
theorem dgX11_wish_1 : ∀ r ∈ ([(84, (.invokevirtual 268, 3)), (87, (.aload_n 0, 1)), (88, (.getfield 12, 3)), (91, (.getfield 309, 3)), (94, (.iload 7, 2)), (96, (.iconst 3, 1)), (97, (.iload 4, 2)), (99, (.invokevirtual 149, 3)), (102, (.aload_n 0, 1)), (103, (.getfield 12, 3)), (106, (.getfield 309, 3)), (109, (.iload 7, 2)), (111, (.iconst 4, 1)), (112, (.iload 5, 2)), (114, (.invokevirtual 149, 3)), (117, (.aload_n 0, 1)), (118, (.getfield 12, 3)), (121, (.getfield 309, 3)), (124, (.iload 7, 2)), (126, (.iconst 5, 1)), (127, (.iload 6, 2)), (129, (.invokevirtual 149, 3)), (132, (.aload_n 0, 1)), (133, (.aload_n 0, 1)), (134, (.getfield 12, 3)), (137, (.getfield 309, 3)), (140, (.getfield 238, 3)), (143, (.invokevirtual 121, 3)), (146, (.ireturn, 1))] : List (Nat × (Instr × Nat))), decode cX11_wish r.1 = .ok r.2 := by decide +kernel
theorem dX11_wish_84 : decode cX11_wish 84 = .ok (.invokevirtual 268, 3) := dgX11_wish_1 (84, (.invokevirtual 268, 3)) (List.mem_of_getElem? (i := 0) rfl)
theorem dX11_wish_87 : decode cX11_wish 87 = .ok (.aload_n 0, 1) := dgX11_wish_1 (87, (.aload_n 0, 1)) (List.mem_of_getElem? (i := 1) rfl)
theorem dX11_wish_88 : decode cX11_wish 88 = .ok (.getfield 12, 3) := dgX11_wish_1 (88, (.getfield 12, 3)) (List.mem_of_getElem? (i := 2) rfl)
theorem dX11_wish_91 : decode cX11_wish 91 = .ok (.getfield 309, 3) := dgX11_wish_1 (91, (.getfield 309, 3)) (List.mem_of_getElem? (i := 3) rfl)
theorem dX11_wish_94 : decode cX11_wish 94 = .ok (.iload 7, 2) := dgX11_wish_1 (94, (.iload 7, 2)) (List.mem_of_getElem? (i := 4) rfl)
theorem dX11_wish_96 : decode cX11_wish 96 = .ok (.iconst 3, 1) := dgX11_wish_1 (96, (.iconst 3, 1)) (List.mem_of_getElem? (i := 5) rfl)
theorem dX11_wish_97 : decode cX11_wish 97 = .ok (.iload 4, 2) := dgX11_wish_1 (97, (.iload 4, 2)) (List.mem_of_getElem? (i := 6) rfl)
theorem dX11_wish_99 : decode cX11_wish 99 = .ok (.invokevirtual 149, 3) := dgX11_wish_1 (99, (.invokevirtual 149, 3)) (List.mem_of_getElem? (i := 7) rfl)
theorem dX11_wish_102 : decode cX11_wish 102 = .ok (.aload_n 0, 1) := dgX11_wish_1 (102, (.aload_n 0, 1)) (List.mem_of_getElem? (i := 8) rfl)
theorem dX11_wish_103 : decode cX11_wish 103 = .ok (.getfield 12, 3) := dgX11_wish_1 (103, (.getfield 12, 3)) (List.mem_of_getElem? (i := 9) rfl)
theorem dX11_wish_106 : decode cX11_wish 106 = .ok (.getfield 309, 3) := dgX11_wish_1 (106, (.getfield 309, 3)) (List.mem_of_getElem? (i := 10) rfl)
theorem dX11_wish_109 : decode cX11_wish 109 = .ok (.iload 7, 2) := dgX11_wish_1 (109, (.iload 7, 2)) (List.mem_of_getElem? (i := 11) rfl)
theorem dX11_wish_111 : decode cX11_wish 111 = .ok (.iconst 4, 1) := dgX11_wish_1 (111, (.iconst 4, 1)) (List.mem_of_getElem? (i := 12) rfl)
theorem dX11_wish_112 : decode cX11_wish 112 = .ok (.iload 5, 2) := dgX11_wish_1 (112, (.iload 5, 2)) (List.mem_of_getElem? (i := 13) rfl)
theorem dX11_wish_114 : decode cX11_wish 114 = .ok (.invokevirtual 149, 3) := dgX11_wish_1 (114, (.invokevirtual 149, 3)) (List.mem_of_getElem? (i := 14) rfl)
theorem dX11_wish_117 : decode cX11_wish 117 = .ok (.aload_n 0, 1) := dgX11_wish_1 (117, (.aload_n 0, 1)) (List.mem_of_getElem? (i := 15) rfl)
theorem dX11_wish_118 : decode cX11_wish 118 = .ok (.getfield 12, 3) := dgX11_wish_1 (118, (.getfield 12, 3)) (List.mem_of_getElem? (i := 16) rfl)
theorem dX11_wish_121 : decode cX11_wish 121 = .ok (.getfield 309, 3) := dgX11_wish_1 (121, (.getfield 309, 3)) (List.mem_of_getElem? (i := 17) rfl)
theorem dX11_wish_124 : decode cX11_wish 124 = .ok (.iload 7, 2) := dgX11_wish_1 (124, (.iload 7, 2)) (List.mem_of_getElem? (i := 18) rfl)
theorem dX11_wish_126 : decode cX11_wish 126 = .ok (.iconst 5, 1) := dgX11_wish_1 (126, (.iconst 5, 1)) (List.mem_of_getElem? (i := 19) rfl)
theorem dX11_wish_127 : decode cX11_wish 127 = .ok (.iload 6, 2) := dgX11_wish_1 (127, (.iload 6, 2)) (List.mem_of_getElem? (i := 20) rfl)
theorem dX11_wish_129 : decode cX11_wish 129 = .ok (.invokevirtual 149, 3) := dgX11_wish_1 (129, (.invokevirtual 149, 3)) (List.mem_of_getElem? (i := 21) rfl)
theorem dX11_wish_132 : decode cX11_wish 132 = .ok (.aload_n 0, 1) := dgX11_wish_1 (132, (.aload_n 0, 1)) (List.mem_of_getElem? (i := 22) rfl)
theorem dX11_wish_133 : decode cX11_wish 133 = .ok (.aload_n 0, 1) := dgX11_wish_1 (133, (.aload_n 0, 1)) (List.mem_of_getElem? (i := 23) rfl)
theorem dX11_wish_134 : decode cX11_wish 134 = .ok (.getfield 12, 3) := dgX11_wish_1 (134, (.getfield 12, 3)) (List.mem_of_getElem? (i := 24) rfl)
theorem dX11_wish_137 : decode cX11_wish 137 = .ok (.getfield 309, 3) := dgX11_wish_1 (137, (.getfield 309, 3)) (List.mem_of_getElem? (i := 25) rfl)
theorem dX11_wish_140 : decode cX11_wish 140 = .ok (.getfield 238, 3) := dgX11_wish_1 (140, (.getfield 238, 3)) (List.mem_of_getElem? (i := 26) rfl)
theorem dX11_wish_143 : decode cX11_wish 143 = .ok (.invokevirtual 121, 3) := dgX11_wish_1 (143, (.invokevirtual 121, 3)) (List.mem_of_getElem? (i := 27) rfl)
theorem dX11_wish_146 : decode cX11_wish 146 = .ok (.ireturn, 1) := dgX11_wish_1 (146, (.ireturn, 1)) (List.mem_of_getElem? (i := 28) rfl)
theorem fl_X11_309 : Cond.fieldLink RX11 309 "LateGlass$House" "wishes" "LLateGlass$Table;" ∈ tblG := tg 187 (by decide +kernel) (by decide +kernel)
theorem dgX11_law_0 : ∀ r ∈ ([(0, (.aload_n 0, 1)), (1, (.getfield 74, 3)), (4, (.istore_n 1, 1)), (5, (.aload_n 0, 1)), (6, (.iconst 0, 1)), (7, (.putfield 74, 3)), (10, (.aload_n 0, 1)), (11, (.getfield 12, 3)), (14, (.getfield 192, 3)), (17, (.bipush 6, 2)), (19, (.if_icmp .lt 10, 3)), (22, (.aload_n 0, 1)), (23, (.bipush (-5), 2)), (25, (.invokevirtual 104, 3)), (28, (.ireturn, 1)), (29, (.aload_n 0, 1)), (30, (.getfield 66, 3)), (33, (.aload_n 0, 1)), (34, (.getfield 70, 3)), (37, (.iload_n 1, 1)), (38, (.invokevirtual 195, 3)), (41, (.astore_n 2, 1)), (42, (.aload_n 0, 1)), (43, (.aload_n 0, 1)), (44, (.getfield 66, 3)), (47, (.getfield 199, 3)), (50, (.putfield 81, 3)), (53, (.aload_n 2, 1)), (54, (.ifnonnull 10, 3)), (57, (.aload_n 0, 1)), (58, (.bipush (-6), 2)), (60, (.invokevirtual 104, 3)), (63, (.ireturn, 1)), (64, (.aload_n 0, 1)), (65, (.getfield 12, 3)), (68, (.getfield 200, 3)), (71, (.aload_n 0, 1)), (72, (.getfield 12, 3)), (75, (.getfield 192, 3)), (78, (.aload_n 2, 1))] : List (Nat × (Instr × Nat))), decode cX11_law r.1 = .ok r.2 := by decide +kernel
theorem dX11_law_0 : decode cX11_law 0 = .ok (.aload_n 0, 1) := dgX11_law_0 (0, (.aload_n 0, 1)) (List.mem_of_getElem? (i := 0) rfl)
theorem dX11_law_1 : decode cX11_law 1 = .ok (.getfield 74, 3) := dgX11_law_0 (1, (.getfield 74, 3)) (List.mem_of_getElem? (i := 1) rfl)
theorem dX11_law_4 : decode cX11_law 4 = .ok (.istore_n 1, 1) := dgX11_law_0 (4, (.istore_n 1, 1)) (List.mem_of_getElem? (i := 2) rfl)
theorem dX11_law_5 : decode cX11_law 5 = .ok (.aload_n 0, 1) := dgX11_law_0 (5, (.aload_n 0, 1)) (List.mem_of_getElem? (i := 3) rfl)
theorem dX11_law_6 : decode cX11_law 6 = .ok (.iconst 0, 1) := dgX11_law_0 (6, (.iconst 0, 1)) (List.mem_of_getElem? (i := 4) rfl)
theorem dX11_law_7 : decode cX11_law 7 = .ok (.putfield 74, 3) := dgX11_law_0 (7, (.putfield 74, 3)) (List.mem_of_getElem? (i := 5) rfl)
theorem dX11_law_10 : decode cX11_law 10 = .ok (.aload_n 0, 1) := dgX11_law_0 (10, (.aload_n 0, 1)) (List.mem_of_getElem? (i := 6) rfl)
theorem dX11_law_11 : decode cX11_law 11 = .ok (.getfield 12, 3) := dgX11_law_0 (11, (.getfield 12, 3)) (List.mem_of_getElem? (i := 7) rfl)
theorem dX11_law_14 : decode cX11_law 14 = .ok (.getfield 192, 3) := dgX11_law_0 (14, (.getfield 192, 3)) (List.mem_of_getElem? (i := 8) rfl)
theorem dX11_law_17 : decode cX11_law 17 = .ok (.bipush 6, 2) := dgX11_law_0 (17, (.bipush 6, 2)) (List.mem_of_getElem? (i := 9) rfl)
theorem dX11_law_19 : decode cX11_law 19 = .ok (.if_icmp .lt 10, 3) := dgX11_law_0 (19, (.if_icmp .lt 10, 3)) (List.mem_of_getElem? (i := 10) rfl)
theorem dX11_law_22 : decode cX11_law 22 = .ok (.aload_n 0, 1) := dgX11_law_0 (22, (.aload_n 0, 1)) (List.mem_of_getElem? (i := 11) rfl)
theorem dX11_law_23 : decode cX11_law 23 = .ok (.bipush (-5), 2) := dgX11_law_0 (23, (.bipush (-5), 2)) (List.mem_of_getElem? (i := 12) rfl)
theorem dX11_law_25 : decode cX11_law 25 = .ok (.invokevirtual 104, 3) := dgX11_law_0 (25, (.invokevirtual 104, 3)) (List.mem_of_getElem? (i := 13) rfl)
theorem dX11_law_28 : decode cX11_law 28 = .ok (.ireturn, 1) := dgX11_law_0 (28, (.ireturn, 1)) (List.mem_of_getElem? (i := 14) rfl)
theorem dX11_law_29 : decode cX11_law 29 = .ok (.aload_n 0, 1) := dgX11_law_0 (29, (.aload_n 0, 1)) (List.mem_of_getElem? (i := 15) rfl)
theorem dX11_law_30 : decode cX11_law 30 = .ok (.getfield 66, 3) := dgX11_law_0 (30, (.getfield 66, 3)) (List.mem_of_getElem? (i := 16) rfl)
theorem dX11_law_33 : decode cX11_law 33 = .ok (.aload_n 0, 1) := dgX11_law_0 (33, (.aload_n 0, 1)) (List.mem_of_getElem? (i := 17) rfl)
theorem dX11_law_34 : decode cX11_law 34 = .ok (.getfield 70, 3) := dgX11_law_0 (34, (.getfield 70, 3)) (List.mem_of_getElem? (i := 18) rfl)
theorem dX11_law_37 : decode cX11_law 37 = .ok (.iload_n 1, 1) := dgX11_law_0 (37, (.iload_n 1, 1)) (List.mem_of_getElem? (i := 19) rfl)
theorem dX11_law_38 : decode cX11_law 38 = .ok (.invokevirtual 195, 3) := dgX11_law_0 (38, (.invokevirtual 195, 3)) (List.mem_of_getElem? (i := 20) rfl)
theorem dX11_law_41 : decode cX11_law 41 = .ok (.astore_n 2, 1) := dgX11_law_0 (41, (.astore_n 2, 1)) (List.mem_of_getElem? (i := 21) rfl)
theorem dX11_law_42 : decode cX11_law 42 = .ok (.aload_n 0, 1) := dgX11_law_0 (42, (.aload_n 0, 1)) (List.mem_of_getElem? (i := 22) rfl)
theorem dX11_law_43 : decode cX11_law 43 = .ok (.aload_n 0, 1) := dgX11_law_0 (43, (.aload_n 0, 1)) (List.mem_of_getElem? (i := 23) rfl)
theorem dX11_law_44 : decode cX11_law 44 = .ok (.getfield 66, 3) := dgX11_law_0 (44, (.getfield 66, 3)) (List.mem_of_getElem? (i := 24) rfl)
theorem dX11_law_47 : decode cX11_law 47 = .ok (.getfield 199, 3) := dgX11_law_0 (47, (.getfield 199, 3)) (List.mem_of_getElem? (i := 25) rfl)
theorem dX11_law_50 : decode cX11_law 50 = .ok (.putfield 81, 3) := dgX11_law_0 (50, (.putfield 81, 3)) (List.mem_of_getElem? (i := 26) rfl)
theorem dX11_law_53 : decode cX11_law 53 = .ok (.aload_n 2, 1) := dgX11_law_0 (53, (.aload_n 2, 1)) (List.mem_of_getElem? (i := 27) rfl)
theorem dX11_law_54 : decode cX11_law 54 = .ok (.ifnonnull 10, 3) := dgX11_law_0 (54, (.ifnonnull 10, 3)) (List.mem_of_getElem? (i := 28) rfl)
theorem dX11_law_57 : decode cX11_law 57 = .ok (.aload_n 0, 1) := dgX11_law_0 (57, (.aload_n 0, 1)) (List.mem_of_getElem? (i := 29) rfl)
theorem dX11_law_58 : decode cX11_law 58 = .ok (.bipush (-6), 2) := dgX11_law_0 (58, (.bipush (-6), 2)) (List.mem_of_getElem? (i := 30) rfl)
theorem dX11_law_60 : decode cX11_law 60 = .ok (.invokevirtual 104, 3) := dgX11_law_0 (60, (.invokevirtual 104, 3)) (List.mem_of_getElem? (i := 31) rfl)
theorem dX11_law_63 : decode cX11_law 63 = .ok (.ireturn, 1) := dgX11_law_0 (63, (.ireturn, 1)) (List.mem_of_getElem? (i := 32) rfl)
theorem dX11_law_64 : decode cX11_law 64 = .ok (.aload_n 0, 1) := dgX11_law_0 (64, (.aload_n 0, 1)) (List.mem_of_getElem? (i := 33) rfl)
theorem dX11_law_65 : decode cX11_law 65 = .ok (.getfield 12, 3) := dgX11_law_0 (65, (.getfield 12, 3)) (List.mem_of_getElem? (i := 34) rfl)
theorem dX11_law_68 : decode cX11_law 68 = .ok (.getfield 200, 3) := dgX11_law_0 (68, (.getfield 200, 3)) (List.mem_of_getElem? (i := 35) rfl)
theorem dX11_law_71 : decode cX11_law 71 = .ok (.aload_n 0, 1) := dgX11_law_0 (71, (.aload_n 0, 1)) (List.mem_of_getElem? (i := 36) rfl)
theorem dX11_law_72 : decode cX11_law 72 = .ok (.getfield 12, 3) := dgX11_law_0 (72, (.getfield 12, 3)) (List.mem_of_getElem? (i := 37) rfl)
theorem dX11_law_75 : decode cX11_law 75 = .ok (.getfield 192, 3) := dgX11_law_0 (75, (.getfield 192, 3)) (List.mem_of_getElem? (i := 38) rfl)
theorem dX11_law_78 : decode cX11_law 78 = .ok (.aload_n 2, 1) := dgX11_law_0 (78, (.aload_n 2, 1)) (List.mem_of_getElem? (i := 39) rfl)
theorem dgX11_law_1 : ∀ r ∈ ([(79, (.aastore, 1)), (80, (.aload_n 0, 1)), (81, (.getfield 12, 3)), (84, (.dup, 1)), (85, (.getfield 192, 3)), (88, (.iconst 1, 1)), (89, (.iadd, 1)), (90, (.putfield 192, 3)), (93, (.aload_n 0, 1)), (94, (.aload_n 0, 1)), (95, (.getfield 12, 3)), (98, (.getfield 192, 3)), (101, (.iconst 1, 1)), (102, (.isub, 1)), (103, (.invokevirtual 121, 3)), (106, (.ireturn, 1))] : List (Nat × (Instr × Nat))), decode cX11_law r.1 = .ok r.2 := by decide +kernel
theorem dX11_law_79 : decode cX11_law 79 = .ok (.aastore, 1) := dgX11_law_1 (79, (.aastore, 1)) (List.mem_of_getElem? (i := 0) rfl)
theorem dX11_law_80 : decode cX11_law 80 = .ok (.aload_n 0, 1) := dgX11_law_1 (80, (.aload_n 0, 1)) (List.mem_of_getElem? (i := 1) rfl)
theorem dX11_law_81 : decode cX11_law 81 = .ok (.getfield 12, 3) := dgX11_law_1 (81, (.getfield 12, 3)) (List.mem_of_getElem? (i := 2) rfl)
theorem dX11_law_84 : decode cX11_law 84 = .ok (.dup, 1) := dgX11_law_1 (84, (.dup, 1)) (List.mem_of_getElem? (i := 3) rfl)
theorem dX11_law_85 : decode cX11_law 85 = .ok (.getfield 192, 3) := dgX11_law_1 (85, (.getfield 192, 3)) (List.mem_of_getElem? (i := 4) rfl)
theorem dX11_law_88 : decode cX11_law 88 = .ok (.iconst 1, 1) := dgX11_law_1 (88, (.iconst 1, 1)) (List.mem_of_getElem? (i := 5) rfl)
theorem dX11_law_89 : decode cX11_law 89 = .ok (.iadd, 1) := dgX11_law_1 (89, (.iadd, 1)) (List.mem_of_getElem? (i := 6) rfl)
theorem dX11_law_90 : decode cX11_law 90 = .ok (.putfield 192, 3) := dgX11_law_1 (90, (.putfield 192, 3)) (List.mem_of_getElem? (i := 7) rfl)
theorem dX11_law_93 : decode cX11_law 93 = .ok (.aload_n 0, 1) := dgX11_law_1 (93, (.aload_n 0, 1)) (List.mem_of_getElem? (i := 8) rfl)
theorem dX11_law_94 : decode cX11_law 94 = .ok (.aload_n 0, 1) := dgX11_law_1 (94, (.aload_n 0, 1)) (List.mem_of_getElem? (i := 9) rfl)
theorem dX11_law_95 : decode cX11_law 95 = .ok (.getfield 12, 3) := dgX11_law_1 (95, (.getfield 12, 3)) (List.mem_of_getElem? (i := 10) rfl)
theorem dX11_law_98 : decode cX11_law 98 = .ok (.getfield 192, 3) := dgX11_law_1 (98, (.getfield 192, 3)) (List.mem_of_getElem? (i := 11) rfl)
theorem dX11_law_101 : decode cX11_law 101 = .ok (.iconst 1, 1) := dgX11_law_1 (101, (.iconst 1, 1)) (List.mem_of_getElem? (i := 12) rfl)
theorem dX11_law_102 : decode cX11_law 102 = .ok (.isub, 1) := dgX11_law_1 (102, (.isub, 1)) (List.mem_of_getElem? (i := 13) rfl)
theorem dX11_law_103 : decode cX11_law 103 = .ok (.invokevirtual 121, 3) := dgX11_law_1 (103, (.invokevirtual 121, 3)) (List.mem_of_getElem? (i := 14) rfl)
theorem dX11_law_106 : decode cX11_law 106 = .ok (.ireturn, 1) := dgX11_law_1 (106, (.ireturn, 1)) (List.mem_of_getElem? (i := 15) rfl)
theorem fl_X11_66 : Cond.fieldLink RX11 66 "LateGlass" "reader" "LLateGlass$LawReader;" ∈ tblG := tg 452 (by decide +kernel) (by decide +kernel)
theorem ml_X11_195 : Cond.methodLink RX11 195 yX4_read ∈ tblG := tg 641 (by decide +kernel) (by decide +kernel)
theorem im_X4_read : Cond.instanceMethod yX4_read ∈ tblG := tg 642 (by decide +kernel) (by decide +kernel)
theorem se_X4_read : Cond.selects RX4 yX4_read yX4_read ∈ tblG := tg 643 (by decide +kernel) (by decide +kernel)
theorem cd_X4_read : Cond.code yX4_read cX4_read 4 (some (.object "LateGlass$Law")) ∈ tblG := tg 644 (by decide +kernel) (by decide +kernel)
theorem gW_X4_read : GoodIn tblG (wsG yX4_read cX4_read 4 (some (.object "LateGlass$Law"))) := tgi cd_X4_read
theorem gV_X11_195 : GoodIn tblG (wsV RX11 195 RX4 yX4_read (wsG yX4_read cX4_read 4 (some (.object "LateGlass$Law")))) := tgV ml_X11_195 im_X4_read se_X4_read ini_X4 gW_X4_read
theorem hv_X4_read : yX4_read.cls = RX4 ∧ yX4_read.cls ≠ "java/lang/invoke/MethodHandle" ∧ yX4_read.cls ≠ "java/lang/invoke/VarHandle" ∧ (parseMethodDescriptor yX4_read.desc).map (fun d => d.parameters.length) = some 2 := by decide +kernel
theorem fl_X11_199 : Cond.fieldLink RX11 199 "LateGlass$LawReader" "faultPlace" "I" ∈ tblG := tg 426 (by decide +kernel) (by decide +kernel)
theorem fl_X11_200 : Cond.fieldLink RX11 200 "LateGlass$House" "laws" "[LLateGlass$Law;" ∈ tblG := tg 169 (by decide +kernel) (by decide +kernel)
theorem dgX11_image_0 : ∀ r ∈ ([(0, (.iload_n 1, 1)), (1, (.invokestatic 351, 3)), (4, (.ifCond .ne 9, 3)), (7, (.aload_n 0, 1)), (8, (.iconst (-1), 1)), (9, (.invokevirtual 104, 3)), (12, (.ireturn, 1)), (13, (.aload_n 0, 1)), (14, (.getfield 16, 3)), (17, (.iload_n 1, 1)), (18, (.aaload, 1)), (19, (.aload_n 0, 1)), (20, (.getfield 12, 3)), (23, (.invokevirtual 354, 3)), (26, (.aload_n 0, 1)), (27, (.getfield 20, 3)), (30, (.iload_n 1, 1)), (31, (.iconst 1, 1)), (32, (.bastore, 1)), (33, (.aload_n 0, 1)), (34, (.iconst 0, 1)), (35, (.invokevirtual 121, 3)), (38, (.ireturn, 1))] : List (Nat × (Instr × Nat))), decode cX11_image r.1 = .ok r.2 := by decide +kernel
theorem dX11_image_0 : decode cX11_image 0 = .ok (.iload_n 1, 1) := dgX11_image_0 (0, (.iload_n 1, 1)) (List.mem_of_getElem? (i := 0) rfl)
theorem dX11_image_1 : decode cX11_image 1 = .ok (.invokestatic 351, 3) := dgX11_image_0 (1, (.invokestatic 351, 3)) (List.mem_of_getElem? (i := 1) rfl)
theorem dX11_image_4 : decode cX11_image 4 = .ok (.ifCond .ne 9, 3) := dgX11_image_0 (4, (.ifCond .ne 9, 3)) (List.mem_of_getElem? (i := 2) rfl)
theorem dX11_image_7 : decode cX11_image 7 = .ok (.aload_n 0, 1) := dgX11_image_0 (7, (.aload_n 0, 1)) (List.mem_of_getElem? (i := 3) rfl)
theorem dX11_image_8 : decode cX11_image 8 = .ok (.iconst (-1), 1) := dgX11_image_0 (8, (.iconst (-1), 1)) (List.mem_of_getElem? (i := 4) rfl)
theorem dX11_image_9 : decode cX11_image 9 = .ok (.invokevirtual 104, 3) := dgX11_image_0 (9, (.invokevirtual 104, 3)) (List.mem_of_getElem? (i := 5) rfl)
theorem dX11_image_12 : decode cX11_image 12 = .ok (.ireturn, 1) := dgX11_image_0 (12, (.ireturn, 1)) (List.mem_of_getElem? (i := 6) rfl)
theorem dX11_image_13 : decode cX11_image 13 = .ok (.aload_n 0, 1) := dgX11_image_0 (13, (.aload_n 0, 1)) (List.mem_of_getElem? (i := 7) rfl)
theorem dX11_image_14 : decode cX11_image 14 = .ok (.getfield 16, 3) := dgX11_image_0 (14, (.getfield 16, 3)) (List.mem_of_getElem? (i := 8) rfl)
theorem dX11_image_17 : decode cX11_image 17 = .ok (.iload_n 1, 1) := dgX11_image_0 (17, (.iload_n 1, 1)) (List.mem_of_getElem? (i := 9) rfl)
theorem dX11_image_18 : decode cX11_image 18 = .ok (.aaload, 1) := dgX11_image_0 (18, (.aaload, 1)) (List.mem_of_getElem? (i := 10) rfl)
theorem dX11_image_19 : decode cX11_image 19 = .ok (.aload_n 0, 1) := dgX11_image_0 (19, (.aload_n 0, 1)) (List.mem_of_getElem? (i := 11) rfl)
theorem dX11_image_20 : decode cX11_image 20 = .ok (.getfield 12, 3) := dgX11_image_0 (20, (.getfield 12, 3)) (List.mem_of_getElem? (i := 12) rfl)
theorem dX11_image_23 : decode cX11_image 23 = .ok (.invokevirtual 354, 3) := dgX11_image_0 (23, (.invokevirtual 354, 3)) (List.mem_of_getElem? (i := 13) rfl)
theorem dX11_image_26 : decode cX11_image 26 = .ok (.aload_n 0, 1) := dgX11_image_0 (26, (.aload_n 0, 1)) (List.mem_of_getElem? (i := 14) rfl)
theorem dX11_image_27 : decode cX11_image 27 = .ok (.getfield 20, 3) := dgX11_image_0 (27, (.getfield 20, 3)) (List.mem_of_getElem? (i := 15) rfl)
theorem dX11_image_30 : decode cX11_image 30 = .ok (.iload_n 1, 1) := dgX11_image_0 (30, (.iload_n 1, 1)) (List.mem_of_getElem? (i := 16) rfl)
theorem dX11_image_31 : decode cX11_image 31 = .ok (.iconst 1, 1) := dgX11_image_0 (31, (.iconst 1, 1)) (List.mem_of_getElem? (i := 17) rfl)
theorem dX11_image_32 : decode cX11_image 32 = .ok (.bastore, 1) := dgX11_image_0 (32, (.bastore, 1)) (List.mem_of_getElem? (i := 18) rfl)
theorem dX11_image_33 : decode cX11_image 33 = .ok (.aload_n 0, 1) := dgX11_image_0 (33, (.aload_n 0, 1)) (List.mem_of_getElem? (i := 19) rfl)
theorem dX11_image_34 : decode cX11_image 34 = .ok (.iconst 0, 1) := dgX11_image_0 (34, (.iconst 0, 1)) (List.mem_of_getElem? (i := 20) rfl)
theorem dX11_image_35 : decode cX11_image 35 = .ok (.invokevirtual 121, 3) := dgX11_image_0 (35, (.invokevirtual 121, 3)) (List.mem_of_getElem? (i := 21) rfl)
theorem dX11_image_38 : decode cX11_image 38 = .ok (.ireturn, 1) := dgX11_image_0 (38, (.ireturn, 1)) (List.mem_of_getElem? (i := 22) rfl)
theorem ml_X11_351 : Cond.methodLink RX11 351 yX11_isImage ∈ tblG := tg 1160 (by decide +kernel) (by decide +kernel)
theorem st_X11_isImage : Cond.static yX11_isImage ∈ tblG := tg 1161 (by decide +kernel) (by decide +kernel)
theorem cd_X11_isImage : Cond.code yX11_isImage cX11_isImage 1 (some .boolean) ∈ tblG := tg 1162 (by decide +kernel) (by decide +kernel)
theorem gW_X11_isImage : GoodIn tblG (wsG yX11_isImage cX11_isImage 1 (some .boolean)) := tgi cd_X11_isImage
theorem gS_X11_351 : GoodIn tblG (va_wsS RX11 351 yX11_isImage (wsG yX11_isImage cX11_isImage 1 (some .boolean))) := tgS ml_X11_351 st_X11_isImage ini_X11 gW_X11_isImage
theorem hs_X11_isImage : yX11_isImage.cls ≠ "java/lang/invoke/MethodHandle" ∧ yX11_isImage.cls ≠ "java/lang/invoke/VarHandle" ∧ (parseMethodDescriptor yX11_isImage.desc).map (fun d => d.parameters.length) = some 1 := by decide +kernel
theorem fl_X11_16 : Cond.fieldLink RX11 16 "LateGlass" "images" "[LLateGlass$House;" ∈ tblG := tg 445 (by decide +kernel) (by decide +kernel)
theorem ml_X11_354 : Cond.methodLink RX11 354 yX1_copyFrom ∈ tblG := tg 1163 (by decide +kernel) (by decide +kernel)
theorem im_X1_copyFrom : Cond.instanceMethod yX1_copyFrom ∈ tblG := tg 1164 (by decide +kernel) (by decide +kernel)
theorem se_X1_copyFrom : Cond.selects RX1 yX1_copyFrom yX1_copyFrom ∈ tblG := tg 1165 (by decide +kernel) (by decide +kernel)
theorem cd_X1_copyFrom : Cond.code yX1_copyFrom cX1_copyFrom 3 none ∈ tblG := tg 1166 (by decide +kernel) (by decide +kernel)
theorem gW_X1_copyFrom : GoodIn tblG (wsG yX1_copyFrom cX1_copyFrom 3 none) := tgi cd_X1_copyFrom
theorem gV_X11_354 : GoodIn tblG (wsV RX11 354 RX1 yX1_copyFrom (wsG yX1_copyFrom cX1_copyFrom 3 none)) := tgV ml_X11_354 im_X1_copyFrom se_X1_copyFrom ini_X1 gW_X1_copyFrom
theorem hv_X1_copyFrom : yX1_copyFrom.cls = RX1 ∧ yX1_copyFrom.cls ≠ "java/lang/invoke/MethodHandle" ∧ yX1_copyFrom.cls ≠ "java/lang/invoke/VarHandle" ∧ (parseMethodDescriptor yX1_copyFrom.desc).map (fun d => d.parameters.length) = some 1 := by decide +kernel
theorem fl_X11_20 : Cond.fieldLink RX11 20 "LateGlass" "kept" "[Z" ∈ tblG := tg 446 (by decide +kernel) (by decide +kernel)
set_option maxHeartbeats 4000000 in
set_option maxRecDepth 100000 in
theorem x_image0 (l : Launch) (G : g5_G) (a_o a_rf a_im a_ke a_h a_l a_g a_gn a_b a_bn a_s a_sn a_p a_pn a_w a_wn a_bb a_h2 a_l2 a_g2 a_gn2 a_b2 a_bn2 a_s2 a_sn2 a_p2 a_pn2 a_w2 a_wn2 a_bb2 a_k a_wa a_th a_ha a_wk a_r a_x a_wd a_h3 : Nat) (sz : Nat) (e_tl : Int32) (e_fd : Int32) (e_fpl : Int32) (e_wn : Int32) (e_lr : Int32) (e_le : Int32) (e_st : Int32) (e_fo : Int32) (e_lc : Int32) (e_g : Int32) (e_b : Int32) (e_s : Int32) (e_p : Int32) (e_w : Int32) (e_le2 : Int32) (e_st2 : Int32) (e_fo2 : Int32) (e_lc2 : Int32) (e_g2 : Int32) (e_b2 : Int32) (e_s2 : Int32) (e_p2 : Int32) (e_w2 : Int32) (e_wa : Int64) (e_gb : Int64) (e_wa2 : Int64) (e_gb2 : Int64) (f_rf : Nat → Int32) (f_ke : Nat → Int32) (f_l : Nat → Option Nat) (f_g : Nat → Int32) (f_b : Nat → Int32) (f_s : Nat → Int32) (f_p : Nat → Int32) (f_w : Nat → Int32) (f_bb : Nat → Int64) (f_l2 : Nat → Option Nat) (f_g2 : Nat → Int32) (f_b2 : Nat → Int32) (f_s2 : Nat → Int32) (f_p2 : Nat → Int32) (f_w2 : Nat → Int32) (f_bb2 : Nat → Int64) (h_e_tl : 0 ≤ e_tl.toInt ∧ e_tl.toInt ≤ 400) (h_e_wn : 0 ≤ e_wn.toInt ∧ e_wn.toInt ≤ 1) (h_e_g : 0 ≤ e_g.toInt ∧ e_g.toInt ≤ 6) (h_e_b : 0 ≤ e_b.toInt ∧ e_b.toInt ≤ 5) (h_e_s : 0 ≤ e_s.toInt ∧ e_s.toInt ≤ 10) (h_e_p : 0 ≤ e_p.toInt ∧ e_p.toInt ≤ 8) (h_e_w : 0 ≤ e_w.toInt ∧ e_w.toInt ≤ 6) (h_e_g2 : 0 ≤ e_g2.toInt ∧ e_g2.toInt ≤ 6) (h_e_b2 : 0 ≤ e_b2.toInt ∧ e_b2.toInt ≤ 5) (h_e_s2 : 0 ≤ e_s2.toInt ∧ e_s2.toInt ≤ 10) (h_e_p2 : 0 ≤ e_p2.toInt ∧ e_p2.toInt ≤ 8) (h_e_w2 : 0 ≤ e_w2.toInt ∧ e_w2.toInt ≤ 6) : Met l yX11_image (wsG yX11_image cX11_image 2 (some .int)) ({ frames := 3, cells := 0, slots := 0, locals := 103 }) (va_Pc [.ref a_o, .int 0] (g5_PL G f_l [(a_o, (oc11 a_h a_im a_ke a_k a_wa a_th a_ha a_wk a_r a_x e_tl e_fd e_fpl a_wd e_wn a_rf e_lr)), (a_rf, (arI G 5 f_rf)), (a_im, (arH G 2 (va_up (va_up (fun _ => none) 0 (some a_h2)) 1 (some a_h3)))), (a_ke, (arZ G 2 f_ke)), (a_h, (oc1 e_wa e_le e_st e_fo e_lc a_l a_g a_b a_s a_p a_w e_gb a_bb)), (a_l, (arW G 6 f_l)), (a_g, (oc6 6 5 a_gn e_g)), (a_gn, (arI G 30 f_g)), (a_b, (oc6 5 24 a_bn e_b)), (a_bn, (arI G 120 f_b)), (a_s, (oc6 10 4 a_sn e_s)), (a_sn, (arI G 40 f_s)), (a_p, (oc6 8 5 a_pn e_p)), (a_pn, (arI G 40 f_p)), (a_w, (oc6 6 6 a_wn e_w)), (a_wn, (arI G 36 f_w)), (a_bb, (arJ G 24 f_bb)), (a_h2, (oc1 e_wa2 e_le2 e_st2 e_fo2 e_lc2 a_l2 a_g2 a_b2 a_s2 a_p2 a_w2 e_gb2 a_bb2)), (a_l2, (arW G 6 f_l2)), (a_g2, (oc6 6 5 a_gn2 e_g2)), (a_gn2, (arI G 30 f_g2)), (a_b2, (oc6 5 24 a_bn2 e_b2)), (a_bn2, (arI G 120 f_b2)), (a_s2, (oc6 10 4 a_sn2 e_s2)), (a_sn2, (arI G 40 f_s2)), (a_p2, (oc6 8 5 a_pn2 e_p2)), (a_pn2, (arI G 40 f_p2)), (a_w2, (oc6 6 6 a_wn2 e_w2)), (a_wn2, (arI G 36 f_w2)), (a_bb2, (arJ G 24 f_bb2))] sz)) (va_Qi (fun (r : Int32) (u : va_W) => (∃ (o_l : Nat → Option Nat), (∀ j : Nat, j < 6 → o_l j = f_l j) ∧ (r = 0) ∧ (u = [(a_o, (oc11 a_h a_im a_ke a_k a_wa a_th a_ha a_wk a_r a_x e_tl e_fd e_fpl a_wd e_wn a_rf 0)), (a_rf, (arI G 5 f_rf)), (a_im, (arH G 2 (va_up (va_up (fun _ => none) 0 (some a_h2)) 1 (some a_h3)))), (a_ke, (arZ G 2 (upd f_ke 0 1))), (a_h, (oc1 e_wa e_le e_st e_fo e_lc a_l a_g a_b a_s a_p a_w e_gb a_bb)), (a_l, (arW G 6 f_l)), (a_g, (oc6 6 5 a_gn e_g)), (a_gn, (arI G 30 f_g)), (a_b, (oc6 5 24 a_bn e_b)), (a_bn, (arI G 120 f_b)), (a_s, (oc6 10 4 a_sn e_s)), (a_sn, (arI G 40 f_s)), (a_p, (oc6 8 5 a_pn e_p)), (a_pn, (arI G 40 f_p)), (a_w, (oc6 6 6 a_wn e_w)), (a_wn, (arI G 36 f_w)), (a_bb, (arJ G 24 f_bb)), (a_h2, (oc1 e_wa e_le e_st e_fo e_lc a_l2 a_g2 a_b2 a_s2 a_p2 a_w2 e_gb a_bb2)), (a_l2, (arW G 6 o_l)), (a_g2, (oc6 6 5 a_gn2 e_g)), (a_gn2, (arI G 30 (va_cpy f_g f_g2 0 0 30))), (a_b2, (oc6 5 24 a_bn2 e_b)), (a_bn2, (arI G 120 (va_cpy f_b f_b2 0 0 120))), (a_s2, (oc6 10 4 a_sn2 e_s)), (a_sn2, (arI G 40 (va_cpy f_s f_s2 0 0 40))), (a_p2, (oc6 8 5 a_pn2 e_p)), (a_pn2, (arI G 40 (va_cpy f_p f_p2 0 0 40))), (a_w2, (oc6 6 6 a_wn2 e_w)), (a_wn2, (arI G 36 (va_cpy f_w f_w2 0 0 36))), (a_bb2, (arJ G 24 (va_cpy f_bb f_bb2 0 0 24)))]))) (g5_B G (va_A [(a_o, (oc11 a_h a_im a_ke a_k a_wa a_th a_ha a_wk a_r a_x e_tl e_fd e_fpl a_wd e_wn a_rf e_lr)), (a_rf, (arI G 5 f_rf)), (a_im, (arH G 2 (va_up (va_up (fun _ => none) 0 (some a_h2)) 1 (some a_h3)))), (a_ke, (arZ G 2 f_ke)), (a_h, (oc1 e_wa e_le e_st e_fo e_lc a_l a_g a_b a_s a_p a_w e_gb a_bb)), (a_l, (arW G 6 f_l)), (a_g, (oc6 6 5 a_gn e_g)), (a_gn, (arI G 30 f_g)), (a_b, (oc6 5 24 a_bn e_b)), (a_bn, (arI G 120 f_b)), (a_s, (oc6 10 4 a_sn e_s)), (a_sn, (arI G 40 f_s)), (a_p, (oc6 8 5 a_pn e_p)), (a_pn, (arI G 40 f_p)), (a_w, (oc6 6 6 a_wn e_w)), (a_wn, (arI G 36 f_w)), (a_bb, (arJ G 24 f_bb)), (a_h2, (oc1 e_wa2 e_le2 e_st2 e_fo2 e_lc2 a_l2 a_g2 a_b2 a_s2 a_p2 a_w2 e_gb2 a_bb2)), (a_l2, (arW G 6 f_l2)), (a_g2, (oc6 6 5 a_gn2 e_g2)), (a_gn2, (arI G 30 f_g2)), (a_b2, (oc6 5 24 a_bn2 e_b2)), (a_bn2, (arI G 120 f_b2)), (a_s2, (oc6 10 4 a_sn2 e_s2)), (a_sn2, (arI G 40 f_s2)), (a_p2, (oc6 8 5 a_pn2 e_p2)), (a_pn2, (arI G 40 f_p2)), (a_w2, (oc6 6 6 a_wn2 e_w2)), (a_wn2, (arI G 36 f_w2)), (a_bb2, (arJ G 24 f_bb2))] sz)) (va_A [(a_o, (oc11 a_h a_im a_ke a_k a_wa a_th a_ha a_wk a_r a_x e_tl e_fd e_fpl a_wd e_wn a_rf e_lr)), (a_rf, (arI G 5 f_rf)), (a_im, (arH G 2 (va_up (va_up (fun _ => none) 0 (some a_h2)) 1 (some a_h3)))), (a_ke, (arZ G 2 f_ke)), (a_h, (oc1 e_wa e_le e_st e_fo e_lc a_l a_g a_b a_s a_p a_w e_gb a_bb)), (a_l, (arW G 6 f_l)), (a_g, (oc6 6 5 a_gn e_g)), (a_gn, (arI G 30 f_g)), (a_b, (oc6 5 24 a_bn e_b)), (a_bn, (arI G 120 f_b)), (a_s, (oc6 10 4 a_sn e_s)), (a_sn, (arI G 40 f_s)), (a_p, (oc6 8 5 a_pn e_p)), (a_pn, (arI G 40 f_p)), (a_w, (oc6 6 6 a_wn e_w)), (a_wn, (arI G 36 f_w)), (a_bb, (arJ G 24 f_bb)), (a_h2, (oc1 e_wa2 e_le2 e_st2 e_fo2 e_lc2 a_l2 a_g2 a_b2 a_s2 a_p2 a_w2 e_gb2 a_bb2)), (a_l2, (arW G 6 f_l2)), (a_g2, (oc6 6 5 a_gn2 e_g2)), (a_gn2, (arI G 30 f_g2)), (a_b2, (oc6 5 24 a_bn2 e_b2)), (a_bn2, (arI G 120 f_b2)), (a_s2, (oc6 10 4 a_sn2 e_s2)), (a_sn2, (arI G 40 f_s2)), (a_p2, (oc6 8 5 a_pn2 e_p2)), (a_pn2, (arI G 40 f_p2)), (a_w2, (oc6 6 6 a_wn2 e_w2)), (a_wn2, (arI G 36 f_w2)), (a_bb2, (arJ G 24 f_bb2))] sz)) 0 0 (va_A [(a_o, (oc11 a_h a_im a_ke a_k a_wa a_th a_ha a_wk a_r a_x e_tl e_fd e_fpl a_wd e_wn a_rf e_lr)), (a_rf, (arI G 5 f_rf)), (a_im, (arH G 2 (va_up (va_up (fun _ => none) 0 (some a_h2)) 1 (some a_h3)))), (a_ke, (arZ G 2 f_ke)), (a_h, (oc1 e_wa e_le e_st e_fo e_lc a_l a_g a_b a_s a_p a_w e_gb a_bb)), (a_l, (arW G 6 f_l)), (a_g, (oc6 6 5 a_gn e_g)), (a_gn, (arI G 30 f_g)), (a_b, (oc6 5 24 a_bn e_b)), (a_bn, (arI G 120 f_b)), (a_s, (oc6 10 4 a_sn e_s)), (a_sn, (arI G 40 f_s)), (a_p, (oc6 8 5 a_pn e_p)), (a_pn, (arI G 40 f_p)), (a_w, (oc6 6 6 a_wn e_w)), (a_wn, (arI G 36 f_w)), (a_bb, (arJ G 24 f_bb)), (a_h2, (oc1 e_wa2 e_le2 e_st2 e_fo2 e_lc2 a_l2 a_g2 a_b2 a_s2 a_p2 a_w2 e_gb2 a_bb2)), (a_l2, (arW G 6 f_l2)), (a_g2, (oc6 6 5 a_gn2 e_g2)), (a_gn2, (arI G 30 f_g2)), (a_b2, (oc6 5 24 a_bn2 e_b2)), (a_bn2, (arI G 120 f_b2)), (a_s2, (oc6 10 4 a_sn2 e_s2)), (a_sn2, (arI G 40 f_s2)), (a_p2, (oc6 8 5 a_pn2 e_p2)), (a_pn2, (arI G 40 f_p2)), (a_w2, (oc6 6 6 a_wn2 e_w2)), (a_wn2, (arI G 36 f_w2)), (a_bb2, (arJ G 24 f_bb2))] sz) := by
  refine Met.ofW (cc := cX11_image) (maxL := 2) (ret := (some .int)) (by decide) rfl ?_
  intro p e s m args below meth c s₁ B hml hv
  obtain ⟨rfl, ⟨hsz, hP, hK, hD0, hN, hT⟩, hLA⟩ := hv
  have hx := B.exec
  have hb := B.bytes
  have hr := B.returns
  have hts : ∀ w ∈ tblG, w.before _ s = true := fun w h => atoms_spec (ws := (wsG yX11_image cX11_image 2 (some .int))) B.pre w (List.mem_cons_of_mem _ h)
  have hown : s.vm.findClass RX11 = some m.cls := findClass_of_methodNamed B.named
  have hlocks := B.notSynchronized
  subst hsz
  have hD := hD0.self (sz := s.heap.size)
  generalize hAe : va_A [(a_o, (oc11 a_h a_im a_ke a_k a_wa a_th a_ha a_wk a_r a_x e_tl e_fd e_fpl a_wd e_wn a_rf e_lr)), (a_rf, (arI G 5 f_rf)), (a_im, (arH G 2 (va_up (va_up (fun _ => none) 0 (some a_h2)) 1 (some a_h3)))), (a_ke, (arZ G 2 f_ke)), (a_h, (oc1 e_wa e_le e_st e_fo e_lc a_l a_g a_b a_s a_p a_w e_gb a_bb)), (a_l, (arW G 6 f_l)), (a_g, (oc6 6 5 a_gn e_g)), (a_gn, (arI G 30 f_g)), (a_b, (oc6 5 24 a_bn e_b)), (a_bn, (arI G 120 f_b)), (a_s, (oc6 10 4 a_sn e_s)), (a_sn, (arI G 40 f_s)), (a_p, (oc6 8 5 a_pn e_p)), (a_pn, (arI G 40 f_p)), (a_w, (oc6 6 6 a_wn e_w)), (a_wn, (arI G 36 f_w)), (a_bb, (arJ G 24 f_bb)), (a_h2, (oc1 e_wa2 e_le2 e_st2 e_fo2 e_lc2 a_l2 a_g2 a_b2 a_s2 a_p2 a_w2 e_gb2 a_bb2)), (a_l2, (arW G 6 f_l2)), (a_g2, (oc6 6 5 a_gn2 e_g2)), (a_gn2, (arI G 30 f_g2)), (a_b2, (oc6 5 24 a_bn2 e_b2)), (a_bn2, (arI G 120 f_b2)), (a_s2, (oc6 10 4 a_sn2 e_s2)), (a_sn2, (arI G 40 f_s2)), (a_p2, (oc6 8 5 a_pn2 e_p2)), (a_pn2, (arI G 40 f_p2)), (a_w2, (oc6 6 6 a_wn2 e_w2)), (a_wn2, (arI G 36 f_w2)), (a_bb2, (arJ G 24 f_bb2))] s.heap.size = A at hD hT hLA ⊢
  have hA : ∀ q : Nat, s.heap.size ≤ q → A q := fun q h => by rw [← hAe]; exact Or.inr h
  have hS : va_S A s.heap s.heap [] := va_S.rf
  have hP : va_P G.1 vwCl [(a_o, (oc11 a_h a_im a_ke a_k a_wa a_th a_ha a_wk a_r a_x e_tl e_fd e_fpl a_wd e_wn a_rf e_lr)), (a_rf, (arI G 5 f_rf)), (a_im, (arH G 2 (va_up (va_up (fun _ => none) 0 (some a_h2)) 1 (some a_h3)))), (a_ke, (arZ G 2 f_ke)), (a_h, (oc1 e_wa e_le e_st e_fo e_lc a_l a_g a_b a_s a_p a_w e_gb a_bb)), (a_l, (arW G 6 f_l)), (a_g, (oc6 6 5 a_gn e_g)), (a_gn, (arI G 30 f_g)), (a_b, (oc6 5 24 a_bn e_b)), (a_bn, (arI G 120 f_b)), (a_s, (oc6 10 4 a_sn e_s)), (a_sn, (arI G 40 f_s)), (a_p, (oc6 8 5 a_pn e_p)), (a_pn, (arI G 40 f_p)), (a_w, (oc6 6 6 a_wn e_w)), (a_wn, (arI G 36 f_w)), (a_bb, (arJ G 24 f_bb)), (a_h2, (oc1 e_wa2 e_le2 e_st2 e_fo2 e_lc2 a_l2 a_g2 a_b2 a_s2 a_p2 a_w2 e_gb2 a_bb2)), (a_l2, (arW G 6 f_l2)), (a_g2, (oc6 6 5 a_gn2 e_g2)), (a_gn2, (arI G 30 f_g2)), (a_b2, (oc6 5 24 a_bn2 e_b2)), (a_bn2, (arI G 120 f_b2)), (a_s2, (oc6 10 4 a_sn2 e_s2)), (a_sn2, (arI G 40 f_s2)), (a_p2, (oc6 8 5 a_pn2 e_p2)), (a_pn2, (arI G 40 f_p2)), (a_w2, (oc6 6 6 a_wn2 e_w2)), (a_wn2, (arI G 36 f_w2)), (a_bb2, (arJ G 24 f_bb2))] s.heap := hP
  have hl := lv_entry ([.ref a_o, .int 0]) (n := 2) (Nat.le_of_ble_eq_true rfl)
  rw [lg_entry_eq]
  generalize (lg_sl ([.ref a_o, .int 0]) ++ List.replicate (2 - (lg_sl ([.ref a_o, .int 0])).length) Slot.unset).toArray = ls at hl ⊢
  have hl : lv_has ls 2 [(0, .ref a_o), (1, .int 0)] := hl
  have zc9 : (0 : Int32).toInt = 0 := (by decide)
  refine lv_iload_n hx hb dX11_image_0 rfl (lv_at hl 1 rfl) ?_
  obtain ⟨hPc, hDc, hFc⟩ := g5_sub3 (wc := []) hP hD hS hA [] (by decide) rfl
  refine va_calli (va_runS (As := [.int 0]) (rest := []) ⟨hx, hb, hml, hown, hts⟩ (x_isImage l G s.heap.size 0) (va_cwS 1 hts gS_X11_351 rfl rfl rfl hs_X11_isImage ⟨Nat.le_of_ble_eq_true rfl, Nat.le_of_ble_eq_true rfl⟩) (g5_preS hPc hK hDc hN hT hS hFc) rfl rfl hl.1 rfl (lv_room (Nat.le_of_ble_eq_true rfl)) dX11_image_1 ⟨Nat.le_of_ble_eq_true rfl, Nat.le_of_ble_eq_true rfl⟩) hS (fun q _ h => hFc q h) hFc (fun r u t H1 locs ht hvm hw hB hz1 hk1 hS => ?_)
  obtain ⟨hP1, hD1⟩ := hB
  rw [ht] at hP1
  rcases hw with ⟨i_1, rfl, rfl⟩ | ⟨i_2, rfl, rfl⟩
  ·
    have i_1 : 0 ≤ (0 : Int32).toInt ∧ (0 : Int32).toInt ≤ 1 := i_1
    have hP := g5_same hP hk1
    generalize H1 = H at hP hS ⊢
    refine lv_if_ne (tgt := 13) hx hb dX11_image_4 (by decide) (fun c_3 => ?_) (fun c_3 => ?_)
    ·
      refine lv_aload_n hx hb dX11_image_13 rfl (lv_at hl 0 rfl) ?_
      refine va_get (D := G.1) (ci := 11) (v := .ref a_im) (C := RX11) (T := TX11) (N := 17) hx hb hts inG_X11 hown hK hP 0 rfl rfl 1 (by decide) (hts _ fl_X11_16) (fun _ h9 => h9) rfl dX11_image_14 ?_
      refine lv_iload_n hx hb dX11_image_17 rfl (lv_at hl 1 rfl) ?_
      refine va_aldq hx hb hK hP 2 3 rfl rfl (i := 0) (by unfold vp_in; decide) dX11_image_18 ?_
      refine g5_tv (v := .ref a_h2) rfl ?_
      refine lv_aload_n hx hb dX11_image_19 rfl (lv_at hl 0 rfl) ?_
      refine va_get (D := G.1) (ci := 11) (v := .ref a_h) (C := RX11) (T := TX11) (N := 17) hx hb hts inG_X11 hown hK hP 0 rfl rfl 0 (by decide) (hts _ fl_X11_12) (fun _ h9 => h9) rfl dX11_image_20 ?_
      obtain ⟨hPc, hDc, hFc⟩ := g5_sub3 (wc := [(a_h2, (oc1 e_wa2 e_le2 e_st2 e_fo2 e_lc2 a_l2 a_g2 a_b2 a_s2 a_p2 a_w2 e_gb2 a_bb2)), (a_l2, (arW G 6 f_l2)), (a_g2, (oc6 6 5 a_gn2 e_g2)), (a_gn2, (arI G 30 f_g2)), (a_b2, (oc6 5 24 a_bn2 e_b2)), (a_bn2, (arI G 120 f_b2)), (a_s2, (oc6 10 4 a_sn2 e_s2)), (a_sn2, (arI G 40 f_s2)), (a_p2, (oc6 8 5 a_pn2 e_p2)), (a_pn2, (arI G 40 f_p2)), (a_w2, (oc6 6 6 a_wn2 e_w2)), (a_wn2, (arI G 36 f_w2)), (a_bb2, (arJ G 24 f_bb2)), (a_h, (oc1 e_wa e_le e_st e_fo e_lc a_l a_g a_b a_s a_p a_w e_gb a_bb)), (a_l, (arW G 6 f_l)), (a_g, (oc6 6 5 a_gn e_g)), (a_gn, (arI G 30 f_g)), (a_b, (oc6 5 24 a_bn e_b)), (a_bn, (arI G 120 f_b)), (a_s, (oc6 10 4 a_sn e_s)), (a_sn, (arI G 40 f_s)), (a_p, (oc6 8 5 a_pn e_p)), (a_pn, (arI G 40 f_p)), (a_w, (oc6 6 6 a_wn e_w)), (a_wn, (arI G 36 f_w)), (a_bb, (arJ G 24 f_bb))]) hP hD hS hA [17, 18, 19, 20, 21, 22, 23, 24, 25, 26, 27, 28, 29, 4, 5, 6, 7, 8, 9, 10, 11, 12, 13, 14, 15, 16] (by decide) rfl
      refine va_callv (va_runV (As := [.ref a_h]) (rest := []) ⟨hx, hb, hml, hown, hts⟩ (h_copyFrom l G a_h2 a_l2 a_g2 a_gn2 a_b2 a_bn2 a_s2 a_sn2 a_p2 a_pn2 a_w2 a_wn2 a_bb2 a_h a_l a_g a_gn a_b a_bn a_s a_sn a_p a_pn a_w a_wn a_bb H.size e_le2 e_st2 e_fo2 e_lc2 e_g2 e_b2 e_s2 e_p2 e_w2 e_le e_st e_fo e_lc e_g e_b e_s e_p e_w e_wa2 e_gb2 e_wa e_gb f_l2 f_g2 f_b2 f_s2 f_p2 f_w2 f_bb2 f_l f_g f_b f_s f_p f_w f_bb h_e_g2 h_e_b2 h_e_s2 h_e_p2 h_e_w2 h_e_g h_e_b h_e_s h_e_p h_e_w) (cwV 1 hts gV_X11_354 rfl rfl rfl hv_X1_copyFrom ⟨Nat.le_of_ble_eq_true rfl, Nat.le_of_ble_eq_true rfl⟩) (g5_preVL hPc hK hDc hN hT hS hFc hLA (ci := 1) (q0 := 0) rfl rfl) rfl rfl hl.1 rfl (lv_room (Nat.le_of_ble_eq_true rfl)) dX11_image_23 ⟨Nat.le_of_ble_eq_true rfl, Nat.le_of_ble_eq_true rfl⟩) hS (fun q _ h => hFc q h) hFc (fun u t H1 locs ht hvm hw hB hz1 hk1 hS => ?_)
      obtain ⟨hP1, hD1⟩ := hB
      rw [ht] at hP1
      obtain ⟨z5, i_4, rfl⟩ := hw
      have i_4 : ∀ j : Nat, j < 6 → z5 j = f_l j := i_4
      obtain ⟨hP, hD⟩ := va_join (wr := [(a_o, (oc11 a_h a_im a_ke a_k a_wa a_th a_ha a_wk a_r a_x e_tl e_fd e_fpl a_wd e_wn a_rf e_lr)), (a_rf, (arI G 5 f_rf)), (a_im, (arH G 2 (va_up (va_up (fun _ => none) 0 (some a_h2)) 1 (some a_h3)))), (a_ke, (arZ G 2 f_ke))]) hP hD [17, 18, 19, 20, 21, 22, 23, 24, 25, 26, 27, 28, 29, 4, 5, 6, 7, 8, 9, 10, 11, 12, 13, 14, 15, 16] [0, 1, 2, 3] rfl rfl (by decide) (by decide) hk1 hFc hP1 hD1
      generalize H1 = H at hP hS ⊢
      refine g5_rs [(a_o, (oc11 a_h a_im a_ke a_k a_wa a_th a_ha a_wk a_r a_x e_tl e_fd e_fpl a_wd e_wn a_rf e_lr)), (a_rf, (arI G 5 f_rf)), (a_im, (arH G 2 (va_up (va_up (fun _ => none) 0 (some a_h2)) 1 (some a_h3)))), (a_ke, (arZ G 2 f_ke)), (a_h2, (oc1 e_wa e_le e_st e_fo e_lc a_l2 a_g2 a_b2 a_s2 a_p2 a_w2 e_gb a_bb2)), (a_l2, (arW G 6 z5)), (a_g2, (oc6 6 5 a_gn2 e_g)), (a_gn2, (arI G 30 (va_cpy f_g f_g2 0 0 30))), (a_b2, (oc6 5 24 a_bn2 e_b)), (a_bn2, (arI G 120 (va_cpy f_b f_b2 0 0 120))), (a_s2, (oc6 10 4 a_sn2 e_s)), (a_sn2, (arI G 40 (va_cpy f_s f_s2 0 0 40))), (a_p2, (oc6 8 5 a_pn2 e_p)), (a_pn2, (arI G 40 (va_cpy f_p f_p2 0 0 40))), (a_w2, (oc6 6 6 a_wn2 e_w)), (a_wn2, (arI G 36 (va_cpy f_w f_w2 0 0 36))), (a_bb2, (arJ G 24 (va_cpy f_bb f_bb2 0 0 24))), (a_h, (oc1 e_wa e_le e_st e_fo e_lc a_l a_g a_b a_s a_p a_w e_gb a_bb)), (a_l, (arW G 6 f_l)), (a_g, (oc6 6 5 a_gn e_g)), (a_gn, (arI G 30 f_g)), (a_b, (oc6 5 24 a_bn e_b)), (a_bn, (arI G 120 f_b)), (a_s, (oc6 10 4 a_sn e_s)), (a_sn, (arI G 40 f_s)), (a_p, (oc6 8 5 a_pn e_p)), (a_pn, (arI G 40 f_p)), (a_w, (oc6 6 6 a_wn e_w)), (a_wn, (arI G 36 f_w)), (a_bb, (arJ G 24 f_bb))] hP hD (fun hP hD => ?_)
      refine lv_aload_n hx hb dX11_image_26 rfl (lv_at hl 0 rfl) ?_
      refine va_get (D := G.1) (ci := 11) (v := .ref a_ke) (C := RX11) (T := TX11) (N := 17) hx hb hts inG_X11 hown hK hP 0 rfl rfl 2 (by decide) (hts _ fl_X11_20) (fun _ h9 => h9) rfl dX11_image_27 ?_
      refine lv_iload_n hx hb dX11_image_30 rfl (lv_at hl 1 rfl) ?_
      refine lv_iconst (v := 1) hx hb dX11_image_31 (by decide) ?_
      refine va_zast hx hb hK hP hD hS 3 2 rfl rfl (i := 0) (x := 1) (by unfold vp_in; decide) dX11_image_32 (fun H locs hP hD hS => ?_)
      refine g5_rs [(a_o, (oc11 a_h a_im a_ke a_k a_wa a_th a_ha a_wk a_r a_x e_tl e_fd e_fpl a_wd e_wn a_rf e_lr)), (a_rf, (arI G 5 f_rf)), (a_im, (arH G 2 (va_up (va_up (fun _ => none) 0 (some a_h2)) 1 (some a_h3)))), (a_ke, (arZ G 2 (upd f_ke 0 1))), (a_h2, (oc1 e_wa e_le e_st e_fo e_lc a_l2 a_g2 a_b2 a_s2 a_p2 a_w2 e_gb a_bb2)), (a_l2, (arW G 6 z5)), (a_g2, (oc6 6 5 a_gn2 e_g)), (a_gn2, (arI G 30 (va_cpy f_g f_g2 0 0 30))), (a_b2, (oc6 5 24 a_bn2 e_b)), (a_bn2, (arI G 120 (va_cpy f_b f_b2 0 0 120))), (a_s2, (oc6 10 4 a_sn2 e_s)), (a_sn2, (arI G 40 (va_cpy f_s f_s2 0 0 40))), (a_p2, (oc6 8 5 a_pn2 e_p)), (a_pn2, (arI G 40 (va_cpy f_p f_p2 0 0 40))), (a_w2, (oc6 6 6 a_wn2 e_w)), (a_wn2, (arI G 36 (va_cpy f_w f_w2 0 0 36))), (a_bb2, (arJ G 24 (va_cpy f_bb f_bb2 0 0 24))), (a_h, (oc1 e_wa e_le e_st e_fo e_lc a_l a_g a_b a_s a_p a_w e_gb a_bb)), (a_l, (arW G 6 f_l)), (a_g, (oc6 6 5 a_gn e_g)), (a_gn, (arI G 30 f_g)), (a_b, (oc6 5 24 a_bn e_b)), (a_bn, (arI G 120 f_b)), (a_s, (oc6 10 4 a_sn e_s)), (a_sn, (arI G 40 f_s)), (a_p, (oc6 8 5 a_pn e_p)), (a_pn, (arI G 40 f_p)), (a_w, (oc6 6 6 a_wn e_w)), (a_wn, (arI G 36 f_w)), (a_bb, (arJ G 24 f_bb))] hP hD (fun hP hD => ?_)
      refine lv_aload_n hx hb dX11_image_33 rfl (lv_at hl 0 rfl) ?_
      refine lv_iconst (v := 0) hx hb dX11_image_34 (by decide) ?_
      obtain ⟨hPc, hDc, hFc⟩ := g5_sub3 (wc := [(a_o, (oc11 a_h a_im a_ke a_k a_wa a_th a_ha a_wk a_r a_x e_tl e_fd e_fpl a_wd e_wn a_rf e_lr))]) hP hD hS hA [0] (by decide) rfl
      refine va_calli (va_runV (As := [.int 0]) (rest := []) ⟨hx, hb, hml, hown, hts⟩ (x_done l G a_o a_h a_im a_ke a_k a_wa a_th a_ha a_wk a_r a_x a_wd a_rf H.size e_tl e_fd e_fpl e_wn e_lr 0 h_e_tl h_e_wn) (cwV 1 hts gV_X11_121 rfl rfl rfl hv_X11_done ⟨Nat.le_of_ble_eq_true rfl, Nat.le_of_ble_eq_true rfl⟩) (g5_preV hPc hK hDc hN hT hS hFc (ci := 11) (q0 := 0) rfl rfl) rfl rfl hl.1 rfl (lv_room (Nat.le_of_ble_eq_true rfl)) dX11_image_35 ⟨Nat.le_of_ble_eq_true rfl, Nat.le_of_ble_eq_true rfl⟩) hS (fun q _ h => hFc q h) hFc (fun r u t H1 locs ht hvm hw hB hz1 hk1 hS => ?_)
      obtain ⟨hP1, hD1⟩ := hB
      rw [ht] at hP1
      obtain ⟨rfl, rfl⟩ := hw
      obtain ⟨hP, hD⟩ := va_join (wr := [(a_rf, (arI G 5 f_rf)), (a_im, (arH G 2 (va_up (va_up (fun _ => none) 0 (some a_h2)) 1 (some a_h3)))), (a_ke, (arZ G 2 (upd f_ke 0 1))), (a_h2, (oc1 e_wa e_le e_st e_fo e_lc a_l2 a_g2 a_b2 a_s2 a_p2 a_w2 e_gb a_bb2)), (a_l2, (arW G 6 z5)), (a_g2, (oc6 6 5 a_gn2 e_g)), (a_gn2, (arI G 30 (va_cpy f_g f_g2 0 0 30))), (a_b2, (oc6 5 24 a_bn2 e_b)), (a_bn2, (arI G 120 (va_cpy f_b f_b2 0 0 120))), (a_s2, (oc6 10 4 a_sn2 e_s)), (a_sn2, (arI G 40 (va_cpy f_s f_s2 0 0 40))), (a_p2, (oc6 8 5 a_pn2 e_p)), (a_pn2, (arI G 40 (va_cpy f_p f_p2 0 0 40))), (a_w2, (oc6 6 6 a_wn2 e_w)), (a_wn2, (arI G 36 (va_cpy f_w f_w2 0 0 36))), (a_bb2, (arJ G 24 (va_cpy f_bb f_bb2 0 0 24))), (a_h, (oc1 e_wa e_le e_st e_fo e_lc a_l a_g a_b a_s a_p a_w e_gb a_bb)), (a_l, (arW G 6 f_l)), (a_g, (oc6 6 5 a_gn e_g)), (a_gn, (arI G 30 f_g)), (a_b, (oc6 5 24 a_bn e_b)), (a_bn, (arI G 120 f_b)), (a_s, (oc6 10 4 a_sn e_s)), (a_sn, (arI G 40 f_s)), (a_p, (oc6 8 5 a_pn e_p)), (a_pn, (arI G 40 f_p)), (a_w, (oc6 6 6 a_wn e_w)), (a_wn, (arI G 36 f_w)), (a_bb, (arJ G 24 f_bb))]) hP hD [0] [1, 2, 3, 4, 5, 6, 7, 8, 9, 10, 11, 12, 13, 14, 15, 16, 17, 18, 19, 20, 21, 22, 23, 24, 25, 26, 27, 28, 29] rfl rfl (by decide) (by decide) hk1 hFc hP1 hD1
      generalize H1 = H at hP hS ⊢
      refine g5_rs [(a_rf, (arI G 5 f_rf)), (a_im, (arH G 2 (va_up (va_up (fun _ => none) 0 (some a_h2)) 1 (some a_h3)))), (a_ke, (arZ G 2 (upd f_ke 0 1))), (a_h2, (oc1 e_wa e_le e_st e_fo e_lc a_l2 a_g2 a_b2 a_s2 a_p2 a_w2 e_gb a_bb2)), (a_l2, (arW G 6 z5)), (a_g2, (oc6 6 5 a_gn2 e_g)), (a_gn2, (arI G 30 (va_cpy f_g f_g2 0 0 30))), (a_b2, (oc6 5 24 a_bn2 e_b)), (a_bn2, (arI G 120 (va_cpy f_b f_b2 0 0 120))), (a_s2, (oc6 10 4 a_sn2 e_s)), (a_sn2, (arI G 40 (va_cpy f_s f_s2 0 0 40))), (a_p2, (oc6 8 5 a_pn2 e_p)), (a_pn2, (arI G 40 (va_cpy f_p f_p2 0 0 40))), (a_w2, (oc6 6 6 a_wn2 e_w)), (a_wn2, (arI G 36 (va_cpy f_w f_w2 0 0 36))), (a_bb2, (arJ G 24 (va_cpy f_bb f_bb2 0 0 24))), (a_h, (oc1 e_wa e_le e_st e_fo e_lc a_l a_g a_b a_s a_p a_w e_gb a_bb)), (a_l, (arW G 6 f_l)), (a_g, (oc6 6 5 a_gn e_g)), (a_gn, (arI G 30 f_g)), (a_b, (oc6 5 24 a_bn e_b)), (a_bn, (arI G 120 f_b)), (a_s, (oc6 10 4 a_sn e_s)), (a_sn, (arI G 40 f_s)), (a_p, (oc6 8 5 a_pn e_p)), (a_pn, (arI G 40 f_p)), (a_w, (oc6 6 6 a_wn e_w)), (a_wn, (arI G 36 f_w)), (a_bb, (arJ G 24 f_bb)), (a_o, (oc11 a_h a_im a_ke a_k a_wa a_th a_ha a_wk a_r a_x e_tl e_fd e_fpl a_wd e_wn a_rf 0))] hP hD (fun hP hD => ?_)
      exact W.iret (v := 0) hx hb hr (fun t ht hW => ⟨⟨0, [(a_o, (oc11 a_h a_im a_ke a_k a_wa a_th a_ha a_wk a_r a_x e_tl e_fd e_fpl a_wd e_wn a_rf 0)), (a_rf, (arI G 5 f_rf)), (a_im, (arH G 2 (va_up (va_up (fun _ => none) 0 (some a_h2)) 1 (some a_h3)))), (a_ke, (arZ G 2 (upd f_ke 0 1))), (a_h, (oc1 e_wa e_le e_st e_fo e_lc a_l a_g a_b a_s a_p a_w e_gb a_bb)), (a_l, (arW G 6 f_l)), (a_g, (oc6 6 5 a_gn e_g)), (a_gn, (arI G 30 f_g)), (a_b, (oc6 5 24 a_bn e_b)), (a_bn, (arI G 120 f_b)), (a_s, (oc6 10 4 a_sn e_s)), (a_sn, (arI G 40 f_s)), (a_p, (oc6 8 5 a_pn e_p)), (a_pn, (arI G 40 f_p)), (a_w, (oc6 6 6 a_wn e_w)), (a_wn, (arI G 36 f_w)), (a_bb, (arJ G 24 f_bb)), (a_h2, (oc1 e_wa e_le e_st e_fo e_lc a_l2 a_g2 a_b2 a_s2 a_p2 a_w2 e_gb a_bb2)), (a_l2, (arW G 6 z5)), (a_g2, (oc6 6 5 a_gn2 e_g)), (a_gn2, (arI G 30 (va_cpy f_g f_g2 0 0 30))), (a_b2, (oc6 5 24 a_bn2 e_b)), (a_bn2, (arI G 120 (va_cpy f_b f_b2 0 0 120))), (a_s2, (oc6 10 4 a_sn2 e_s)), (a_sn2, (arI G 40 (va_cpy f_s f_s2 0 0 40))), (a_p2, (oc6 8 5 a_pn2 e_p)), (a_pn2, (arI G 40 (va_cpy f_p f_p2 0 0 40))), (a_w2, (oc6 6 6 a_wn2 e_w)), (a_wn2, (arI G 36 (va_cpy f_w f_w2 0 0 36))), (a_bb2, (arJ G 24 (va_cpy f_bb f_bb2 0 0 24)))], rfl, ⟨z5, i_4, rfl, rfl⟩, by rw [ht]; exact hP.sub [29, 0, 1, 2, 16, 17, 18, 19, 20, 21, 22, 23, 24, 25, 26, 27, 28, 3, 4, 5, 6, 7, 8, 9, 10, 11, 12, 13, 14, 15] rfl, hD.sub [29, 0, 1, 2, 16, 17, 18, 19, 20, 21, 22, 23, 24, 25, 26, 27, 28, 3, 4, 5, 6, 7, 8, 9, 10, 11, 12, 13, 14, 15] (by decide) rfl⟩, hS.F ht⟩) hS.2.2 dX11_image_38
    ·
      exact absurd c_3 (by decide)
  ·
    have i_2 : (0 : Int32).toInt < 0 ∨ 1 < (0 : Int32).toInt := i_2
    have hP := g5_same hP hk1
    generalize H1 = H at hP hS ⊢
    refine lv_if_ne (tgt := 13) hx hb dX11_image_4 (by decide) (fun c_6 => ?_) (fun c_6 => ?_)
    ·
      exact absurd c_6 (by decide)
    ·
      refine lv_aload_n hx hb dX11_image_7 rfl (lv_at hl 0 rfl) ?_
      refine lv_iconst (v := (-1)) hx hb dX11_image_8 (by decide) ?_
      obtain ⟨hPc, hDc, hFc⟩ := g5_sub3 (wc := [(a_o, (oc11 a_h a_im a_ke a_k a_wa a_th a_ha a_wk a_r a_x e_tl e_fd e_fpl a_wd e_wn a_rf e_lr)), (a_rf, (arI G 5 f_rf))]) hP hD hS hA [0, 1] (by decide) rfl
      refine va_calli (va_runV (As := [.int (-1)]) (rest := []) ⟨hx, hb, hml, hown, hts⟩ (x_refuse1 l G a_o a_rf a_h a_im a_ke a_k a_wa a_th a_ha a_wk a_r a_x a_wd H.size e_tl e_fd e_fpl e_wn e_lr f_rf h_e_tl h_e_wn) (cwV 1 hts gV_X11_104 rfl rfl rfl hv_X11_refuse ⟨Nat.le_of_ble_eq_true rfl, Nat.le_of_ble_eq_true rfl⟩) (g5_preV hPc hK hDc hN hT hS hFc (ci := 11) (q0 := 0) rfl rfl) rfl rfl hl.1 rfl (lv_room (Nat.le_of_ble_eq_true rfl)) dX11_image_9 ⟨Nat.le_of_ble_eq_true rfl, Nat.le_of_ble_eq_true rfl⟩) hS (fun q _ h => hFc q h) hFc (fun r u t H1 locs ht hvm hw hB hz1 hk1 hS => ?_)
      obtain ⟨hP1, hD1⟩ := hB
      rw [ht] at hP1
      obtain ⟨z7, rfl, rfl⟩ := hw
      obtain ⟨hP, hD⟩ := va_join (wr := [(a_im, (arH G 2 (va_up (va_up (fun _ => none) 0 (some a_h2)) 1 (some a_h3)))), (a_ke, (arZ G 2 f_ke)), (a_h, (oc1 e_wa e_le e_st e_fo e_lc a_l a_g a_b a_s a_p a_w e_gb a_bb)), (a_l, (arW G 6 f_l)), (a_g, (oc6 6 5 a_gn e_g)), (a_gn, (arI G 30 f_g)), (a_b, (oc6 5 24 a_bn e_b)), (a_bn, (arI G 120 f_b)), (a_s, (oc6 10 4 a_sn e_s)), (a_sn, (arI G 40 f_s)), (a_p, (oc6 8 5 a_pn e_p)), (a_pn, (arI G 40 f_p)), (a_w, (oc6 6 6 a_wn e_w)), (a_wn, (arI G 36 f_w)), (a_bb, (arJ G 24 f_bb)), (a_h2, (oc1 e_wa2 e_le2 e_st2 e_fo2 e_lc2 a_l2 a_g2 a_b2 a_s2 a_p2 a_w2 e_gb2 a_bb2)), (a_l2, (arW G 6 f_l2)), (a_g2, (oc6 6 5 a_gn2 e_g2)), (a_gn2, (arI G 30 f_g2)), (a_b2, (oc6 5 24 a_bn2 e_b2)), (a_bn2, (arI G 120 f_b2)), (a_s2, (oc6 10 4 a_sn2 e_s2)), (a_sn2, (arI G 40 f_s2)), (a_p2, (oc6 8 5 a_pn2 e_p2)), (a_pn2, (arI G 40 f_p2)), (a_w2, (oc6 6 6 a_wn2 e_w2)), (a_wn2, (arI G 36 f_w2)), (a_bb2, (arJ G 24 f_bb2))]) hP hD [0, 1] [2, 3, 4, 5, 6, 7, 8, 9, 10, 11, 12, 13, 14, 15, 16, 17, 18, 19, 20, 21, 22, 23, 24, 25, 26, 27, 28, 29] rfl rfl (by decide) (by decide) hk1 hFc hP1 hD1
      generalize H1 = H at hP hS ⊢
      refine g5_rs [(a_im, (arH G 2 (va_up (va_up (fun _ => none) 0 (some a_h2)) 1 (some a_h3)))), (a_ke, (arZ G 2 f_ke)), (a_h, (oc1 e_wa e_le e_st e_fo e_lc a_l a_g a_b a_s a_p a_w e_gb a_bb)), (a_l, (arW G 6 f_l)), (a_g, (oc6 6 5 a_gn e_g)), (a_gn, (arI G 30 f_g)), (a_b, (oc6 5 24 a_bn e_b)), (a_bn, (arI G 120 f_b)), (a_s, (oc6 10 4 a_sn e_s)), (a_sn, (arI G 40 f_s)), (a_p, (oc6 8 5 a_pn e_p)), (a_pn, (arI G 40 f_p)), (a_w, (oc6 6 6 a_wn e_w)), (a_wn, (arI G 36 f_w)), (a_bb, (arJ G 24 f_bb)), (a_h2, (oc1 e_wa2 e_le2 e_st2 e_fo2 e_lc2 a_l2 a_g2 a_b2 a_s2 a_p2 a_w2 e_gb2 a_bb2)), (a_l2, (arW G 6 f_l2)), (a_g2, (oc6 6 5 a_gn2 e_g2)), (a_gn2, (arI G 30 f_g2)), (a_b2, (oc6 5 24 a_bn2 e_b2)), (a_bn2, (arI G 120 f_b2)), (a_s2, (oc6 10 4 a_sn2 e_s2)), (a_sn2, (arI G 40 f_s2)), (a_p2, (oc6 8 5 a_pn2 e_p2)), (a_pn2, (arI G 40 f_p2)), (a_w2, (oc6 6 6 a_wn2 e_w2)), (a_wn2, (arI G 36 f_w2)), (a_bb2, (arJ G 24 f_bb2)), (a_o, (oc11 a_h a_im a_ke a_k a_wa a_th a_ha a_wk a_r a_x e_tl e_fd e_fpl a_wd e_wn a_rf (-1))), (a_rf, (arI G 5 z7))] hP hD (fun hP hD => ?_)
      exact absurd (show False by omega) (fun h => h)
theorem dgX11_back_0 : ∀ r ∈ ([(0, (.iload_n 1, 1)), (1, (.invokestatic 351, 3)), (4, (.ifCond .ne 9, 3)), (7, (.aload_n 0, 1)), (8, (.iconst (-1), 1)), (9, (.invokevirtual 104, 3)), (12, (.ireturn, 1)), (13, (.aload_n 0, 1)), (14, (.getfield 20, 3)), (17, (.iload_n 1, 1)), (18, (.baload, 1)), (19, (.ifCond .ne 10, 3)), (22, (.aload_n 0, 1)), (23, (.bipush (-2), 2)), (25, (.invokevirtual 104, 3)), (28, (.ireturn, 1)), (29, (.aload_n 0, 1)), (30, (.getfield 12, 3)), (33, (.aload_n 0, 1)), (34, (.getfield 16, 3)), (37, (.iload_n 1, 1)), (38, (.aaload, 1)), (39, (.invokevirtual 354, 3)), (42, (.aload_n 0, 1)), (43, (.iconst 0, 1)), (44, (.invokevirtual 121, 3)), (47, (.ireturn, 1))] : List (Nat × (Instr × Nat))), decode cX11_back r.1 = .ok r.2 := by decide +kernel
theorem dX11_back_0 : decode cX11_back 0 = .ok (.iload_n 1, 1) := dgX11_back_0 (0, (.iload_n 1, 1)) (List.mem_of_getElem? (i := 0) rfl)
theorem dX11_back_1 : decode cX11_back 1 = .ok (.invokestatic 351, 3) := dgX11_back_0 (1, (.invokestatic 351, 3)) (List.mem_of_getElem? (i := 1) rfl)
theorem dX11_back_4 : decode cX11_back 4 = .ok (.ifCond .ne 9, 3) := dgX11_back_0 (4, (.ifCond .ne 9, 3)) (List.mem_of_getElem? (i := 2) rfl)
theorem dX11_back_7 : decode cX11_back 7 = .ok (.aload_n 0, 1) := dgX11_back_0 (7, (.aload_n 0, 1)) (List.mem_of_getElem? (i := 3) rfl)
theorem dX11_back_8 : decode cX11_back 8 = .ok (.iconst (-1), 1) := dgX11_back_0 (8, (.iconst (-1), 1)) (List.mem_of_getElem? (i := 4) rfl)
theorem dX11_back_9 : decode cX11_back 9 = .ok (.invokevirtual 104, 3) := dgX11_back_0 (9, (.invokevirtual 104, 3)) (List.mem_of_getElem? (i := 5) rfl)
theorem dX11_back_12 : decode cX11_back 12 = .ok (.ireturn, 1) := dgX11_back_0 (12, (.ireturn, 1)) (List.mem_of_getElem? (i := 6) rfl)
theorem dX11_back_13 : decode cX11_back 13 = .ok (.aload_n 0, 1) := dgX11_back_0 (13, (.aload_n 0, 1)) (List.mem_of_getElem? (i := 7) rfl)
theorem dX11_back_14 : decode cX11_back 14 = .ok (.getfield 20, 3) := dgX11_back_0 (14, (.getfield 20, 3)) (List.mem_of_getElem? (i := 8) rfl)
theorem dX11_back_17 : decode cX11_back 17 = .ok (.iload_n 1, 1) := dgX11_back_0 (17, (.iload_n 1, 1)) (List.mem_of_getElem? (i := 9) rfl)
theorem dX11_back_18 : decode cX11_back 18 = .ok (.baload, 1) := dgX11_back_0 (18, (.baload, 1)) (List.mem_of_getElem? (i := 10) rfl)
theorem dX11_back_19 : decode cX11_back 19 = .ok (.ifCond .ne 10, 3) := dgX11_back_0 (19, (.ifCond .ne 10, 3)) (List.mem_of_getElem? (i := 11) rfl)
theorem dX11_back_22 : decode cX11_back 22 = .ok (.aload_n 0, 1) := dgX11_back_0 (22, (.aload_n 0, 1)) (List.mem_of_getElem? (i := 12) rfl)
theorem dX11_back_23 : decode cX11_back 23 = .ok (.bipush (-2), 2) := dgX11_back_0 (23, (.bipush (-2), 2)) (List.mem_of_getElem? (i := 13) rfl)
theorem dX11_back_25 : decode cX11_back 25 = .ok (.invokevirtual 104, 3) := dgX11_back_0 (25, (.invokevirtual 104, 3)) (List.mem_of_getElem? (i := 14) rfl)
theorem dX11_back_28 : decode cX11_back 28 = .ok (.ireturn, 1) := dgX11_back_0 (28, (.ireturn, 1)) (List.mem_of_getElem? (i := 15) rfl)
theorem dX11_back_29 : decode cX11_back 29 = .ok (.aload_n 0, 1) := dgX11_back_0 (29, (.aload_n 0, 1)) (List.mem_of_getElem? (i := 16) rfl)
theorem dX11_back_30 : decode cX11_back 30 = .ok (.getfield 12, 3) := dgX11_back_0 (30, (.getfield 12, 3)) (List.mem_of_getElem? (i := 17) rfl)
theorem dX11_back_33 : decode cX11_back 33 = .ok (.aload_n 0, 1) := dgX11_back_0 (33, (.aload_n 0, 1)) (List.mem_of_getElem? (i := 18) rfl)
theorem dX11_back_34 : decode cX11_back 34 = .ok (.getfield 16, 3) := dgX11_back_0 (34, (.getfield 16, 3)) (List.mem_of_getElem? (i := 19) rfl)
theorem dX11_back_37 : decode cX11_back 37 = .ok (.iload_n 1, 1) := dgX11_back_0 (37, (.iload_n 1, 1)) (List.mem_of_getElem? (i := 20) rfl)
theorem dX11_back_38 : decode cX11_back 38 = .ok (.aaload, 1) := dgX11_back_0 (38, (.aaload, 1)) (List.mem_of_getElem? (i := 21) rfl)
theorem dX11_back_39 : decode cX11_back 39 = .ok (.invokevirtual 354, 3) := dgX11_back_0 (39, (.invokevirtual 354, 3)) (List.mem_of_getElem? (i := 22) rfl)
theorem dX11_back_42 : decode cX11_back 42 = .ok (.aload_n 0, 1) := dgX11_back_0 (42, (.aload_n 0, 1)) (List.mem_of_getElem? (i := 23) rfl)
theorem dX11_back_43 : decode cX11_back 43 = .ok (.iconst 0, 1) := dgX11_back_0 (43, (.iconst 0, 1)) (List.mem_of_getElem? (i := 24) rfl)
theorem dX11_back_44 : decode cX11_back 44 = .ok (.invokevirtual 121, 3) := dgX11_back_0 (44, (.invokevirtual 121, 3)) (List.mem_of_getElem? (i := 25) rfl)
theorem dX11_back_47 : decode cX11_back 47 = .ok (.ireturn, 1) := dgX11_back_0 (47, (.ireturn, 1)) (List.mem_of_getElem? (i := 26) rfl)
set_option maxHeartbeats 4000000 in
set_option maxRecDepth 100000 in
theorem x_back0 (l : Launch) (G : g5_G) (a_o a_rf a_im a_ke a_h a_l a_g a_gn a_b a_bn a_s a_sn a_p a_pn a_w a_wn a_bb a_h2 a_l2 a_g2 a_gn2 a_b2 a_bn2 a_s2 a_sn2 a_p2 a_pn2 a_w2 a_wn2 a_bb2 a_k a_wa a_th a_ha a_wk a_r a_x a_wd a_h3 : Nat) (sz : Nat) (e_tl : Int32) (e_fd : Int32) (e_fpl : Int32) (e_wn : Int32) (e_lr : Int32) (e_le : Int32) (e_st : Int32) (e_fo : Int32) (e_lc : Int32) (e_g : Int32) (e_b : Int32) (e_s : Int32) (e_p : Int32) (e_w : Int32) (e_le2 : Int32) (e_st2 : Int32) (e_fo2 : Int32) (e_lc2 : Int32) (e_g2 : Int32) (e_b2 : Int32) (e_s2 : Int32) (e_p2 : Int32) (e_w2 : Int32) (e_wa : Int64) (e_gb : Int64) (e_wa2 : Int64) (e_gb2 : Int64) (f_rf : Nat → Int32) (f_ke : Nat → Int32) (f_l : Nat → Option Nat) (f_g : Nat → Int32) (f_b : Nat → Int32) (f_s : Nat → Int32) (f_p : Nat → Int32) (f_w : Nat → Int32) (f_bb : Nat → Int64) (f_l2 : Nat → Option Nat) (f_g2 : Nat → Int32) (f_b2 : Nat → Int32) (f_s2 : Nat → Int32) (f_p2 : Nat → Int32) (f_w2 : Nat → Int32) (f_bb2 : Nat → Int64) (h_e_tl : 0 ≤ e_tl.toInt ∧ e_tl.toInt ≤ 400) (h_e_wn : 0 ≤ e_wn.toInt ∧ e_wn.toInt ≤ 1) (h_e_g : 0 ≤ e_g.toInt ∧ e_g.toInt ≤ 6) (h_e_b : 0 ≤ e_b.toInt ∧ e_b.toInt ≤ 5) (h_e_s : 0 ≤ e_s.toInt ∧ e_s.toInt ≤ 10) (h_e_p : 0 ≤ e_p.toInt ∧ e_p.toInt ≤ 8) (h_e_w : 0 ≤ e_w.toInt ∧ e_w.toInt ≤ 6) (h_e_g2 : 0 ≤ e_g2.toInt ∧ e_g2.toInt ≤ 6) (h_e_b2 : 0 ≤ e_b2.toInt ∧ e_b2.toInt ≤ 5) (h_e_s2 : 0 ≤ e_s2.toInt ∧ e_s2.toInt ≤ 10) (h_e_p2 : 0 ≤ e_p2.toInt ∧ e_p2.toInt ≤ 8) (h_e_w2 : 0 ≤ e_w2.toInt ∧ e_w2.toInt ≤ 6) : Met l yX11_back (wsG yX11_back cX11_back 2 (some .int)) ({ frames := 3, cells := 0, slots := 0, locals := 103 }) (va_Pc [.ref a_o, .int 0] (g5_PL G f_l2 [(a_o, (oc11 a_h a_im a_ke a_k a_wa a_th a_ha a_wk a_r a_x e_tl e_fd e_fpl a_wd e_wn a_rf e_lr)), (a_rf, (arI G 5 f_rf)), (a_im, (arH G 2 (va_up (va_up (fun _ => none) 0 (some a_h2)) 1 (some a_h3)))), (a_ke, (arZ G 2 f_ke)), (a_h, (oc1 e_wa e_le e_st e_fo e_lc a_l a_g a_b a_s a_p a_w e_gb a_bb)), (a_l, (arW G 6 f_l)), (a_g, (oc6 6 5 a_gn e_g)), (a_gn, (arI G 30 f_g)), (a_b, (oc6 5 24 a_bn e_b)), (a_bn, (arI G 120 f_b)), (a_s, (oc6 10 4 a_sn e_s)), (a_sn, (arI G 40 f_s)), (a_p, (oc6 8 5 a_pn e_p)), (a_pn, (arI G 40 f_p)), (a_w, (oc6 6 6 a_wn e_w)), (a_wn, (arI G 36 f_w)), (a_bb, (arJ G 24 f_bb)), (a_h2, (oc1 e_wa2 e_le2 e_st2 e_fo2 e_lc2 a_l2 a_g2 a_b2 a_s2 a_p2 a_w2 e_gb2 a_bb2)), (a_l2, (arW G 6 f_l2)), (a_g2, (oc6 6 5 a_gn2 e_g2)), (a_gn2, (arI G 30 f_g2)), (a_b2, (oc6 5 24 a_bn2 e_b2)), (a_bn2, (arI G 120 f_b2)), (a_s2, (oc6 10 4 a_sn2 e_s2)), (a_sn2, (arI G 40 f_s2)), (a_p2, (oc6 8 5 a_pn2 e_p2)), (a_pn2, (arI G 40 f_p2)), (a_w2, (oc6 6 6 a_wn2 e_w2)), (a_wn2, (arI G 36 f_w2)), (a_bb2, (arJ G 24 f_bb2))] sz)) (va_Qi (fun (r : Int32) (u : va_W) => (∃ (o_l : Nat → Option Nat), ((f_ke 0).toInt ≠ 0) ∧ (∀ j : Nat, j < 6 → o_l j = f_l2 j) ∧ (r = 0) ∧ (u = [(a_o, (oc11 a_h a_im a_ke a_k a_wa a_th a_ha a_wk a_r a_x e_tl e_fd e_fpl a_wd e_wn a_rf 0)), (a_rf, (arI G 5 f_rf)), (a_im, (arH G 2 (va_up (va_up (fun _ => none) 0 (some a_h2)) 1 (some a_h3)))), (a_ke, (arZ G 2 f_ke)), (a_h, (oc1 e_wa2 e_le2 e_st2 e_fo2 e_lc2 a_l a_g a_b a_s a_p a_w e_gb2 a_bb)), (a_l, (arW G 6 o_l)), (a_g, (oc6 6 5 a_gn e_g2)), (a_gn, (arI G 30 (va_cpy f_g2 f_g 0 0 30))), (a_b, (oc6 5 24 a_bn e_b2)), (a_bn, (arI G 120 (va_cpy f_b2 f_b 0 0 120))), (a_s, (oc6 10 4 a_sn e_s2)), (a_sn, (arI G 40 (va_cpy f_s2 f_s 0 0 40))), (a_p, (oc6 8 5 a_pn e_p2)), (a_pn, (arI G 40 (va_cpy f_p2 f_p 0 0 40))), (a_w, (oc6 6 6 a_wn e_w2)), (a_wn, (arI G 36 (va_cpy f_w2 f_w 0 0 36))), (a_bb, (arJ G 24 (va_cpy f_bb2 f_bb 0 0 24))), (a_h2, (oc1 e_wa2 e_le2 e_st2 e_fo2 e_lc2 a_l2 a_g2 a_b2 a_s2 a_p2 a_w2 e_gb2 a_bb2)), (a_l2, (arW G 6 f_l2)), (a_g2, (oc6 6 5 a_gn2 e_g2)), (a_gn2, (arI G 30 f_g2)), (a_b2, (oc6 5 24 a_bn2 e_b2)), (a_bn2, (arI G 120 f_b2)), (a_s2, (oc6 10 4 a_sn2 e_s2)), (a_sn2, (arI G 40 f_s2)), (a_p2, (oc6 8 5 a_pn2 e_p2)), (a_pn2, (arI G 40 f_p2)), (a_w2, (oc6 6 6 a_wn2 e_w2)), (a_wn2, (arI G 36 f_w2)), (a_bb2, (arJ G 24 f_bb2))])) ∨ (∃ (o_rf : Nat → Int32), ((f_ke 0).toInt = 0) ∧ (r = (-2)) ∧ (u = [(a_o, (oc11 a_h a_im a_ke a_k a_wa a_th a_ha a_wk a_r a_x e_tl e_fd e_fpl a_wd e_wn a_rf (-2))), (a_rf, (arI G 5 o_rf)), (a_im, (arH G 2 (va_up (va_up (fun _ => none) 0 (some a_h2)) 1 (some a_h3)))), (a_ke, (arZ G 2 f_ke)), (a_h, (oc1 e_wa e_le e_st e_fo e_lc a_l a_g a_b a_s a_p a_w e_gb a_bb)), (a_l, (arW G 6 f_l)), (a_g, (oc6 6 5 a_gn e_g)), (a_gn, (arI G 30 f_g)), (a_b, (oc6 5 24 a_bn e_b)), (a_bn, (arI G 120 f_b)), (a_s, (oc6 10 4 a_sn e_s)), (a_sn, (arI G 40 f_s)), (a_p, (oc6 8 5 a_pn e_p)), (a_pn, (arI G 40 f_p)), (a_w, (oc6 6 6 a_wn e_w)), (a_wn, (arI G 36 f_w)), (a_bb, (arJ G 24 f_bb)), (a_h2, (oc1 e_wa2 e_le2 e_st2 e_fo2 e_lc2 a_l2 a_g2 a_b2 a_s2 a_p2 a_w2 e_gb2 a_bb2)), (a_l2, (arW G 6 f_l2)), (a_g2, (oc6 6 5 a_gn2 e_g2)), (a_gn2, (arI G 30 f_g2)), (a_b2, (oc6 5 24 a_bn2 e_b2)), (a_bn2, (arI G 120 f_b2)), (a_s2, (oc6 10 4 a_sn2 e_s2)), (a_sn2, (arI G 40 f_s2)), (a_p2, (oc6 8 5 a_pn2 e_p2)), (a_pn2, (arI G 40 f_p2)), (a_w2, (oc6 6 6 a_wn2 e_w2)), (a_wn2, (arI G 36 f_w2)), (a_bb2, (arJ G 24 f_bb2))]))) (g5_B G (va_A [(a_o, (oc11 a_h a_im a_ke a_k a_wa a_th a_ha a_wk a_r a_x e_tl e_fd e_fpl a_wd e_wn a_rf e_lr)), (a_rf, (arI G 5 f_rf)), (a_im, (arH G 2 (va_up (va_up (fun _ => none) 0 (some a_h2)) 1 (some a_h3)))), (a_ke, (arZ G 2 f_ke)), (a_h, (oc1 e_wa e_le e_st e_fo e_lc a_l a_g a_b a_s a_p a_w e_gb a_bb)), (a_l, (arW G 6 f_l)), (a_g, (oc6 6 5 a_gn e_g)), (a_gn, (arI G 30 f_g)), (a_b, (oc6 5 24 a_bn e_b)), (a_bn, (arI G 120 f_b)), (a_s, (oc6 10 4 a_sn e_s)), (a_sn, (arI G 40 f_s)), (a_p, (oc6 8 5 a_pn e_p)), (a_pn, (arI G 40 f_p)), (a_w, (oc6 6 6 a_wn e_w)), (a_wn, (arI G 36 f_w)), (a_bb, (arJ G 24 f_bb)), (a_h2, (oc1 e_wa2 e_le2 e_st2 e_fo2 e_lc2 a_l2 a_g2 a_b2 a_s2 a_p2 a_w2 e_gb2 a_bb2)), (a_l2, (arW G 6 f_l2)), (a_g2, (oc6 6 5 a_gn2 e_g2)), (a_gn2, (arI G 30 f_g2)), (a_b2, (oc6 5 24 a_bn2 e_b2)), (a_bn2, (arI G 120 f_b2)), (a_s2, (oc6 10 4 a_sn2 e_s2)), (a_sn2, (arI G 40 f_s2)), (a_p2, (oc6 8 5 a_pn2 e_p2)), (a_pn2, (arI G 40 f_p2)), (a_w2, (oc6 6 6 a_wn2 e_w2)), (a_wn2, (arI G 36 f_w2)), (a_bb2, (arJ G 24 f_bb2))] sz)) (va_A [(a_o, (oc11 a_h a_im a_ke a_k a_wa a_th a_ha a_wk a_r a_x e_tl e_fd e_fpl a_wd e_wn a_rf e_lr)), (a_rf, (arI G 5 f_rf)), (a_im, (arH G 2 (va_up (va_up (fun _ => none) 0 (some a_h2)) 1 (some a_h3)))), (a_ke, (arZ G 2 f_ke)), (a_h, (oc1 e_wa e_le e_st e_fo e_lc a_l a_g a_b a_s a_p a_w e_gb a_bb)), (a_l, (arW G 6 f_l)), (a_g, (oc6 6 5 a_gn e_g)), (a_gn, (arI G 30 f_g)), (a_b, (oc6 5 24 a_bn e_b)), (a_bn, (arI G 120 f_b)), (a_s, (oc6 10 4 a_sn e_s)), (a_sn, (arI G 40 f_s)), (a_p, (oc6 8 5 a_pn e_p)), (a_pn, (arI G 40 f_p)), (a_w, (oc6 6 6 a_wn e_w)), (a_wn, (arI G 36 f_w)), (a_bb, (arJ G 24 f_bb)), (a_h2, (oc1 e_wa2 e_le2 e_st2 e_fo2 e_lc2 a_l2 a_g2 a_b2 a_s2 a_p2 a_w2 e_gb2 a_bb2)), (a_l2, (arW G 6 f_l2)), (a_g2, (oc6 6 5 a_gn2 e_g2)), (a_gn2, (arI G 30 f_g2)), (a_b2, (oc6 5 24 a_bn2 e_b2)), (a_bn2, (arI G 120 f_b2)), (a_s2, (oc6 10 4 a_sn2 e_s2)), (a_sn2, (arI G 40 f_s2)), (a_p2, (oc6 8 5 a_pn2 e_p2)), (a_pn2, (arI G 40 f_p2)), (a_w2, (oc6 6 6 a_wn2 e_w2)), (a_wn2, (arI G 36 f_w2)), (a_bb2, (arJ G 24 f_bb2))] sz)) 0 0 (va_A [(a_o, (oc11 a_h a_im a_ke a_k a_wa a_th a_ha a_wk a_r a_x e_tl e_fd e_fpl a_wd e_wn a_rf e_lr)), (a_rf, (arI G 5 f_rf)), (a_im, (arH G 2 (va_up (va_up (fun _ => none) 0 (some a_h2)) 1 (some a_h3)))), (a_ke, (arZ G 2 f_ke)), (a_h, (oc1 e_wa e_le e_st e_fo e_lc a_l a_g a_b a_s a_p a_w e_gb a_bb)), (a_l, (arW G 6 f_l)), (a_g, (oc6 6 5 a_gn e_g)), (a_gn, (arI G 30 f_g)), (a_b, (oc6 5 24 a_bn e_b)), (a_bn, (arI G 120 f_b)), (a_s, (oc6 10 4 a_sn e_s)), (a_sn, (arI G 40 f_s)), (a_p, (oc6 8 5 a_pn e_p)), (a_pn, (arI G 40 f_p)), (a_w, (oc6 6 6 a_wn e_w)), (a_wn, (arI G 36 f_w)), (a_bb, (arJ G 24 f_bb)), (a_h2, (oc1 e_wa2 e_le2 e_st2 e_fo2 e_lc2 a_l2 a_g2 a_b2 a_s2 a_p2 a_w2 e_gb2 a_bb2)), (a_l2, (arW G 6 f_l2)), (a_g2, (oc6 6 5 a_gn2 e_g2)), (a_gn2, (arI G 30 f_g2)), (a_b2, (oc6 5 24 a_bn2 e_b2)), (a_bn2, (arI G 120 f_b2)), (a_s2, (oc6 10 4 a_sn2 e_s2)), (a_sn2, (arI G 40 f_s2)), (a_p2, (oc6 8 5 a_pn2 e_p2)), (a_pn2, (arI G 40 f_p2)), (a_w2, (oc6 6 6 a_wn2 e_w2)), (a_wn2, (arI G 36 f_w2)), (a_bb2, (arJ G 24 f_bb2))] sz) := by
  refine Met.ofW (cc := cX11_back) (maxL := 2) (ret := (some .int)) (by decide) rfl ?_
  intro p e s m args below meth c s₁ B hml hv
  obtain ⟨rfl, ⟨hsz, hP, hK, hD0, hN, hT⟩, hLA⟩ := hv
  have hx := B.exec
  have hb := B.bytes
  have hr := B.returns
  have hts : ∀ w ∈ tblG, w.before _ s = true := fun w h => atoms_spec (ws := (wsG yX11_back cX11_back 2 (some .int))) B.pre w (List.mem_cons_of_mem _ h)
  have hown : s.vm.findClass RX11 = some m.cls := findClass_of_methodNamed B.named
  have hlocks := B.notSynchronized
  subst hsz
  have hD := hD0.self (sz := s.heap.size)
  generalize hAe : va_A [(a_o, (oc11 a_h a_im a_ke a_k a_wa a_th a_ha a_wk a_r a_x e_tl e_fd e_fpl a_wd e_wn a_rf e_lr)), (a_rf, (arI G 5 f_rf)), (a_im, (arH G 2 (va_up (va_up (fun _ => none) 0 (some a_h2)) 1 (some a_h3)))), (a_ke, (arZ G 2 f_ke)), (a_h, (oc1 e_wa e_le e_st e_fo e_lc a_l a_g a_b a_s a_p a_w e_gb a_bb)), (a_l, (arW G 6 f_l)), (a_g, (oc6 6 5 a_gn e_g)), (a_gn, (arI G 30 f_g)), (a_b, (oc6 5 24 a_bn e_b)), (a_bn, (arI G 120 f_b)), (a_s, (oc6 10 4 a_sn e_s)), (a_sn, (arI G 40 f_s)), (a_p, (oc6 8 5 a_pn e_p)), (a_pn, (arI G 40 f_p)), (a_w, (oc6 6 6 a_wn e_w)), (a_wn, (arI G 36 f_w)), (a_bb, (arJ G 24 f_bb)), (a_h2, (oc1 e_wa2 e_le2 e_st2 e_fo2 e_lc2 a_l2 a_g2 a_b2 a_s2 a_p2 a_w2 e_gb2 a_bb2)), (a_l2, (arW G 6 f_l2)), (a_g2, (oc6 6 5 a_gn2 e_g2)), (a_gn2, (arI G 30 f_g2)), (a_b2, (oc6 5 24 a_bn2 e_b2)), (a_bn2, (arI G 120 f_b2)), (a_s2, (oc6 10 4 a_sn2 e_s2)), (a_sn2, (arI G 40 f_s2)), (a_p2, (oc6 8 5 a_pn2 e_p2)), (a_pn2, (arI G 40 f_p2)), (a_w2, (oc6 6 6 a_wn2 e_w2)), (a_wn2, (arI G 36 f_w2)), (a_bb2, (arJ G 24 f_bb2))] s.heap.size = A at hD hT hLA ⊢
  have hA : ∀ q : Nat, s.heap.size ≤ q → A q := fun q h => by rw [← hAe]; exact Or.inr h
  have hS : va_S A s.heap s.heap [] := va_S.rf
  have hP : va_P G.1 vwCl [(a_o, (oc11 a_h a_im a_ke a_k a_wa a_th a_ha a_wk a_r a_x e_tl e_fd e_fpl a_wd e_wn a_rf e_lr)), (a_rf, (arI G 5 f_rf)), (a_im, (arH G 2 (va_up (va_up (fun _ => none) 0 (some a_h2)) 1 (some a_h3)))), (a_ke, (arZ G 2 f_ke)), (a_h, (oc1 e_wa e_le e_st e_fo e_lc a_l a_g a_b a_s a_p a_w e_gb a_bb)), (a_l, (arW G 6 f_l)), (a_g, (oc6 6 5 a_gn e_g)), (a_gn, (arI G 30 f_g)), (a_b, (oc6 5 24 a_bn e_b)), (a_bn, (arI G 120 f_b)), (a_s, (oc6 10 4 a_sn e_s)), (a_sn, (arI G 40 f_s)), (a_p, (oc6 8 5 a_pn e_p)), (a_pn, (arI G 40 f_p)), (a_w, (oc6 6 6 a_wn e_w)), (a_wn, (arI G 36 f_w)), (a_bb, (arJ G 24 f_bb)), (a_h2, (oc1 e_wa2 e_le2 e_st2 e_fo2 e_lc2 a_l2 a_g2 a_b2 a_s2 a_p2 a_w2 e_gb2 a_bb2)), (a_l2, (arW G 6 f_l2)), (a_g2, (oc6 6 5 a_gn2 e_g2)), (a_gn2, (arI G 30 f_g2)), (a_b2, (oc6 5 24 a_bn2 e_b2)), (a_bn2, (arI G 120 f_b2)), (a_s2, (oc6 10 4 a_sn2 e_s2)), (a_sn2, (arI G 40 f_s2)), (a_p2, (oc6 8 5 a_pn2 e_p2)), (a_pn2, (arI G 40 f_p2)), (a_w2, (oc6 6 6 a_wn2 e_w2)), (a_wn2, (arI G 36 f_w2)), (a_bb2, (arJ G 24 f_bb2))] s.heap := hP
  have hl := lv_entry ([.ref a_o, .int 0]) (n := 2) (Nat.le_of_ble_eq_true rfl)
  rw [lg_entry_eq]
  generalize (lg_sl ([.ref a_o, .int 0]) ++ List.replicate (2 - (lg_sl ([.ref a_o, .int 0])).length) Slot.unset).toArray = ls at hl ⊢
  have hl : lv_has ls 2 [(0, .ref a_o), (1, .int 0)] := hl
  have zc9 : (0 : Int32).toInt = 0 := (by decide)
  refine lv_iload_n hx hb dX11_back_0 rfl (lv_at hl 1 rfl) ?_
  obtain ⟨hPc, hDc, hFc⟩ := g5_sub3 (wc := []) hP hD hS hA [] (by decide) rfl
  refine va_calli (va_runS (As := [.int 0]) (rest := []) ⟨hx, hb, hml, hown, hts⟩ (x_isImage l G s.heap.size 0) (va_cwS 1 hts gS_X11_351 rfl rfl rfl hs_X11_isImage ⟨Nat.le_of_ble_eq_true rfl, Nat.le_of_ble_eq_true rfl⟩) (g5_preS hPc hK hDc hN hT hS hFc) rfl rfl hl.1 rfl (lv_room (Nat.le_of_ble_eq_true rfl)) dX11_back_1 ⟨Nat.le_of_ble_eq_true rfl, Nat.le_of_ble_eq_true rfl⟩) hS (fun q _ h => hFc q h) hFc (fun r u t H1 locs ht hvm hw hB hz1 hk1 hS => ?_)
  obtain ⟨hP1, hD1⟩ := hB
  rw [ht] at hP1
  rcases hw with ⟨i_1, rfl, rfl⟩ | ⟨i_2, rfl, rfl⟩
  ·
    have i_1 : 0 ≤ (0 : Int32).toInt ∧ (0 : Int32).toInt ≤ 1 := i_1
    have hP := g5_same hP hk1
    generalize H1 = H at hP hS ⊢
    refine lv_if_ne (tgt := 13) hx hb dX11_back_4 (by decide) (fun c_3 => ?_) (fun c_3 => ?_)
    ·
      refine lv_aload_n hx hb dX11_back_13 rfl (lv_at hl 0 rfl) ?_
      refine va_get (D := G.1) (ci := 11) (v := .ref a_ke) (C := RX11) (T := TX11) (N := 17) hx hb hts inG_X11 hown hK hP 0 rfl rfl 2 (by decide) (hts _ fl_X11_20) (fun _ h9 => h9) rfl dX11_back_14 ?_
      refine lv_iload_n hx hb dX11_back_17 rfl (lv_at hl 1 rfl) ?_
      refine va_zald hx hb hK hP 3 2 rfl rfl (i := 0) (by unfold vp_in; decide) dX11_back_18 ?_
      refine g5_ti (v := (f_ke 0)) rfl ?_
      refine lv_if_ne (tgt := 29) hx hb dX11_back_19 (by decide) (fun c_4 => ?_) (fun c_4 => ?_)
      ·
        have n_4 : gNe ((f_ke 0).toInt) (0) := by have z := g5_ne (a := (f_ke 0).toInt) (b := 0) (by rfl) (by decide) c_4; unfold gNe; omega
        refine lv_aload_n hx hb dX11_back_29 rfl (lv_at hl 0 rfl) ?_
        refine va_get (D := G.1) (ci := 11) (v := .ref a_h) (C := RX11) (T := TX11) (N := 17) hx hb hts inG_X11 hown hK hP 0 rfl rfl 0 (by decide) (hts _ fl_X11_12) (fun _ h9 => h9) rfl dX11_back_30 ?_
        refine lv_aload_n hx hb dX11_back_33 rfl (lv_at hl 0 rfl) ?_
        refine va_get (D := G.1) (ci := 11) (v := .ref a_im) (C := RX11) (T := TX11) (N := 17) hx hb hts inG_X11 hown hK hP 0 rfl rfl 1 (by decide) (hts _ fl_X11_16) (fun _ h9 => h9) rfl dX11_back_34 ?_
        refine lv_iload_n hx hb dX11_back_37 rfl (lv_at hl 1 rfl) ?_
        refine va_aldq hx hb hK hP 2 3 rfl rfl (i := 0) (by unfold vp_in; decide) dX11_back_38 ?_
        refine g5_tv (v := .ref a_h2) rfl ?_
        obtain ⟨hPc, hDc, hFc⟩ := g5_sub3 (wc := [(a_h, (oc1 e_wa e_le e_st e_fo e_lc a_l a_g a_b a_s a_p a_w e_gb a_bb)), (a_l, (arW G 6 f_l)), (a_g, (oc6 6 5 a_gn e_g)), (a_gn, (arI G 30 f_g)), (a_b, (oc6 5 24 a_bn e_b)), (a_bn, (arI G 120 f_b)), (a_s, (oc6 10 4 a_sn e_s)), (a_sn, (arI G 40 f_s)), (a_p, (oc6 8 5 a_pn e_p)), (a_pn, (arI G 40 f_p)), (a_w, (oc6 6 6 a_wn e_w)), (a_wn, (arI G 36 f_w)), (a_bb, (arJ G 24 f_bb)), (a_h2, (oc1 e_wa2 e_le2 e_st2 e_fo2 e_lc2 a_l2 a_g2 a_b2 a_s2 a_p2 a_w2 e_gb2 a_bb2)), (a_l2, (arW G 6 f_l2)), (a_g2, (oc6 6 5 a_gn2 e_g2)), (a_gn2, (arI G 30 f_g2)), (a_b2, (oc6 5 24 a_bn2 e_b2)), (a_bn2, (arI G 120 f_b2)), (a_s2, (oc6 10 4 a_sn2 e_s2)), (a_sn2, (arI G 40 f_s2)), (a_p2, (oc6 8 5 a_pn2 e_p2)), (a_pn2, (arI G 40 f_p2)), (a_w2, (oc6 6 6 a_wn2 e_w2)), (a_wn2, (arI G 36 f_w2)), (a_bb2, (arJ G 24 f_bb2))]) hP hD hS hA [4, 5, 6, 7, 8, 9, 10, 11, 12, 13, 14, 15, 16, 17, 18, 19, 20, 21, 22, 23, 24, 25, 26, 27, 28, 29] (by decide) rfl
        refine va_callv (va_runV (As := [.ref a_h2]) (rest := []) ⟨hx, hb, hml, hown, hts⟩ (h_copyFrom l G a_h a_l a_g a_gn a_b a_bn a_s a_sn a_p a_pn a_w a_wn a_bb a_h2 a_l2 a_g2 a_gn2 a_b2 a_bn2 a_s2 a_sn2 a_p2 a_pn2 a_w2 a_wn2 a_bb2 H.size e_le e_st e_fo e_lc e_g e_b e_s e_p e_w e_le2 e_st2 e_fo2 e_lc2 e_g2 e_b2 e_s2 e_p2 e_w2 e_wa e_gb e_wa2 e_gb2 f_l f_g f_b f_s f_p f_w f_bb f_l2 f_g2 f_b2 f_s2 f_p2 f_w2 f_bb2 h_e_g h_e_b h_e_s h_e_p h_e_w h_e_g2 h_e_b2 h_e_s2 h_e_p2 h_e_w2) (cwV 1 hts gV_X11_354 rfl rfl rfl hv_X1_copyFrom ⟨Nat.le_of_ble_eq_true rfl, Nat.le_of_ble_eq_true rfl⟩) (g5_preVL hPc hK hDc hN hT hS hFc hLA (ci := 1) (q0 := 0) rfl rfl) rfl rfl hl.1 rfl (lv_room (Nat.le_of_ble_eq_true rfl)) dX11_back_39 ⟨Nat.le_of_ble_eq_true rfl, Nat.le_of_ble_eq_true rfl⟩) hS (fun q _ h => hFc q h) hFc (fun u t H1 locs ht hvm hw hB hz1 hk1 hS => ?_)
        obtain ⟨hP1, hD1⟩ := hB
        rw [ht] at hP1
        obtain ⟨z6, i_5, rfl⟩ := hw
        have i_5 : ∀ j : Nat, j < 6 → z6 j = f_l2 j := i_5
        obtain ⟨hP, hD⟩ := va_join (wr := [(a_o, (oc11 a_h a_im a_ke a_k a_wa a_th a_ha a_wk a_r a_x e_tl e_fd e_fpl a_wd e_wn a_rf e_lr)), (a_rf, (arI G 5 f_rf)), (a_im, (arH G 2 (va_up (va_up (fun _ => none) 0 (some a_h2)) 1 (some a_h3)))), (a_ke, (arZ G 2 f_ke))]) hP hD [4, 5, 6, 7, 8, 9, 10, 11, 12, 13, 14, 15, 16, 17, 18, 19, 20, 21, 22, 23, 24, 25, 26, 27, 28, 29] [0, 1, 2, 3] rfl rfl (by decide) (by decide) hk1 hFc hP1 hD1
        generalize H1 = H at hP hS ⊢
        refine g5_rs [(a_o, (oc11 a_h a_im a_ke a_k a_wa a_th a_ha a_wk a_r a_x e_tl e_fd e_fpl a_wd e_wn a_rf e_lr)), (a_rf, (arI G 5 f_rf)), (a_im, (arH G 2 (va_up (va_up (fun _ => none) 0 (some a_h2)) 1 (some a_h3)))), (a_ke, (arZ G 2 f_ke)), (a_h, (oc1 e_wa2 e_le2 e_st2 e_fo2 e_lc2 a_l a_g a_b a_s a_p a_w e_gb2 a_bb)), (a_l, (arW G 6 z6)), (a_g, (oc6 6 5 a_gn e_g2)), (a_gn, (arI G 30 (va_cpy f_g2 f_g 0 0 30))), (a_b, (oc6 5 24 a_bn e_b2)), (a_bn, (arI G 120 (va_cpy f_b2 f_b 0 0 120))), (a_s, (oc6 10 4 a_sn e_s2)), (a_sn, (arI G 40 (va_cpy f_s2 f_s 0 0 40))), (a_p, (oc6 8 5 a_pn e_p2)), (a_pn, (arI G 40 (va_cpy f_p2 f_p 0 0 40))), (a_w, (oc6 6 6 a_wn e_w2)), (a_wn, (arI G 36 (va_cpy f_w2 f_w 0 0 36))), (a_bb, (arJ G 24 (va_cpy f_bb2 f_bb 0 0 24))), (a_h2, (oc1 e_wa2 e_le2 e_st2 e_fo2 e_lc2 a_l2 a_g2 a_b2 a_s2 a_p2 a_w2 e_gb2 a_bb2)), (a_l2, (arW G 6 f_l2)), (a_g2, (oc6 6 5 a_gn2 e_g2)), (a_gn2, (arI G 30 f_g2)), (a_b2, (oc6 5 24 a_bn2 e_b2)), (a_bn2, (arI G 120 f_b2)), (a_s2, (oc6 10 4 a_sn2 e_s2)), (a_sn2, (arI G 40 f_s2)), (a_p2, (oc6 8 5 a_pn2 e_p2)), (a_pn2, (arI G 40 f_p2)), (a_w2, (oc6 6 6 a_wn2 e_w2)), (a_wn2, (arI G 36 f_w2)), (a_bb2, (arJ G 24 f_bb2))] hP hD (fun hP hD => ?_)
        refine lv_aload_n hx hb dX11_back_42 rfl (lv_at hl 0 rfl) ?_
        refine lv_iconst (v := 0) hx hb dX11_back_43 (by decide) ?_
        obtain ⟨hPc, hDc, hFc⟩ := g5_sub3 (wc := [(a_o, (oc11 a_h a_im a_ke a_k a_wa a_th a_ha a_wk a_r a_x e_tl e_fd e_fpl a_wd e_wn a_rf e_lr))]) hP hD hS hA [0] (by decide) rfl
        refine va_calli (va_runV (As := [.int 0]) (rest := []) ⟨hx, hb, hml, hown, hts⟩ (x_done l G a_o a_h a_im a_ke a_k a_wa a_th a_ha a_wk a_r a_x a_wd a_rf H.size e_tl e_fd e_fpl e_wn e_lr 0 h_e_tl h_e_wn) (cwV 1 hts gV_X11_121 rfl rfl rfl hv_X11_done ⟨Nat.le_of_ble_eq_true rfl, Nat.le_of_ble_eq_true rfl⟩) (g5_preV hPc hK hDc hN hT hS hFc (ci := 11) (q0 := 0) rfl rfl) rfl rfl hl.1 rfl (lv_room (Nat.le_of_ble_eq_true rfl)) dX11_back_44 ⟨Nat.le_of_ble_eq_true rfl, Nat.le_of_ble_eq_true rfl⟩) hS (fun q _ h => hFc q h) hFc (fun r u t H1 locs ht hvm hw hB hz1 hk1 hS => ?_)
        obtain ⟨hP1, hD1⟩ := hB
        rw [ht] at hP1
        obtain ⟨rfl, rfl⟩ := hw
        obtain ⟨hP, hD⟩ := va_join (wr := [(a_rf, (arI G 5 f_rf)), (a_im, (arH G 2 (va_up (va_up (fun _ => none) 0 (some a_h2)) 1 (some a_h3)))), (a_ke, (arZ G 2 f_ke)), (a_h, (oc1 e_wa2 e_le2 e_st2 e_fo2 e_lc2 a_l a_g a_b a_s a_p a_w e_gb2 a_bb)), (a_l, (arW G 6 z6)), (a_g, (oc6 6 5 a_gn e_g2)), (a_gn, (arI G 30 (va_cpy f_g2 f_g 0 0 30))), (a_b, (oc6 5 24 a_bn e_b2)), (a_bn, (arI G 120 (va_cpy f_b2 f_b 0 0 120))), (a_s, (oc6 10 4 a_sn e_s2)), (a_sn, (arI G 40 (va_cpy f_s2 f_s 0 0 40))), (a_p, (oc6 8 5 a_pn e_p2)), (a_pn, (arI G 40 (va_cpy f_p2 f_p 0 0 40))), (a_w, (oc6 6 6 a_wn e_w2)), (a_wn, (arI G 36 (va_cpy f_w2 f_w 0 0 36))), (a_bb, (arJ G 24 (va_cpy f_bb2 f_bb 0 0 24))), (a_h2, (oc1 e_wa2 e_le2 e_st2 e_fo2 e_lc2 a_l2 a_g2 a_b2 a_s2 a_p2 a_w2 e_gb2 a_bb2)), (a_l2, (arW G 6 f_l2)), (a_g2, (oc6 6 5 a_gn2 e_g2)), (a_gn2, (arI G 30 f_g2)), (a_b2, (oc6 5 24 a_bn2 e_b2)), (a_bn2, (arI G 120 f_b2)), (a_s2, (oc6 10 4 a_sn2 e_s2)), (a_sn2, (arI G 40 f_s2)), (a_p2, (oc6 8 5 a_pn2 e_p2)), (a_pn2, (arI G 40 f_p2)), (a_w2, (oc6 6 6 a_wn2 e_w2)), (a_wn2, (arI G 36 f_w2)), (a_bb2, (arJ G 24 f_bb2))]) hP hD [0] [1, 2, 3, 4, 5, 6, 7, 8, 9, 10, 11, 12, 13, 14, 15, 16, 17, 18, 19, 20, 21, 22, 23, 24, 25, 26, 27, 28, 29] rfl rfl (by decide) (by decide) hk1 hFc hP1 hD1
        generalize H1 = H at hP hS ⊢
        refine g5_rs [(a_rf, (arI G 5 f_rf)), (a_im, (arH G 2 (va_up (va_up (fun _ => none) 0 (some a_h2)) 1 (some a_h3)))), (a_ke, (arZ G 2 f_ke)), (a_h, (oc1 e_wa2 e_le2 e_st2 e_fo2 e_lc2 a_l a_g a_b a_s a_p a_w e_gb2 a_bb)), (a_l, (arW G 6 z6)), (a_g, (oc6 6 5 a_gn e_g2)), (a_gn, (arI G 30 (va_cpy f_g2 f_g 0 0 30))), (a_b, (oc6 5 24 a_bn e_b2)), (a_bn, (arI G 120 (va_cpy f_b2 f_b 0 0 120))), (a_s, (oc6 10 4 a_sn e_s2)), (a_sn, (arI G 40 (va_cpy f_s2 f_s 0 0 40))), (a_p, (oc6 8 5 a_pn e_p2)), (a_pn, (arI G 40 (va_cpy f_p2 f_p 0 0 40))), (a_w, (oc6 6 6 a_wn e_w2)), (a_wn, (arI G 36 (va_cpy f_w2 f_w 0 0 36))), (a_bb, (arJ G 24 (va_cpy f_bb2 f_bb 0 0 24))), (a_h2, (oc1 e_wa2 e_le2 e_st2 e_fo2 e_lc2 a_l2 a_g2 a_b2 a_s2 a_p2 a_w2 e_gb2 a_bb2)), (a_l2, (arW G 6 f_l2)), (a_g2, (oc6 6 5 a_gn2 e_g2)), (a_gn2, (arI G 30 f_g2)), (a_b2, (oc6 5 24 a_bn2 e_b2)), (a_bn2, (arI G 120 f_b2)), (a_s2, (oc6 10 4 a_sn2 e_s2)), (a_sn2, (arI G 40 f_s2)), (a_p2, (oc6 8 5 a_pn2 e_p2)), (a_pn2, (arI G 40 f_p2)), (a_w2, (oc6 6 6 a_wn2 e_w2)), (a_wn2, (arI G 36 f_w2)), (a_bb2, (arJ G 24 f_bb2)), (a_o, (oc11 a_h a_im a_ke a_k a_wa a_th a_ha a_wk a_r a_x e_tl e_fd e_fpl a_wd e_wn a_rf 0))] hP hD (fun hP hD => ?_)
        exact W.iret (v := 0) hx hb hr (fun t ht hW => ⟨⟨0, [(a_o, (oc11 a_h a_im a_ke a_k a_wa a_th a_ha a_wk a_r a_x e_tl e_fd e_fpl a_wd e_wn a_rf 0)), (a_rf, (arI G 5 f_rf)), (a_im, (arH G 2 (va_up (va_up (fun _ => none) 0 (some a_h2)) 1 (some a_h3)))), (a_ke, (arZ G 2 f_ke)), (a_h, (oc1 e_wa2 e_le2 e_st2 e_fo2 e_lc2 a_l a_g a_b a_s a_p a_w e_gb2 a_bb)), (a_l, (arW G 6 z6)), (a_g, (oc6 6 5 a_gn e_g2)), (a_gn, (arI G 30 (va_cpy f_g2 f_g 0 0 30))), (a_b, (oc6 5 24 a_bn e_b2)), (a_bn, (arI G 120 (va_cpy f_b2 f_b 0 0 120))), (a_s, (oc6 10 4 a_sn e_s2)), (a_sn, (arI G 40 (va_cpy f_s2 f_s 0 0 40))), (a_p, (oc6 8 5 a_pn e_p2)), (a_pn, (arI G 40 (va_cpy f_p2 f_p 0 0 40))), (a_w, (oc6 6 6 a_wn e_w2)), (a_wn, (arI G 36 (va_cpy f_w2 f_w 0 0 36))), (a_bb, (arJ G 24 (va_cpy f_bb2 f_bb 0 0 24))), (a_h2, (oc1 e_wa2 e_le2 e_st2 e_fo2 e_lc2 a_l2 a_g2 a_b2 a_s2 a_p2 a_w2 e_gb2 a_bb2)), (a_l2, (arW G 6 f_l2)), (a_g2, (oc6 6 5 a_gn2 e_g2)), (a_gn2, (arI G 30 f_g2)), (a_b2, (oc6 5 24 a_bn2 e_b2)), (a_bn2, (arI G 120 f_b2)), (a_s2, (oc6 10 4 a_sn2 e_s2)), (a_sn2, (arI G 40 f_s2)), (a_p2, (oc6 8 5 a_pn2 e_p2)), (a_pn2, (arI G 40 f_p2)), (a_w2, (oc6 6 6 a_wn2 e_w2)), (a_wn2, (arI G 36 f_w2)), (a_bb2, (arJ G 24 f_bb2))], rfl, Or.inl (⟨z6, n_4, i_5, rfl, rfl⟩), by rw [ht]; exact hP.sub [29, 0, 1, 2, 3, 4, 5, 6, 7, 8, 9, 10, 11, 12, 13, 14, 15, 16, 17, 18, 19, 20, 21, 22, 23, 24, 25, 26, 27, 28] rfl, hD.sub [29, 0, 1, 2, 3, 4, 5, 6, 7, 8, 9, 10, 11, 12, 13, 14, 15, 16, 17, 18, 19, 20, 21, 22, 23, 24, 25, 26, 27, 28] (by decide) rfl⟩, hS.F ht⟩) hS.2.2 dX11_back_47
      ·
        have i_4 : (f_ke 0).toInt = 0 := by have z := g5_neN (a := (f_ke 0).toInt) (b := 0) (by rfl) (by decide) c_4; omega
        refine lv_aload_n hx hb dX11_back_22 rfl (lv_at hl 0 rfl) ?_
        refine lv_bipush (v := (-2)) hx hb dX11_back_23 (by decide) ?_
        obtain ⟨hPc, hDc, hFc⟩ := g5_sub3 (wc := [(a_o, (oc11 a_h a_im a_ke a_k a_wa a_th a_ha a_wk a_r a_x e_tl e_fd e_fpl a_wd e_wn a_rf e_lr)), (a_rf, (arI G 5 f_rf))]) hP hD hS hA [0, 1] (by decide) rfl
        refine va_calli (va_runV (As := [.int (-2)]) (rest := []) ⟨hx, hb, hml, hown, hts⟩ (x_refuse2 l G a_o a_rf a_h a_im a_ke a_k a_wa a_th a_ha a_wk a_r a_x a_wd H.size e_tl e_fd e_fpl e_wn e_lr f_rf h_e_tl h_e_wn) (cwV 1 hts gV_X11_104 rfl rfl rfl hv_X11_refuse ⟨Nat.le_of_ble_eq_true rfl, Nat.le_of_ble_eq_true rfl⟩) (g5_preV hPc hK hDc hN hT hS hFc (ci := 11) (q0 := 0) rfl rfl) rfl rfl hl.1 rfl (lv_room (Nat.le_of_ble_eq_true rfl)) dX11_back_25 ⟨Nat.le_of_ble_eq_true rfl, Nat.le_of_ble_eq_true rfl⟩) hS (fun q _ h => hFc q h) hFc (fun r u t H1 locs ht hvm hw hB hz1 hk1 hS => ?_)
        obtain ⟨hP1, hD1⟩ := hB
        rw [ht] at hP1
        obtain ⟨z7, rfl, rfl⟩ := hw
        obtain ⟨hP, hD⟩ := va_join (wr := [(a_im, (arH G 2 (va_up (va_up (fun _ => none) 0 (some a_h2)) 1 (some a_h3)))), (a_ke, (arZ G 2 f_ke)), (a_h, (oc1 e_wa e_le e_st e_fo e_lc a_l a_g a_b a_s a_p a_w e_gb a_bb)), (a_l, (arW G 6 f_l)), (a_g, (oc6 6 5 a_gn e_g)), (a_gn, (arI G 30 f_g)), (a_b, (oc6 5 24 a_bn e_b)), (a_bn, (arI G 120 f_b)), (a_s, (oc6 10 4 a_sn e_s)), (a_sn, (arI G 40 f_s)), (a_p, (oc6 8 5 a_pn e_p)), (a_pn, (arI G 40 f_p)), (a_w, (oc6 6 6 a_wn e_w)), (a_wn, (arI G 36 f_w)), (a_bb, (arJ G 24 f_bb)), (a_h2, (oc1 e_wa2 e_le2 e_st2 e_fo2 e_lc2 a_l2 a_g2 a_b2 a_s2 a_p2 a_w2 e_gb2 a_bb2)), (a_l2, (arW G 6 f_l2)), (a_g2, (oc6 6 5 a_gn2 e_g2)), (a_gn2, (arI G 30 f_g2)), (a_b2, (oc6 5 24 a_bn2 e_b2)), (a_bn2, (arI G 120 f_b2)), (a_s2, (oc6 10 4 a_sn2 e_s2)), (a_sn2, (arI G 40 f_s2)), (a_p2, (oc6 8 5 a_pn2 e_p2)), (a_pn2, (arI G 40 f_p2)), (a_w2, (oc6 6 6 a_wn2 e_w2)), (a_wn2, (arI G 36 f_w2)), (a_bb2, (arJ G 24 f_bb2))]) hP hD [0, 1] [2, 3, 4, 5, 6, 7, 8, 9, 10, 11, 12, 13, 14, 15, 16, 17, 18, 19, 20, 21, 22, 23, 24, 25, 26, 27, 28, 29] rfl rfl (by decide) (by decide) hk1 hFc hP1 hD1
        generalize H1 = H at hP hS ⊢
        refine g5_rs [(a_im, (arH G 2 (va_up (va_up (fun _ => none) 0 (some a_h2)) 1 (some a_h3)))), (a_ke, (arZ G 2 f_ke)), (a_h, (oc1 e_wa e_le e_st e_fo e_lc a_l a_g a_b a_s a_p a_w e_gb a_bb)), (a_l, (arW G 6 f_l)), (a_g, (oc6 6 5 a_gn e_g)), (a_gn, (arI G 30 f_g)), (a_b, (oc6 5 24 a_bn e_b)), (a_bn, (arI G 120 f_b)), (a_s, (oc6 10 4 a_sn e_s)), (a_sn, (arI G 40 f_s)), (a_p, (oc6 8 5 a_pn e_p)), (a_pn, (arI G 40 f_p)), (a_w, (oc6 6 6 a_wn e_w)), (a_wn, (arI G 36 f_w)), (a_bb, (arJ G 24 f_bb)), (a_h2, (oc1 e_wa2 e_le2 e_st2 e_fo2 e_lc2 a_l2 a_g2 a_b2 a_s2 a_p2 a_w2 e_gb2 a_bb2)), (a_l2, (arW G 6 f_l2)), (a_g2, (oc6 6 5 a_gn2 e_g2)), (a_gn2, (arI G 30 f_g2)), (a_b2, (oc6 5 24 a_bn2 e_b2)), (a_bn2, (arI G 120 f_b2)), (a_s2, (oc6 10 4 a_sn2 e_s2)), (a_sn2, (arI G 40 f_s2)), (a_p2, (oc6 8 5 a_pn2 e_p2)), (a_pn2, (arI G 40 f_p2)), (a_w2, (oc6 6 6 a_wn2 e_w2)), (a_wn2, (arI G 36 f_w2)), (a_bb2, (arJ G 24 f_bb2)), (a_o, (oc11 a_h a_im a_ke a_k a_wa a_th a_ha a_wk a_r a_x e_tl e_fd e_fpl a_wd e_wn a_rf (-2))), (a_rf, (arI G 5 z7))] hP hD (fun hP hD => ?_)
        exact W.iret (v := (-2)) hx hb hr (fun t ht hW => ⟨⟨(-2), [(a_o, (oc11 a_h a_im a_ke a_k a_wa a_th a_ha a_wk a_r a_x e_tl e_fd e_fpl a_wd e_wn a_rf (-2))), (a_rf, (arI G 5 z7)), (a_im, (arH G 2 (va_up (va_up (fun _ => none) 0 (some a_h2)) 1 (some a_h3)))), (a_ke, (arZ G 2 f_ke)), (a_h, (oc1 e_wa e_le e_st e_fo e_lc a_l a_g a_b a_s a_p a_w e_gb a_bb)), (a_l, (arW G 6 f_l)), (a_g, (oc6 6 5 a_gn e_g)), (a_gn, (arI G 30 f_g)), (a_b, (oc6 5 24 a_bn e_b)), (a_bn, (arI G 120 f_b)), (a_s, (oc6 10 4 a_sn e_s)), (a_sn, (arI G 40 f_s)), (a_p, (oc6 8 5 a_pn e_p)), (a_pn, (arI G 40 f_p)), (a_w, (oc6 6 6 a_wn e_w)), (a_wn, (arI G 36 f_w)), (a_bb, (arJ G 24 f_bb)), (a_h2, (oc1 e_wa2 e_le2 e_st2 e_fo2 e_lc2 a_l2 a_g2 a_b2 a_s2 a_p2 a_w2 e_gb2 a_bb2)), (a_l2, (arW G 6 f_l2)), (a_g2, (oc6 6 5 a_gn2 e_g2)), (a_gn2, (arI G 30 f_g2)), (a_b2, (oc6 5 24 a_bn2 e_b2)), (a_bn2, (arI G 120 f_b2)), (a_s2, (oc6 10 4 a_sn2 e_s2)), (a_sn2, (arI G 40 f_s2)), (a_p2, (oc6 8 5 a_pn2 e_p2)), (a_pn2, (arI G 40 f_p2)), (a_w2, (oc6 6 6 a_wn2 e_w2)), (a_wn2, (arI G 36 f_w2)), (a_bb2, (arJ G 24 f_bb2))], rfl, Or.inr (⟨z7, by omega, rfl, rfl⟩), by rw [ht]; exact hP.sub [28, 29, 0, 1, 2, 3, 4, 5, 6, 7, 8, 9, 10, 11, 12, 13, 14, 15, 16, 17, 18, 19, 20, 21, 22, 23, 24, 25, 26, 27] rfl, hD.sub [28, 29, 0, 1, 2, 3, 4, 5, 6, 7, 8, 9, 10, 11, 12, 13, 14, 15, 16, 17, 18, 19, 20, 21, 22, 23, 24, 25, 26, 27] (by decide) rfl⟩, hS.F ht⟩) hS.2.2 dX11_back_28
    ·
      exact absurd c_3 (by decide)
  ·
    have i_2 : (0 : Int32).toInt < 0 ∨ 1 < (0 : Int32).toInt := i_2
    have hP := g5_same hP hk1
    generalize H1 = H at hP hS ⊢
    refine lv_if_ne (tgt := 13) hx hb dX11_back_4 (by decide) (fun c_8 => ?_) (fun c_8 => ?_)
    ·
      exact absurd c_8 (by decide)
    ·
      refine lv_aload_n hx hb dX11_back_7 rfl (lv_at hl 0 rfl) ?_
      refine lv_iconst (v := (-1)) hx hb dX11_back_8 (by decide) ?_
      obtain ⟨hPc, hDc, hFc⟩ := g5_sub3 (wc := [(a_o, (oc11 a_h a_im a_ke a_k a_wa a_th a_ha a_wk a_r a_x e_tl e_fd e_fpl a_wd e_wn a_rf e_lr)), (a_rf, (arI G 5 f_rf))]) hP hD hS hA [0, 1] (by decide) rfl
      refine va_calli (va_runV (As := [.int (-1)]) (rest := []) ⟨hx, hb, hml, hown, hts⟩ (x_refuse1 l G a_o a_rf a_h a_im a_ke a_k a_wa a_th a_ha a_wk a_r a_x a_wd H.size e_tl e_fd e_fpl e_wn e_lr f_rf h_e_tl h_e_wn) (cwV 1 hts gV_X11_104 rfl rfl rfl hv_X11_refuse ⟨Nat.le_of_ble_eq_true rfl, Nat.le_of_ble_eq_true rfl⟩) (g5_preV hPc hK hDc hN hT hS hFc (ci := 11) (q0 := 0) rfl rfl) rfl rfl hl.1 rfl (lv_room (Nat.le_of_ble_eq_true rfl)) dX11_back_9 ⟨Nat.le_of_ble_eq_true rfl, Nat.le_of_ble_eq_true rfl⟩) hS (fun q _ h => hFc q h) hFc (fun r u t H1 locs ht hvm hw hB hz1 hk1 hS => ?_)
      obtain ⟨hP1, hD1⟩ := hB
      rw [ht] at hP1
      obtain ⟨z9, rfl, rfl⟩ := hw
      obtain ⟨hP, hD⟩ := va_join (wr := [(a_im, (arH G 2 (va_up (va_up (fun _ => none) 0 (some a_h2)) 1 (some a_h3)))), (a_ke, (arZ G 2 f_ke)), (a_h, (oc1 e_wa e_le e_st e_fo e_lc a_l a_g a_b a_s a_p a_w e_gb a_bb)), (a_l, (arW G 6 f_l)), (a_g, (oc6 6 5 a_gn e_g)), (a_gn, (arI G 30 f_g)), (a_b, (oc6 5 24 a_bn e_b)), (a_bn, (arI G 120 f_b)), (a_s, (oc6 10 4 a_sn e_s)), (a_sn, (arI G 40 f_s)), (a_p, (oc6 8 5 a_pn e_p)), (a_pn, (arI G 40 f_p)), (a_w, (oc6 6 6 a_wn e_w)), (a_wn, (arI G 36 f_w)), (a_bb, (arJ G 24 f_bb)), (a_h2, (oc1 e_wa2 e_le2 e_st2 e_fo2 e_lc2 a_l2 a_g2 a_b2 a_s2 a_p2 a_w2 e_gb2 a_bb2)), (a_l2, (arW G 6 f_l2)), (a_g2, (oc6 6 5 a_gn2 e_g2)), (a_gn2, (arI G 30 f_g2)), (a_b2, (oc6 5 24 a_bn2 e_b2)), (a_bn2, (arI G 120 f_b2)), (a_s2, (oc6 10 4 a_sn2 e_s2)), (a_sn2, (arI G 40 f_s2)), (a_p2, (oc6 8 5 a_pn2 e_p2)), (a_pn2, (arI G 40 f_p2)), (a_w2, (oc6 6 6 a_wn2 e_w2)), (a_wn2, (arI G 36 f_w2)), (a_bb2, (arJ G 24 f_bb2))]) hP hD [0, 1] [2, 3, 4, 5, 6, 7, 8, 9, 10, 11, 12, 13, 14, 15, 16, 17, 18, 19, 20, 21, 22, 23, 24, 25, 26, 27, 28, 29] rfl rfl (by decide) (by decide) hk1 hFc hP1 hD1
      generalize H1 = H at hP hS ⊢
      refine g5_rs [(a_im, (arH G 2 (va_up (va_up (fun _ => none) 0 (some a_h2)) 1 (some a_h3)))), (a_ke, (arZ G 2 f_ke)), (a_h, (oc1 e_wa e_le e_st e_fo e_lc a_l a_g a_b a_s a_p a_w e_gb a_bb)), (a_l, (arW G 6 f_l)), (a_g, (oc6 6 5 a_gn e_g)), (a_gn, (arI G 30 f_g)), (a_b, (oc6 5 24 a_bn e_b)), (a_bn, (arI G 120 f_b)), (a_s, (oc6 10 4 a_sn e_s)), (a_sn, (arI G 40 f_s)), (a_p, (oc6 8 5 a_pn e_p)), (a_pn, (arI G 40 f_p)), (a_w, (oc6 6 6 a_wn e_w)), (a_wn, (arI G 36 f_w)), (a_bb, (arJ G 24 f_bb)), (a_h2, (oc1 e_wa2 e_le2 e_st2 e_fo2 e_lc2 a_l2 a_g2 a_b2 a_s2 a_p2 a_w2 e_gb2 a_bb2)), (a_l2, (arW G 6 f_l2)), (a_g2, (oc6 6 5 a_gn2 e_g2)), (a_gn2, (arI G 30 f_g2)), (a_b2, (oc6 5 24 a_bn2 e_b2)), (a_bn2, (arI G 120 f_b2)), (a_s2, (oc6 10 4 a_sn2 e_s2)), (a_sn2, (arI G 40 f_s2)), (a_p2, (oc6 8 5 a_pn2 e_p2)), (a_pn2, (arI G 40 f_p2)), (a_w2, (oc6 6 6 a_wn2 e_w2)), (a_wn2, (arI G 36 f_w2)), (a_bb2, (arJ G 24 f_bb2)), (a_o, (oc11 a_h a_im a_ke a_k a_wa a_th a_ha a_wk a_r a_x e_tl e_fd e_fpl a_wd e_wn a_rf (-1))), (a_rf, (arI G 5 z9))] hP hD (fun hP hD => ?_)
      exact absurd (show False by omega) (fun h => h)
set_option maxHeartbeats 4000000 in
set_option maxRecDepth 100000 in
theorem x_image1 (l : Launch) (G : g5_G) (a_o a_rf a_im a_ke a_h a_l a_g a_gn a_b a_bn a_s a_sn a_p a_pn a_w a_wn a_bb a_h3 a_l3 a_g3 a_gn3 a_b3 a_bn3 a_s3 a_sn3 a_p3 a_pn3 a_w3 a_wn3 a_bb3 a_k a_wa a_th a_ha a_wk a_r a_x a_wd a_h2 : Nat) (sz : Nat) (e_tl : Int32) (e_fd : Int32) (e_fpl : Int32) (e_wn : Int32) (e_lr : Int32) (e_le : Int32) (e_st : Int32) (e_fo : Int32) (e_lc : Int32) (e_g : Int32) (e_b : Int32) (e_s : Int32) (e_p : Int32) (e_w : Int32) (e_le3 : Int32) (e_st3 : Int32) (e_fo3 : Int32) (e_lc3 : Int32) (e_g3 : Int32) (e_b3 : Int32) (e_s3 : Int32) (e_p3 : Int32) (e_w3 : Int32) (e_wa : Int64) (e_gb : Int64) (e_wa3 : Int64) (e_gb3 : Int64) (f_rf : Nat → Int32) (f_ke : Nat → Int32) (f_l : Nat → Option Nat) (f_g : Nat → Int32) (f_b : Nat → Int32) (f_s : Nat → Int32) (f_p : Nat → Int32) (f_w : Nat → Int32) (f_bb : Nat → Int64) (f_l3 : Nat → Option Nat) (f_g3 : Nat → Int32) (f_b3 : Nat → Int32) (f_s3 : Nat → Int32) (f_p3 : Nat → Int32) (f_w3 : Nat → Int32) (f_bb3 : Nat → Int64) (h_e_tl : 0 ≤ e_tl.toInt ∧ e_tl.toInt ≤ 400) (h_e_wn : 0 ≤ e_wn.toInt ∧ e_wn.toInt ≤ 1) (h_e_g : 0 ≤ e_g.toInt ∧ e_g.toInt ≤ 6) (h_e_b : 0 ≤ e_b.toInt ∧ e_b.toInt ≤ 5) (h_e_s : 0 ≤ e_s.toInt ∧ e_s.toInt ≤ 10) (h_e_p : 0 ≤ e_p.toInt ∧ e_p.toInt ≤ 8) (h_e_w : 0 ≤ e_w.toInt ∧ e_w.toInt ≤ 6) (h_e_g3 : 0 ≤ e_g3.toInt ∧ e_g3.toInt ≤ 6) (h_e_b3 : 0 ≤ e_b3.toInt ∧ e_b3.toInt ≤ 5) (h_e_s3 : 0 ≤ e_s3.toInt ∧ e_s3.toInt ≤ 10) (h_e_p3 : 0 ≤ e_p3.toInt ∧ e_p3.toInt ≤ 8) (h_e_w3 : 0 ≤ e_w3.toInt ∧ e_w3.toInt ≤ 6) : Met l yX11_image (wsG yX11_image cX11_image 2 (some .int)) ({ frames := 3, cells := 0, slots := 0, locals := 103 }) (va_Pc [.ref a_o, .int 1] (g5_PL G f_l [(a_o, (oc11 a_h a_im a_ke a_k a_wa a_th a_ha a_wk a_r a_x e_tl e_fd e_fpl a_wd e_wn a_rf e_lr)), (a_rf, (arI G 5 f_rf)), (a_im, (arH G 2 (va_up (va_up (fun _ => none) 0 (some a_h2)) 1 (some a_h3)))), (a_ke, (arZ G 2 f_ke)), (a_h, (oc1 e_wa e_le e_st e_fo e_lc a_l a_g a_b a_s a_p a_w e_gb a_bb)), (a_l, (arW G 6 f_l)), (a_g, (oc6 6 5 a_gn e_g)), (a_gn, (arI G 30 f_g)), (a_b, (oc6 5 24 a_bn e_b)), (a_bn, (arI G 120 f_b)), (a_s, (oc6 10 4 a_sn e_s)), (a_sn, (arI G 40 f_s)), (a_p, (oc6 8 5 a_pn e_p)), (a_pn, (arI G 40 f_p)), (a_w, (oc6 6 6 a_wn e_w)), (a_wn, (arI G 36 f_w)), (a_bb, (arJ G 24 f_bb)), (a_h3, (oc1 e_wa3 e_le3 e_st3 e_fo3 e_lc3 a_l3 a_g3 a_b3 a_s3 a_p3 a_w3 e_gb3 a_bb3)), (a_l3, (arW G 6 f_l3)), (a_g3, (oc6 6 5 a_gn3 e_g3)), (a_gn3, (arI G 30 f_g3)), (a_b3, (oc6 5 24 a_bn3 e_b3)), (a_bn3, (arI G 120 f_b3)), (a_s3, (oc6 10 4 a_sn3 e_s3)), (a_sn3, (arI G 40 f_s3)), (a_p3, (oc6 8 5 a_pn3 e_p3)), (a_pn3, (arI G 40 f_p3)), (a_w3, (oc6 6 6 a_wn3 e_w3)), (a_wn3, (arI G 36 f_w3)), (a_bb3, (arJ G 24 f_bb3))] sz)) (va_Qi (fun (r : Int32) (u : va_W) => (∃ (o_l : Nat → Option Nat), (∀ j : Nat, j < 6 → o_l j = f_l j) ∧ (r = 0) ∧ (u = [(a_o, (oc11 a_h a_im a_ke a_k a_wa a_th a_ha a_wk a_r a_x e_tl e_fd e_fpl a_wd e_wn a_rf 0)), (a_rf, (arI G 5 f_rf)), (a_im, (arH G 2 (va_up (va_up (fun _ => none) 0 (some a_h2)) 1 (some a_h3)))), (a_ke, (arZ G 2 (upd f_ke 1 1))), (a_h, (oc1 e_wa e_le e_st e_fo e_lc a_l a_g a_b a_s a_p a_w e_gb a_bb)), (a_l, (arW G 6 f_l)), (a_g, (oc6 6 5 a_gn e_g)), (a_gn, (arI G 30 f_g)), (a_b, (oc6 5 24 a_bn e_b)), (a_bn, (arI G 120 f_b)), (a_s, (oc6 10 4 a_sn e_s)), (a_sn, (arI G 40 f_s)), (a_p, (oc6 8 5 a_pn e_p)), (a_pn, (arI G 40 f_p)), (a_w, (oc6 6 6 a_wn e_w)), (a_wn, (arI G 36 f_w)), (a_bb, (arJ G 24 f_bb)), (a_h3, (oc1 e_wa e_le e_st e_fo e_lc a_l3 a_g3 a_b3 a_s3 a_p3 a_w3 e_gb a_bb3)), (a_l3, (arW G 6 o_l)), (a_g3, (oc6 6 5 a_gn3 e_g)), (a_gn3, (arI G 30 (va_cpy f_g f_g3 0 0 30))), (a_b3, (oc6 5 24 a_bn3 e_b)), (a_bn3, (arI G 120 (va_cpy f_b f_b3 0 0 120))), (a_s3, (oc6 10 4 a_sn3 e_s)), (a_sn3, (arI G 40 (va_cpy f_s f_s3 0 0 40))), (a_p3, (oc6 8 5 a_pn3 e_p)), (a_pn3, (arI G 40 (va_cpy f_p f_p3 0 0 40))), (a_w3, (oc6 6 6 a_wn3 e_w)), (a_wn3, (arI G 36 (va_cpy f_w f_w3 0 0 36))), (a_bb3, (arJ G 24 (va_cpy f_bb f_bb3 0 0 24)))]))) (g5_B G (va_A [(a_o, (oc11 a_h a_im a_ke a_k a_wa a_th a_ha a_wk a_r a_x e_tl e_fd e_fpl a_wd e_wn a_rf e_lr)), (a_rf, (arI G 5 f_rf)), (a_im, (arH G 2 (va_up (va_up (fun _ => none) 0 (some a_h2)) 1 (some a_h3)))), (a_ke, (arZ G 2 f_ke)), (a_h, (oc1 e_wa e_le e_st e_fo e_lc a_l a_g a_b a_s a_p a_w e_gb a_bb)), (a_l, (arW G 6 f_l)), (a_g, (oc6 6 5 a_gn e_g)), (a_gn, (arI G 30 f_g)), (a_b, (oc6 5 24 a_bn e_b)), (a_bn, (arI G 120 f_b)), (a_s, (oc6 10 4 a_sn e_s)), (a_sn, (arI G 40 f_s)), (a_p, (oc6 8 5 a_pn e_p)), (a_pn, (arI G 40 f_p)), (a_w, (oc6 6 6 a_wn e_w)), (a_wn, (arI G 36 f_w)), (a_bb, (arJ G 24 f_bb)), (a_h3, (oc1 e_wa3 e_le3 e_st3 e_fo3 e_lc3 a_l3 a_g3 a_b3 a_s3 a_p3 a_w3 e_gb3 a_bb3)), (a_l3, (arW G 6 f_l3)), (a_g3, (oc6 6 5 a_gn3 e_g3)), (a_gn3, (arI G 30 f_g3)), (a_b3, (oc6 5 24 a_bn3 e_b3)), (a_bn3, (arI G 120 f_b3)), (a_s3, (oc6 10 4 a_sn3 e_s3)), (a_sn3, (arI G 40 f_s3)), (a_p3, (oc6 8 5 a_pn3 e_p3)), (a_pn3, (arI G 40 f_p3)), (a_w3, (oc6 6 6 a_wn3 e_w3)), (a_wn3, (arI G 36 f_w3)), (a_bb3, (arJ G 24 f_bb3))] sz)) (va_A [(a_o, (oc11 a_h a_im a_ke a_k a_wa a_th a_ha a_wk a_r a_x e_tl e_fd e_fpl a_wd e_wn a_rf e_lr)), (a_rf, (arI G 5 f_rf)), (a_im, (arH G 2 (va_up (va_up (fun _ => none) 0 (some a_h2)) 1 (some a_h3)))), (a_ke, (arZ G 2 f_ke)), (a_h, (oc1 e_wa e_le e_st e_fo e_lc a_l a_g a_b a_s a_p a_w e_gb a_bb)), (a_l, (arW G 6 f_l)), (a_g, (oc6 6 5 a_gn e_g)), (a_gn, (arI G 30 f_g)), (a_b, (oc6 5 24 a_bn e_b)), (a_bn, (arI G 120 f_b)), (a_s, (oc6 10 4 a_sn e_s)), (a_sn, (arI G 40 f_s)), (a_p, (oc6 8 5 a_pn e_p)), (a_pn, (arI G 40 f_p)), (a_w, (oc6 6 6 a_wn e_w)), (a_wn, (arI G 36 f_w)), (a_bb, (arJ G 24 f_bb)), (a_h3, (oc1 e_wa3 e_le3 e_st3 e_fo3 e_lc3 a_l3 a_g3 a_b3 a_s3 a_p3 a_w3 e_gb3 a_bb3)), (a_l3, (arW G 6 f_l3)), (a_g3, (oc6 6 5 a_gn3 e_g3)), (a_gn3, (arI G 30 f_g3)), (a_b3, (oc6 5 24 a_bn3 e_b3)), (a_bn3, (arI G 120 f_b3)), (a_s3, (oc6 10 4 a_sn3 e_s3)), (a_sn3, (arI G 40 f_s3)), (a_p3, (oc6 8 5 a_pn3 e_p3)), (a_pn3, (arI G 40 f_p3)), (a_w3, (oc6 6 6 a_wn3 e_w3)), (a_wn3, (arI G 36 f_w3)), (a_bb3, (arJ G 24 f_bb3))] sz)) 0 0 (va_A [(a_o, (oc11 a_h a_im a_ke a_k a_wa a_th a_ha a_wk a_r a_x e_tl e_fd e_fpl a_wd e_wn a_rf e_lr)), (a_rf, (arI G 5 f_rf)), (a_im, (arH G 2 (va_up (va_up (fun _ => none) 0 (some a_h2)) 1 (some a_h3)))), (a_ke, (arZ G 2 f_ke)), (a_h, (oc1 e_wa e_le e_st e_fo e_lc a_l a_g a_b a_s a_p a_w e_gb a_bb)), (a_l, (arW G 6 f_l)), (a_g, (oc6 6 5 a_gn e_g)), (a_gn, (arI G 30 f_g)), (a_b, (oc6 5 24 a_bn e_b)), (a_bn, (arI G 120 f_b)), (a_s, (oc6 10 4 a_sn e_s)), (a_sn, (arI G 40 f_s)), (a_p, (oc6 8 5 a_pn e_p)), (a_pn, (arI G 40 f_p)), (a_w, (oc6 6 6 a_wn e_w)), (a_wn, (arI G 36 f_w)), (a_bb, (arJ G 24 f_bb)), (a_h3, (oc1 e_wa3 e_le3 e_st3 e_fo3 e_lc3 a_l3 a_g3 a_b3 a_s3 a_p3 a_w3 e_gb3 a_bb3)), (a_l3, (arW G 6 f_l3)), (a_g3, (oc6 6 5 a_gn3 e_g3)), (a_gn3, (arI G 30 f_g3)), (a_b3, (oc6 5 24 a_bn3 e_b3)), (a_bn3, (arI G 120 f_b3)), (a_s3, (oc6 10 4 a_sn3 e_s3)), (a_sn3, (arI G 40 f_s3)), (a_p3, (oc6 8 5 a_pn3 e_p3)), (a_pn3, (arI G 40 f_p3)), (a_w3, (oc6 6 6 a_wn3 e_w3)), (a_wn3, (arI G 36 f_w3)), (a_bb3, (arJ G 24 f_bb3))] sz) := by
  refine Met.ofW (cc := cX11_image) (maxL := 2) (ret := (some .int)) (by decide) rfl ?_
  intro p e s m args below meth c s₁ B hml hv
  obtain ⟨rfl, ⟨hsz, hP, hK, hD0, hN, hT⟩, hLA⟩ := hv
  have hx := B.exec
  have hb := B.bytes
  have hr := B.returns
  have hts : ∀ w ∈ tblG, w.before _ s = true := fun w h => atoms_spec (ws := (wsG yX11_image cX11_image 2 (some .int))) B.pre w (List.mem_cons_of_mem _ h)
  have hown : s.vm.findClass RX11 = some m.cls := findClass_of_methodNamed B.named
  have hlocks := B.notSynchronized
  subst hsz
  have hD := hD0.self (sz := s.heap.size)
  generalize hAe : va_A [(a_o, (oc11 a_h a_im a_ke a_k a_wa a_th a_ha a_wk a_r a_x e_tl e_fd e_fpl a_wd e_wn a_rf e_lr)), (a_rf, (arI G 5 f_rf)), (a_im, (arH G 2 (va_up (va_up (fun _ => none) 0 (some a_h2)) 1 (some a_h3)))), (a_ke, (arZ G 2 f_ke)), (a_h, (oc1 e_wa e_le e_st e_fo e_lc a_l a_g a_b a_s a_p a_w e_gb a_bb)), (a_l, (arW G 6 f_l)), (a_g, (oc6 6 5 a_gn e_g)), (a_gn, (arI G 30 f_g)), (a_b, (oc6 5 24 a_bn e_b)), (a_bn, (arI G 120 f_b)), (a_s, (oc6 10 4 a_sn e_s)), (a_sn, (arI G 40 f_s)), (a_p, (oc6 8 5 a_pn e_p)), (a_pn, (arI G 40 f_p)), (a_w, (oc6 6 6 a_wn e_w)), (a_wn, (arI G 36 f_w)), (a_bb, (arJ G 24 f_bb)), (a_h3, (oc1 e_wa3 e_le3 e_st3 e_fo3 e_lc3 a_l3 a_g3 a_b3 a_s3 a_p3 a_w3 e_gb3 a_bb3)), (a_l3, (arW G 6 f_l3)), (a_g3, (oc6 6 5 a_gn3 e_g3)), (a_gn3, (arI G 30 f_g3)), (a_b3, (oc6 5 24 a_bn3 e_b3)), (a_bn3, (arI G 120 f_b3)), (a_s3, (oc6 10 4 a_sn3 e_s3)), (a_sn3, (arI G 40 f_s3)), (a_p3, (oc6 8 5 a_pn3 e_p3)), (a_pn3, (arI G 40 f_p3)), (a_w3, (oc6 6 6 a_wn3 e_w3)), (a_wn3, (arI G 36 f_w3)), (a_bb3, (arJ G 24 f_bb3))] s.heap.size = A at hD hT hLA ⊢
  have hA : ∀ q : Nat, s.heap.size ≤ q → A q := fun q h => by rw [← hAe]; exact Or.inr h
  have hS : va_S A s.heap s.heap [] := va_S.rf
  have hP : va_P G.1 vwCl [(a_o, (oc11 a_h a_im a_ke a_k a_wa a_th a_ha a_wk a_r a_x e_tl e_fd e_fpl a_wd e_wn a_rf e_lr)), (a_rf, (arI G 5 f_rf)), (a_im, (arH G 2 (va_up (va_up (fun _ => none) 0 (some a_h2)) 1 (some a_h3)))), (a_ke, (arZ G 2 f_ke)), (a_h, (oc1 e_wa e_le e_st e_fo e_lc a_l a_g a_b a_s a_p a_w e_gb a_bb)), (a_l, (arW G 6 f_l)), (a_g, (oc6 6 5 a_gn e_g)), (a_gn, (arI G 30 f_g)), (a_b, (oc6 5 24 a_bn e_b)), (a_bn, (arI G 120 f_b)), (a_s, (oc6 10 4 a_sn e_s)), (a_sn, (arI G 40 f_s)), (a_p, (oc6 8 5 a_pn e_p)), (a_pn, (arI G 40 f_p)), (a_w, (oc6 6 6 a_wn e_w)), (a_wn, (arI G 36 f_w)), (a_bb, (arJ G 24 f_bb)), (a_h3, (oc1 e_wa3 e_le3 e_st3 e_fo3 e_lc3 a_l3 a_g3 a_b3 a_s3 a_p3 a_w3 e_gb3 a_bb3)), (a_l3, (arW G 6 f_l3)), (a_g3, (oc6 6 5 a_gn3 e_g3)), (a_gn3, (arI G 30 f_g3)), (a_b3, (oc6 5 24 a_bn3 e_b3)), (a_bn3, (arI G 120 f_b3)), (a_s3, (oc6 10 4 a_sn3 e_s3)), (a_sn3, (arI G 40 f_s3)), (a_p3, (oc6 8 5 a_pn3 e_p3)), (a_pn3, (arI G 40 f_p3)), (a_w3, (oc6 6 6 a_wn3 e_w3)), (a_wn3, (arI G 36 f_w3)), (a_bb3, (arJ G 24 f_bb3))] s.heap := hP
  have hl := lv_entry ([.ref a_o, .int 1]) (n := 2) (Nat.le_of_ble_eq_true rfl)
  rw [lg_entry_eq]
  generalize (lg_sl ([.ref a_o, .int 1]) ++ List.replicate (2 - (lg_sl ([.ref a_o, .int 1])).length) Slot.unset).toArray = ls at hl ⊢
  have hl : lv_has ls 2 [(0, .ref a_o), (1, .int 1)] := hl
  have zc9 : (1 : Int32).toInt = 1 := (by decide)
  refine lv_iload_n hx hb dX11_image_0 rfl (lv_at hl 1 rfl) ?_
  obtain ⟨hPc, hDc, hFc⟩ := g5_sub3 (wc := []) hP hD hS hA [] (by decide) rfl
  refine va_calli (va_runS (As := [.int 1]) (rest := []) ⟨hx, hb, hml, hown, hts⟩ (x_isImage l G s.heap.size 1) (va_cwS 1 hts gS_X11_351 rfl rfl rfl hs_X11_isImage ⟨Nat.le_of_ble_eq_true rfl, Nat.le_of_ble_eq_true rfl⟩) (g5_preS hPc hK hDc hN hT hS hFc) rfl rfl hl.1 rfl (lv_room (Nat.le_of_ble_eq_true rfl)) dX11_image_1 ⟨Nat.le_of_ble_eq_true rfl, Nat.le_of_ble_eq_true rfl⟩) hS (fun q _ h => hFc q h) hFc (fun r u t H1 locs ht hvm hw hB hz1 hk1 hS => ?_)
  obtain ⟨hP1, hD1⟩ := hB
  rw [ht] at hP1
  rcases hw with ⟨i_1, rfl, rfl⟩ | ⟨i_2, rfl, rfl⟩
  ·
    have i_1 : 0 ≤ (1 : Int32).toInt ∧ (1 : Int32).toInt ≤ 1 := i_1
    have hP := g5_same hP hk1
    generalize H1 = H at hP hS ⊢
    refine lv_if_ne (tgt := 13) hx hb dX11_image_4 (by decide) (fun c_3 => ?_) (fun c_3 => ?_)
    ·
      refine lv_aload_n hx hb dX11_image_13 rfl (lv_at hl 0 rfl) ?_
      refine va_get (D := G.1) (ci := 11) (v := .ref a_im) (C := RX11) (T := TX11) (N := 17) hx hb hts inG_X11 hown hK hP 0 rfl rfl 1 (by decide) (hts _ fl_X11_16) (fun _ h9 => h9) rfl dX11_image_14 ?_
      refine lv_iload_n hx hb dX11_image_17 rfl (lv_at hl 1 rfl) ?_
      refine va_aldq hx hb hK hP 2 3 rfl rfl (i := 1) (by unfold vp_in; decide) dX11_image_18 ?_
      refine g5_tv (v := .ref a_h3) rfl ?_
      refine lv_aload_n hx hb dX11_image_19 rfl (lv_at hl 0 rfl) ?_
      refine va_get (D := G.1) (ci := 11) (v := .ref a_h) (C := RX11) (T := TX11) (N := 17) hx hb hts inG_X11 hown hK hP 0 rfl rfl 0 (by decide) (hts _ fl_X11_12) (fun _ h9 => h9) rfl dX11_image_20 ?_
      obtain ⟨hPc, hDc, hFc⟩ := g5_sub3 (wc := [(a_h3, (oc1 e_wa3 e_le3 e_st3 e_fo3 e_lc3 a_l3 a_g3 a_b3 a_s3 a_p3 a_w3 e_gb3 a_bb3)), (a_l3, (arW G 6 f_l3)), (a_g3, (oc6 6 5 a_gn3 e_g3)), (a_gn3, (arI G 30 f_g3)), (a_b3, (oc6 5 24 a_bn3 e_b3)), (a_bn3, (arI G 120 f_b3)), (a_s3, (oc6 10 4 a_sn3 e_s3)), (a_sn3, (arI G 40 f_s3)), (a_p3, (oc6 8 5 a_pn3 e_p3)), (a_pn3, (arI G 40 f_p3)), (a_w3, (oc6 6 6 a_wn3 e_w3)), (a_wn3, (arI G 36 f_w3)), (a_bb3, (arJ G 24 f_bb3)), (a_h, (oc1 e_wa e_le e_st e_fo e_lc a_l a_g a_b a_s a_p a_w e_gb a_bb)), (a_l, (arW G 6 f_l)), (a_g, (oc6 6 5 a_gn e_g)), (a_gn, (arI G 30 f_g)), (a_b, (oc6 5 24 a_bn e_b)), (a_bn, (arI G 120 f_b)), (a_s, (oc6 10 4 a_sn e_s)), (a_sn, (arI G 40 f_s)), (a_p, (oc6 8 5 a_pn e_p)), (a_pn, (arI G 40 f_p)), (a_w, (oc6 6 6 a_wn e_w)), (a_wn, (arI G 36 f_w)), (a_bb, (arJ G 24 f_bb))]) hP hD hS hA [17, 18, 19, 20, 21, 22, 23, 24, 25, 26, 27, 28, 29, 4, 5, 6, 7, 8, 9, 10, 11, 12, 13, 14, 15, 16] (by decide) rfl
      refine va_callv (va_runV (As := [.ref a_h]) (rest := []) ⟨hx, hb, hml, hown, hts⟩ (h_copyFrom l G a_h3 a_l3 a_g3 a_gn3 a_b3 a_bn3 a_s3 a_sn3 a_p3 a_pn3 a_w3 a_wn3 a_bb3 a_h a_l a_g a_gn a_b a_bn a_s a_sn a_p a_pn a_w a_wn a_bb H.size e_le3 e_st3 e_fo3 e_lc3 e_g3 e_b3 e_s3 e_p3 e_w3 e_le e_st e_fo e_lc e_g e_b e_s e_p e_w e_wa3 e_gb3 e_wa e_gb f_l3 f_g3 f_b3 f_s3 f_p3 f_w3 f_bb3 f_l f_g f_b f_s f_p f_w f_bb h_e_g3 h_e_b3 h_e_s3 h_e_p3 h_e_w3 h_e_g h_e_b h_e_s h_e_p h_e_w) (cwV 1 hts gV_X11_354 rfl rfl rfl hv_X1_copyFrom ⟨Nat.le_of_ble_eq_true rfl, Nat.le_of_ble_eq_true rfl⟩) (g5_preVL hPc hK hDc hN hT hS hFc hLA (ci := 1) (q0 := 0) rfl rfl) rfl rfl hl.1 rfl (lv_room (Nat.le_of_ble_eq_true rfl)) dX11_image_23 ⟨Nat.le_of_ble_eq_true rfl, Nat.le_of_ble_eq_true rfl⟩) hS (fun q _ h => hFc q h) hFc (fun u t H1 locs ht hvm hw hB hz1 hk1 hS => ?_)
      obtain ⟨hP1, hD1⟩ := hB
      rw [ht] at hP1
      obtain ⟨z5, i_4, rfl⟩ := hw
      have i_4 : ∀ j : Nat, j < 6 → z5 j = f_l j := i_4
      obtain ⟨hP, hD⟩ := va_join (wr := [(a_o, (oc11 a_h a_im a_ke a_k a_wa a_th a_ha a_wk a_r a_x e_tl e_fd e_fpl a_wd e_wn a_rf e_lr)), (a_rf, (arI G 5 f_rf)), (a_im, (arH G 2 (va_up (va_up (fun _ => none) 0 (some a_h2)) 1 (some a_h3)))), (a_ke, (arZ G 2 f_ke))]) hP hD [17, 18, 19, 20, 21, 22, 23, 24, 25, 26, 27, 28, 29, 4, 5, 6, 7, 8, 9, 10, 11, 12, 13, 14, 15, 16] [0, 1, 2, 3] rfl rfl (by decide) (by decide) hk1 hFc hP1 hD1
      generalize H1 = H at hP hS ⊢
      refine g5_rs [(a_o, (oc11 a_h a_im a_ke a_k a_wa a_th a_ha a_wk a_r a_x e_tl e_fd e_fpl a_wd e_wn a_rf e_lr)), (a_rf, (arI G 5 f_rf)), (a_im, (arH G 2 (va_up (va_up (fun _ => none) 0 (some a_h2)) 1 (some a_h3)))), (a_ke, (arZ G 2 f_ke)), (a_h3, (oc1 e_wa e_le e_st e_fo e_lc a_l3 a_g3 a_b3 a_s3 a_p3 a_w3 e_gb a_bb3)), (a_l3, (arW G 6 z5)), (a_g3, (oc6 6 5 a_gn3 e_g)), (a_gn3, (arI G 30 (va_cpy f_g f_g3 0 0 30))), (a_b3, (oc6 5 24 a_bn3 e_b)), (a_bn3, (arI G 120 (va_cpy f_b f_b3 0 0 120))), (a_s3, (oc6 10 4 a_sn3 e_s)), (a_sn3, (arI G 40 (va_cpy f_s f_s3 0 0 40))), (a_p3, (oc6 8 5 a_pn3 e_p)), (a_pn3, (arI G 40 (va_cpy f_p f_p3 0 0 40))), (a_w3, (oc6 6 6 a_wn3 e_w)), (a_wn3, (arI G 36 (va_cpy f_w f_w3 0 0 36))), (a_bb3, (arJ G 24 (va_cpy f_bb f_bb3 0 0 24))), (a_h, (oc1 e_wa e_le e_st e_fo e_lc a_l a_g a_b a_s a_p a_w e_gb a_bb)), (a_l, (arW G 6 f_l)), (a_g, (oc6 6 5 a_gn e_g)), (a_gn, (arI G 30 f_g)), (a_b, (oc6 5 24 a_bn e_b)), (a_bn, (arI G 120 f_b)), (a_s, (oc6 10 4 a_sn e_s)), (a_sn, (arI G 40 f_s)), (a_p, (oc6 8 5 a_pn e_p)), (a_pn, (arI G 40 f_p)), (a_w, (oc6 6 6 a_wn e_w)), (a_wn, (arI G 36 f_w)), (a_bb, (arJ G 24 f_bb))] hP hD (fun hP hD => ?_)
      refine lv_aload_n hx hb dX11_image_26 rfl (lv_at hl 0 rfl) ?_
      refine va_get (D := G.1) (ci := 11) (v := .ref a_ke) (C := RX11) (T := TX11) (N := 17) hx hb hts inG_X11 hown hK hP 0 rfl rfl 2 (by decide) (hts _ fl_X11_20) (fun _ h9 => h9) rfl dX11_image_27 ?_
      refine lv_iload_n hx hb dX11_image_30 rfl (lv_at hl 1 rfl) ?_
      refine lv_iconst (v := 1) hx hb dX11_image_31 (by decide) ?_
      refine va_zast hx hb hK hP hD hS 3 2 rfl rfl (i := 1) (x := 1) (by unfold vp_in; decide) dX11_image_32 (fun H locs hP hD hS => ?_)
      refine g5_rs [(a_o, (oc11 a_h a_im a_ke a_k a_wa a_th a_ha a_wk a_r a_x e_tl e_fd e_fpl a_wd e_wn a_rf e_lr)), (a_rf, (arI G 5 f_rf)), (a_im, (arH G 2 (va_up (va_up (fun _ => none) 0 (some a_h2)) 1 (some a_h3)))), (a_ke, (arZ G 2 (upd f_ke 1 1))), (a_h3, (oc1 e_wa e_le e_st e_fo e_lc a_l3 a_g3 a_b3 a_s3 a_p3 a_w3 e_gb a_bb3)), (a_l3, (arW G 6 z5)), (a_g3, (oc6 6 5 a_gn3 e_g)), (a_gn3, (arI G 30 (va_cpy f_g f_g3 0 0 30))), (a_b3, (oc6 5 24 a_bn3 e_b)), (a_bn3, (arI G 120 (va_cpy f_b f_b3 0 0 120))), (a_s3, (oc6 10 4 a_sn3 e_s)), (a_sn3, (arI G 40 (va_cpy f_s f_s3 0 0 40))), (a_p3, (oc6 8 5 a_pn3 e_p)), (a_pn3, (arI G 40 (va_cpy f_p f_p3 0 0 40))), (a_w3, (oc6 6 6 a_wn3 e_w)), (a_wn3, (arI G 36 (va_cpy f_w f_w3 0 0 36))), (a_bb3, (arJ G 24 (va_cpy f_bb f_bb3 0 0 24))), (a_h, (oc1 e_wa e_le e_st e_fo e_lc a_l a_g a_b a_s a_p a_w e_gb a_bb)), (a_l, (arW G 6 f_l)), (a_g, (oc6 6 5 a_gn e_g)), (a_gn, (arI G 30 f_g)), (a_b, (oc6 5 24 a_bn e_b)), (a_bn, (arI G 120 f_b)), (a_s, (oc6 10 4 a_sn e_s)), (a_sn, (arI G 40 f_s)), (a_p, (oc6 8 5 a_pn e_p)), (a_pn, (arI G 40 f_p)), (a_w, (oc6 6 6 a_wn e_w)), (a_wn, (arI G 36 f_w)), (a_bb, (arJ G 24 f_bb))] hP hD (fun hP hD => ?_)
      refine lv_aload_n hx hb dX11_image_33 rfl (lv_at hl 0 rfl) ?_
      refine lv_iconst (v := 0) hx hb dX11_image_34 (by decide) ?_
      obtain ⟨hPc, hDc, hFc⟩ := g5_sub3 (wc := [(a_o, (oc11 a_h a_im a_ke a_k a_wa a_th a_ha a_wk a_r a_x e_tl e_fd e_fpl a_wd e_wn a_rf e_lr))]) hP hD hS hA [0] (by decide) rfl
      refine va_calli (va_runV (As := [.int 0]) (rest := []) ⟨hx, hb, hml, hown, hts⟩ (x_done l G a_o a_h a_im a_ke a_k a_wa a_th a_ha a_wk a_r a_x a_wd a_rf H.size e_tl e_fd e_fpl e_wn e_lr 0 h_e_tl h_e_wn) (cwV 1 hts gV_X11_121 rfl rfl rfl hv_X11_done ⟨Nat.le_of_ble_eq_true rfl, Nat.le_of_ble_eq_true rfl⟩) (g5_preV hPc hK hDc hN hT hS hFc (ci := 11) (q0 := 0) rfl rfl) rfl rfl hl.1 rfl (lv_room (Nat.le_of_ble_eq_true rfl)) dX11_image_35 ⟨Nat.le_of_ble_eq_true rfl, Nat.le_of_ble_eq_true rfl⟩) hS (fun q _ h => hFc q h) hFc (fun r u t H1 locs ht hvm hw hB hz1 hk1 hS => ?_)
      obtain ⟨hP1, hD1⟩ := hB
      rw [ht] at hP1
      obtain ⟨rfl, rfl⟩ := hw
      obtain ⟨hP, hD⟩ := va_join (wr := [(a_rf, (arI G 5 f_rf)), (a_im, (arH G 2 (va_up (va_up (fun _ => none) 0 (some a_h2)) 1 (some a_h3)))), (a_ke, (arZ G 2 (upd f_ke 1 1))), (a_h3, (oc1 e_wa e_le e_st e_fo e_lc a_l3 a_g3 a_b3 a_s3 a_p3 a_w3 e_gb a_bb3)), (a_l3, (arW G 6 z5)), (a_g3, (oc6 6 5 a_gn3 e_g)), (a_gn3, (arI G 30 (va_cpy f_g f_g3 0 0 30))), (a_b3, (oc6 5 24 a_bn3 e_b)), (a_bn3, (arI G 120 (va_cpy f_b f_b3 0 0 120))), (a_s3, (oc6 10 4 a_sn3 e_s)), (a_sn3, (arI G 40 (va_cpy f_s f_s3 0 0 40))), (a_p3, (oc6 8 5 a_pn3 e_p)), (a_pn3, (arI G 40 (va_cpy f_p f_p3 0 0 40))), (a_w3, (oc6 6 6 a_wn3 e_w)), (a_wn3, (arI G 36 (va_cpy f_w f_w3 0 0 36))), (a_bb3, (arJ G 24 (va_cpy f_bb f_bb3 0 0 24))), (a_h, (oc1 e_wa e_le e_st e_fo e_lc a_l a_g a_b a_s a_p a_w e_gb a_bb)), (a_l, (arW G 6 f_l)), (a_g, (oc6 6 5 a_gn e_g)), (a_gn, (arI G 30 f_g)), (a_b, (oc6 5 24 a_bn e_b)), (a_bn, (arI G 120 f_b)), (a_s, (oc6 10 4 a_sn e_s)), (a_sn, (arI G 40 f_s)), (a_p, (oc6 8 5 a_pn e_p)), (a_pn, (arI G 40 f_p)), (a_w, (oc6 6 6 a_wn e_w)), (a_wn, (arI G 36 f_w)), (a_bb, (arJ G 24 f_bb))]) hP hD [0] [1, 2, 3, 4, 5, 6, 7, 8, 9, 10, 11, 12, 13, 14, 15, 16, 17, 18, 19, 20, 21, 22, 23, 24, 25, 26, 27, 28, 29] rfl rfl (by decide) (by decide) hk1 hFc hP1 hD1
      generalize H1 = H at hP hS ⊢
      refine g5_rs [(a_rf, (arI G 5 f_rf)), (a_im, (arH G 2 (va_up (va_up (fun _ => none) 0 (some a_h2)) 1 (some a_h3)))), (a_ke, (arZ G 2 (upd f_ke 1 1))), (a_h3, (oc1 e_wa e_le e_st e_fo e_lc a_l3 a_g3 a_b3 a_s3 a_p3 a_w3 e_gb a_bb3)), (a_l3, (arW G 6 z5)), (a_g3, (oc6 6 5 a_gn3 e_g)), (a_gn3, (arI G 30 (va_cpy f_g f_g3 0 0 30))), (a_b3, (oc6 5 24 a_bn3 e_b)), (a_bn3, (arI G 120 (va_cpy f_b f_b3 0 0 120))), (a_s3, (oc6 10 4 a_sn3 e_s)), (a_sn3, (arI G 40 (va_cpy f_s f_s3 0 0 40))), (a_p3, (oc6 8 5 a_pn3 e_p)), (a_pn3, (arI G 40 (va_cpy f_p f_p3 0 0 40))), (a_w3, (oc6 6 6 a_wn3 e_w)), (a_wn3, (arI G 36 (va_cpy f_w f_w3 0 0 36))), (a_bb3, (arJ G 24 (va_cpy f_bb f_bb3 0 0 24))), (a_h, (oc1 e_wa e_le e_st e_fo e_lc a_l a_g a_b a_s a_p a_w e_gb a_bb)), (a_l, (arW G 6 f_l)), (a_g, (oc6 6 5 a_gn e_g)), (a_gn, (arI G 30 f_g)), (a_b, (oc6 5 24 a_bn e_b)), (a_bn, (arI G 120 f_b)), (a_s, (oc6 10 4 a_sn e_s)), (a_sn, (arI G 40 f_s)), (a_p, (oc6 8 5 a_pn e_p)), (a_pn, (arI G 40 f_p)), (a_w, (oc6 6 6 a_wn e_w)), (a_wn, (arI G 36 f_w)), (a_bb, (arJ G 24 f_bb)), (a_o, (oc11 a_h a_im a_ke a_k a_wa a_th a_ha a_wk a_r a_x e_tl e_fd e_fpl a_wd e_wn a_rf 0))] hP hD (fun hP hD => ?_)
      exact W.iret (v := 0) hx hb hr (fun t ht hW => ⟨⟨0, [(a_o, (oc11 a_h a_im a_ke a_k a_wa a_th a_ha a_wk a_r a_x e_tl e_fd e_fpl a_wd e_wn a_rf 0)), (a_rf, (arI G 5 f_rf)), (a_im, (arH G 2 (va_up (va_up (fun _ => none) 0 (some a_h2)) 1 (some a_h3)))), (a_ke, (arZ G 2 (upd f_ke 1 1))), (a_h, (oc1 e_wa e_le e_st e_fo e_lc a_l a_g a_b a_s a_p a_w e_gb a_bb)), (a_l, (arW G 6 f_l)), (a_g, (oc6 6 5 a_gn e_g)), (a_gn, (arI G 30 f_g)), (a_b, (oc6 5 24 a_bn e_b)), (a_bn, (arI G 120 f_b)), (a_s, (oc6 10 4 a_sn e_s)), (a_sn, (arI G 40 f_s)), (a_p, (oc6 8 5 a_pn e_p)), (a_pn, (arI G 40 f_p)), (a_w, (oc6 6 6 a_wn e_w)), (a_wn, (arI G 36 f_w)), (a_bb, (arJ G 24 f_bb)), (a_h3, (oc1 e_wa e_le e_st e_fo e_lc a_l3 a_g3 a_b3 a_s3 a_p3 a_w3 e_gb a_bb3)), (a_l3, (arW G 6 z5)), (a_g3, (oc6 6 5 a_gn3 e_g)), (a_gn3, (arI G 30 (va_cpy f_g f_g3 0 0 30))), (a_b3, (oc6 5 24 a_bn3 e_b)), (a_bn3, (arI G 120 (va_cpy f_b f_b3 0 0 120))), (a_s3, (oc6 10 4 a_sn3 e_s)), (a_sn3, (arI G 40 (va_cpy f_s f_s3 0 0 40))), (a_p3, (oc6 8 5 a_pn3 e_p)), (a_pn3, (arI G 40 (va_cpy f_p f_p3 0 0 40))), (a_w3, (oc6 6 6 a_wn3 e_w)), (a_wn3, (arI G 36 (va_cpy f_w f_w3 0 0 36))), (a_bb3, (arJ G 24 (va_cpy f_bb f_bb3 0 0 24)))], rfl, ⟨z5, i_4, rfl, rfl⟩, by rw [ht]; exact hP.sub [29, 0, 1, 2, 16, 17, 18, 19, 20, 21, 22, 23, 24, 25, 26, 27, 28, 3, 4, 5, 6, 7, 8, 9, 10, 11, 12, 13, 14, 15] rfl, hD.sub [29, 0, 1, 2, 16, 17, 18, 19, 20, 21, 22, 23, 24, 25, 26, 27, 28, 3, 4, 5, 6, 7, 8, 9, 10, 11, 12, 13, 14, 15] (by decide) rfl⟩, hS.F ht⟩) hS.2.2 dX11_image_38
    ·
      exact absurd c_3 (by decide)
  ·
    have i_2 : (1 : Int32).toInt < 0 ∨ 1 < (1 : Int32).toInt := i_2
    have hP := g5_same hP hk1
    generalize H1 = H at hP hS ⊢
    refine lv_if_ne (tgt := 13) hx hb dX11_image_4 (by decide) (fun c_6 => ?_) (fun c_6 => ?_)
    ·
      exact absurd c_6 (by decide)
    ·
      refine lv_aload_n hx hb dX11_image_7 rfl (lv_at hl 0 rfl) ?_
      refine lv_iconst (v := (-1)) hx hb dX11_image_8 (by decide) ?_
      obtain ⟨hPc, hDc, hFc⟩ := g5_sub3 (wc := [(a_o, (oc11 a_h a_im a_ke a_k a_wa a_th a_ha a_wk a_r a_x e_tl e_fd e_fpl a_wd e_wn a_rf e_lr)), (a_rf, (arI G 5 f_rf))]) hP hD hS hA [0, 1] (by decide) rfl
      refine va_calli (va_runV (As := [.int (-1)]) (rest := []) ⟨hx, hb, hml, hown, hts⟩ (x_refuse1 l G a_o a_rf a_h a_im a_ke a_k a_wa a_th a_ha a_wk a_r a_x a_wd H.size e_tl e_fd e_fpl e_wn e_lr f_rf h_e_tl h_e_wn) (cwV 1 hts gV_X11_104 rfl rfl rfl hv_X11_refuse ⟨Nat.le_of_ble_eq_true rfl, Nat.le_of_ble_eq_true rfl⟩) (g5_preV hPc hK hDc hN hT hS hFc (ci := 11) (q0 := 0) rfl rfl) rfl rfl hl.1 rfl (lv_room (Nat.le_of_ble_eq_true rfl)) dX11_image_9 ⟨Nat.le_of_ble_eq_true rfl, Nat.le_of_ble_eq_true rfl⟩) hS (fun q _ h => hFc q h) hFc (fun r u t H1 locs ht hvm hw hB hz1 hk1 hS => ?_)
      obtain ⟨hP1, hD1⟩ := hB
      rw [ht] at hP1
      obtain ⟨z7, rfl, rfl⟩ := hw
      obtain ⟨hP, hD⟩ := va_join (wr := [(a_im, (arH G 2 (va_up (va_up (fun _ => none) 0 (some a_h2)) 1 (some a_h3)))), (a_ke, (arZ G 2 f_ke)), (a_h, (oc1 e_wa e_le e_st e_fo e_lc a_l a_g a_b a_s a_p a_w e_gb a_bb)), (a_l, (arW G 6 f_l)), (a_g, (oc6 6 5 a_gn e_g)), (a_gn, (arI G 30 f_g)), (a_b, (oc6 5 24 a_bn e_b)), (a_bn, (arI G 120 f_b)), (a_s, (oc6 10 4 a_sn e_s)), (a_sn, (arI G 40 f_s)), (a_p, (oc6 8 5 a_pn e_p)), (a_pn, (arI G 40 f_p)), (a_w, (oc6 6 6 a_wn e_w)), (a_wn, (arI G 36 f_w)), (a_bb, (arJ G 24 f_bb)), (a_h3, (oc1 e_wa3 e_le3 e_st3 e_fo3 e_lc3 a_l3 a_g3 a_b3 a_s3 a_p3 a_w3 e_gb3 a_bb3)), (a_l3, (arW G 6 f_l3)), (a_g3, (oc6 6 5 a_gn3 e_g3)), (a_gn3, (arI G 30 f_g3)), (a_b3, (oc6 5 24 a_bn3 e_b3)), (a_bn3, (arI G 120 f_b3)), (a_s3, (oc6 10 4 a_sn3 e_s3)), (a_sn3, (arI G 40 f_s3)), (a_p3, (oc6 8 5 a_pn3 e_p3)), (a_pn3, (arI G 40 f_p3)), (a_w3, (oc6 6 6 a_wn3 e_w3)), (a_wn3, (arI G 36 f_w3)), (a_bb3, (arJ G 24 f_bb3))]) hP hD [0, 1] [2, 3, 4, 5, 6, 7, 8, 9, 10, 11, 12, 13, 14, 15, 16, 17, 18, 19, 20, 21, 22, 23, 24, 25, 26, 27, 28, 29] rfl rfl (by decide) (by decide) hk1 hFc hP1 hD1
      generalize H1 = H at hP hS ⊢
      refine g5_rs [(a_im, (arH G 2 (va_up (va_up (fun _ => none) 0 (some a_h2)) 1 (some a_h3)))), (a_ke, (arZ G 2 f_ke)), (a_h, (oc1 e_wa e_le e_st e_fo e_lc a_l a_g a_b a_s a_p a_w e_gb a_bb)), (a_l, (arW G 6 f_l)), (a_g, (oc6 6 5 a_gn e_g)), (a_gn, (arI G 30 f_g)), (a_b, (oc6 5 24 a_bn e_b)), (a_bn, (arI G 120 f_b)), (a_s, (oc6 10 4 a_sn e_s)), (a_sn, (arI G 40 f_s)), (a_p, (oc6 8 5 a_pn e_p)), (a_pn, (arI G 40 f_p)), (a_w, (oc6 6 6 a_wn e_w)), (a_wn, (arI G 36 f_w)), (a_bb, (arJ G 24 f_bb)), (a_h3, (oc1 e_wa3 e_le3 e_st3 e_fo3 e_lc3 a_l3 a_g3 a_b3 a_s3 a_p3 a_w3 e_gb3 a_bb3)), (a_l3, (arW G 6 f_l3)), (a_g3, (oc6 6 5 a_gn3 e_g3)), (a_gn3, (arI G 30 f_g3)), (a_b3, (oc6 5 24 a_bn3 e_b3)), (a_bn3, (arI G 120 f_b3)), (a_s3, (oc6 10 4 a_sn3 e_s3)), (a_sn3, (arI G 40 f_s3)), (a_p3, (oc6 8 5 a_pn3 e_p3)), (a_pn3, (arI G 40 f_p3)), (a_w3, (oc6 6 6 a_wn3 e_w3)), (a_wn3, (arI G 36 f_w3)), (a_bb3, (arJ G 24 f_bb3)), (a_o, (oc11 a_h a_im a_ke a_k a_wa a_th a_ha a_wk a_r a_x e_tl e_fd e_fpl a_wd e_wn a_rf (-1))), (a_rf, (arI G 5 z7))] hP hD (fun hP hD => ?_)
      exact absurd (show False by omega) (fun h => h)
set_option maxHeartbeats 4000000 in
set_option maxRecDepth 100000 in
theorem x_back1 (l : Launch) (G : g5_G) (a_o a_rf a_im a_ke a_h a_l a_g a_gn a_b a_bn a_s a_sn a_p a_pn a_w a_wn a_bb a_h3 a_l3 a_g3 a_gn3 a_b3 a_bn3 a_s3 a_sn3 a_p3 a_pn3 a_w3 a_wn3 a_bb3 a_k a_wa a_th a_ha a_wk a_r a_x a_wd a_h2 : Nat) (sz : Nat) (e_tl : Int32) (e_fd : Int32) (e_fpl : Int32) (e_wn : Int32) (e_lr : Int32) (e_le : Int32) (e_st : Int32) (e_fo : Int32) (e_lc : Int32) (e_g : Int32) (e_b : Int32) (e_s : Int32) (e_p : Int32) (e_w : Int32) (e_le3 : Int32) (e_st3 : Int32) (e_fo3 : Int32) (e_lc3 : Int32) (e_g3 : Int32) (e_b3 : Int32) (e_s3 : Int32) (e_p3 : Int32) (e_w3 : Int32) (e_wa : Int64) (e_gb : Int64) (e_wa3 : Int64) (e_gb3 : Int64) (f_rf : Nat → Int32) (f_ke : Nat → Int32) (f_l : Nat → Option Nat) (f_g : Nat → Int32) (f_b : Nat → Int32) (f_s : Nat → Int32) (f_p : Nat → Int32) (f_w : Nat → Int32) (f_bb : Nat → Int64) (f_l3 : Nat → Option Nat) (f_g3 : Nat → Int32) (f_b3 : Nat → Int32) (f_s3 : Nat → Int32) (f_p3 : Nat → Int32) (f_w3 : Nat → Int32) (f_bb3 : Nat → Int64) (h_e_tl : 0 ≤ e_tl.toInt ∧ e_tl.toInt ≤ 400) (h_e_wn : 0 ≤ e_wn.toInt ∧ e_wn.toInt ≤ 1) (h_e_g : 0 ≤ e_g.toInt ∧ e_g.toInt ≤ 6) (h_e_b : 0 ≤ e_b.toInt ∧ e_b.toInt ≤ 5) (h_e_s : 0 ≤ e_s.toInt ∧ e_s.toInt ≤ 10) (h_e_p : 0 ≤ e_p.toInt ∧ e_p.toInt ≤ 8) (h_e_w : 0 ≤ e_w.toInt ∧ e_w.toInt ≤ 6) (h_e_g3 : 0 ≤ e_g3.toInt ∧ e_g3.toInt ≤ 6) (h_e_b3 : 0 ≤ e_b3.toInt ∧ e_b3.toInt ≤ 5) (h_e_s3 : 0 ≤ e_s3.toInt ∧ e_s3.toInt ≤ 10) (h_e_p3 : 0 ≤ e_p3.toInt ∧ e_p3.toInt ≤ 8) (h_e_w3 : 0 ≤ e_w3.toInt ∧ e_w3.toInt ≤ 6) : Met l yX11_back (wsG yX11_back cX11_back 2 (some .int)) ({ frames := 3, cells := 0, slots := 0, locals := 103 }) (va_Pc [.ref a_o, .int 1] (g5_PL G f_l3 [(a_o, (oc11 a_h a_im a_ke a_k a_wa a_th a_ha a_wk a_r a_x e_tl e_fd e_fpl a_wd e_wn a_rf e_lr)), (a_rf, (arI G 5 f_rf)), (a_im, (arH G 2 (va_up (va_up (fun _ => none) 0 (some a_h2)) 1 (some a_h3)))), (a_ke, (arZ G 2 f_ke)), (a_h, (oc1 e_wa e_le e_st e_fo e_lc a_l a_g a_b a_s a_p a_w e_gb a_bb)), (a_l, (arW G 6 f_l)), (a_g, (oc6 6 5 a_gn e_g)), (a_gn, (arI G 30 f_g)), (a_b, (oc6 5 24 a_bn e_b)), (a_bn, (arI G 120 f_b)), (a_s, (oc6 10 4 a_sn e_s)), (a_sn, (arI G 40 f_s)), (a_p, (oc6 8 5 a_pn e_p)), (a_pn, (arI G 40 f_p)), (a_w, (oc6 6 6 a_wn e_w)), (a_wn, (arI G 36 f_w)), (a_bb, (arJ G 24 f_bb)), (a_h3, (oc1 e_wa3 e_le3 e_st3 e_fo3 e_lc3 a_l3 a_g3 a_b3 a_s3 a_p3 a_w3 e_gb3 a_bb3)), (a_l3, (arW G 6 f_l3)), (a_g3, (oc6 6 5 a_gn3 e_g3)), (a_gn3, (arI G 30 f_g3)), (a_b3, (oc6 5 24 a_bn3 e_b3)), (a_bn3, (arI G 120 f_b3)), (a_s3, (oc6 10 4 a_sn3 e_s3)), (a_sn3, (arI G 40 f_s3)), (a_p3, (oc6 8 5 a_pn3 e_p3)), (a_pn3, (arI G 40 f_p3)), (a_w3, (oc6 6 6 a_wn3 e_w3)), (a_wn3, (arI G 36 f_w3)), (a_bb3, (arJ G 24 f_bb3))] sz)) (va_Qi (fun (r : Int32) (u : va_W) => (∃ (o_l : Nat → Option Nat), ((f_ke 1).toInt ≠ 0) ∧ (∀ j : Nat, j < 6 → o_l j = f_l3 j) ∧ (r = 0) ∧ (u = [(a_o, (oc11 a_h a_im a_ke a_k a_wa a_th a_ha a_wk a_r a_x e_tl e_fd e_fpl a_wd e_wn a_rf 0)), (a_rf, (arI G 5 f_rf)), (a_im, (arH G 2 (va_up (va_up (fun _ => none) 0 (some a_h2)) 1 (some a_h3)))), (a_ke, (arZ G 2 f_ke)), (a_h, (oc1 e_wa3 e_le3 e_st3 e_fo3 e_lc3 a_l a_g a_b a_s a_p a_w e_gb3 a_bb)), (a_l, (arW G 6 o_l)), (a_g, (oc6 6 5 a_gn e_g3)), (a_gn, (arI G 30 (va_cpy f_g3 f_g 0 0 30))), (a_b, (oc6 5 24 a_bn e_b3)), (a_bn, (arI G 120 (va_cpy f_b3 f_b 0 0 120))), (a_s, (oc6 10 4 a_sn e_s3)), (a_sn, (arI G 40 (va_cpy f_s3 f_s 0 0 40))), (a_p, (oc6 8 5 a_pn e_p3)), (a_pn, (arI G 40 (va_cpy f_p3 f_p 0 0 40))), (a_w, (oc6 6 6 a_wn e_w3)), (a_wn, (arI G 36 (va_cpy f_w3 f_w 0 0 36))), (a_bb, (arJ G 24 (va_cpy f_bb3 f_bb 0 0 24))), (a_h3, (oc1 e_wa3 e_le3 e_st3 e_fo3 e_lc3 a_l3 a_g3 a_b3 a_s3 a_p3 a_w3 e_gb3 a_bb3)), (a_l3, (arW G 6 f_l3)), (a_g3, (oc6 6 5 a_gn3 e_g3)), (a_gn3, (arI G 30 f_g3)), (a_b3, (oc6 5 24 a_bn3 e_b3)), (a_bn3, (arI G 120 f_b3)), (a_s3, (oc6 10 4 a_sn3 e_s3)), (a_sn3, (arI G 40 f_s3)), (a_p3, (oc6 8 5 a_pn3 e_p3)), (a_pn3, (arI G 40 f_p3)), (a_w3, (oc6 6 6 a_wn3 e_w3)), (a_wn3, (arI G 36 f_w3)), (a_bb3, (arJ G 24 f_bb3))])) ∨ (∃ (o_rf : Nat → Int32), ((f_ke 1).toInt = 0) ∧ (r = (-2)) ∧ (u = [(a_o, (oc11 a_h a_im a_ke a_k a_wa a_th a_ha a_wk a_r a_x e_tl e_fd e_fpl a_wd e_wn a_rf (-2))), (a_rf, (arI G 5 o_rf)), (a_im, (arH G 2 (va_up (va_up (fun _ => none) 0 (some a_h2)) 1 (some a_h3)))), (a_ke, (arZ G 2 f_ke)), (a_h, (oc1 e_wa e_le e_st e_fo e_lc a_l a_g a_b a_s a_p a_w e_gb a_bb)), (a_l, (arW G 6 f_l)), (a_g, (oc6 6 5 a_gn e_g)), (a_gn, (arI G 30 f_g)), (a_b, (oc6 5 24 a_bn e_b)), (a_bn, (arI G 120 f_b)), (a_s, (oc6 10 4 a_sn e_s)), (a_sn, (arI G 40 f_s)), (a_p, (oc6 8 5 a_pn e_p)), (a_pn, (arI G 40 f_p)), (a_w, (oc6 6 6 a_wn e_w)), (a_wn, (arI G 36 f_w)), (a_bb, (arJ G 24 f_bb)), (a_h3, (oc1 e_wa3 e_le3 e_st3 e_fo3 e_lc3 a_l3 a_g3 a_b3 a_s3 a_p3 a_w3 e_gb3 a_bb3)), (a_l3, (arW G 6 f_l3)), (a_g3, (oc6 6 5 a_gn3 e_g3)), (a_gn3, (arI G 30 f_g3)), (a_b3, (oc6 5 24 a_bn3 e_b3)), (a_bn3, (arI G 120 f_b3)), (a_s3, (oc6 10 4 a_sn3 e_s3)), (a_sn3, (arI G 40 f_s3)), (a_p3, (oc6 8 5 a_pn3 e_p3)), (a_pn3, (arI G 40 f_p3)), (a_w3, (oc6 6 6 a_wn3 e_w3)), (a_wn3, (arI G 36 f_w3)), (a_bb3, (arJ G 24 f_bb3))]))) (g5_B G (va_A [(a_o, (oc11 a_h a_im a_ke a_k a_wa a_th a_ha a_wk a_r a_x e_tl e_fd e_fpl a_wd e_wn a_rf e_lr)), (a_rf, (arI G 5 f_rf)), (a_im, (arH G 2 (va_up (va_up (fun _ => none) 0 (some a_h2)) 1 (some a_h3)))), (a_ke, (arZ G 2 f_ke)), (a_h, (oc1 e_wa e_le e_st e_fo e_lc a_l a_g a_b a_s a_p a_w e_gb a_bb)), (a_l, (arW G 6 f_l)), (a_g, (oc6 6 5 a_gn e_g)), (a_gn, (arI G 30 f_g)), (a_b, (oc6 5 24 a_bn e_b)), (a_bn, (arI G 120 f_b)), (a_s, (oc6 10 4 a_sn e_s)), (a_sn, (arI G 40 f_s)), (a_p, (oc6 8 5 a_pn e_p)), (a_pn, (arI G 40 f_p)), (a_w, (oc6 6 6 a_wn e_w)), (a_wn, (arI G 36 f_w)), (a_bb, (arJ G 24 f_bb)), (a_h3, (oc1 e_wa3 e_le3 e_st3 e_fo3 e_lc3 a_l3 a_g3 a_b3 a_s3 a_p3 a_w3 e_gb3 a_bb3)), (a_l3, (arW G 6 f_l3)), (a_g3, (oc6 6 5 a_gn3 e_g3)), (a_gn3, (arI G 30 f_g3)), (a_b3, (oc6 5 24 a_bn3 e_b3)), (a_bn3, (arI G 120 f_b3)), (a_s3, (oc6 10 4 a_sn3 e_s3)), (a_sn3, (arI G 40 f_s3)), (a_p3, (oc6 8 5 a_pn3 e_p3)), (a_pn3, (arI G 40 f_p3)), (a_w3, (oc6 6 6 a_wn3 e_w3)), (a_wn3, (arI G 36 f_w3)), (a_bb3, (arJ G 24 f_bb3))] sz)) (va_A [(a_o, (oc11 a_h a_im a_ke a_k a_wa a_th a_ha a_wk a_r a_x e_tl e_fd e_fpl a_wd e_wn a_rf e_lr)), (a_rf, (arI G 5 f_rf)), (a_im, (arH G 2 (va_up (va_up (fun _ => none) 0 (some a_h2)) 1 (some a_h3)))), (a_ke, (arZ G 2 f_ke)), (a_h, (oc1 e_wa e_le e_st e_fo e_lc a_l a_g a_b a_s a_p a_w e_gb a_bb)), (a_l, (arW G 6 f_l)), (a_g, (oc6 6 5 a_gn e_g)), (a_gn, (arI G 30 f_g)), (a_b, (oc6 5 24 a_bn e_b)), (a_bn, (arI G 120 f_b)), (a_s, (oc6 10 4 a_sn e_s)), (a_sn, (arI G 40 f_s)), (a_p, (oc6 8 5 a_pn e_p)), (a_pn, (arI G 40 f_p)), (a_w, (oc6 6 6 a_wn e_w)), (a_wn, (arI G 36 f_w)), (a_bb, (arJ G 24 f_bb)), (a_h3, (oc1 e_wa3 e_le3 e_st3 e_fo3 e_lc3 a_l3 a_g3 a_b3 a_s3 a_p3 a_w3 e_gb3 a_bb3)), (a_l3, (arW G 6 f_l3)), (a_g3, (oc6 6 5 a_gn3 e_g3)), (a_gn3, (arI G 30 f_g3)), (a_b3, (oc6 5 24 a_bn3 e_b3)), (a_bn3, (arI G 120 f_b3)), (a_s3, (oc6 10 4 a_sn3 e_s3)), (a_sn3, (arI G 40 f_s3)), (a_p3, (oc6 8 5 a_pn3 e_p3)), (a_pn3, (arI G 40 f_p3)), (a_w3, (oc6 6 6 a_wn3 e_w3)), (a_wn3, (arI G 36 f_w3)), (a_bb3, (arJ G 24 f_bb3))] sz)) 0 0 (va_A [(a_o, (oc11 a_h a_im a_ke a_k a_wa a_th a_ha a_wk a_r a_x e_tl e_fd e_fpl a_wd e_wn a_rf e_lr)), (a_rf, (arI G 5 f_rf)), (a_im, (arH G 2 (va_up (va_up (fun _ => none) 0 (some a_h2)) 1 (some a_h3)))), (a_ke, (arZ G 2 f_ke)), (a_h, (oc1 e_wa e_le e_st e_fo e_lc a_l a_g a_b a_s a_p a_w e_gb a_bb)), (a_l, (arW G 6 f_l)), (a_g, (oc6 6 5 a_gn e_g)), (a_gn, (arI G 30 f_g)), (a_b, (oc6 5 24 a_bn e_b)), (a_bn, (arI G 120 f_b)), (a_s, (oc6 10 4 a_sn e_s)), (a_sn, (arI G 40 f_s)), (a_p, (oc6 8 5 a_pn e_p)), (a_pn, (arI G 40 f_p)), (a_w, (oc6 6 6 a_wn e_w)), (a_wn, (arI G 36 f_w)), (a_bb, (arJ G 24 f_bb)), (a_h3, (oc1 e_wa3 e_le3 e_st3 e_fo3 e_lc3 a_l3 a_g3 a_b3 a_s3 a_p3 a_w3 e_gb3 a_bb3)), (a_l3, (arW G 6 f_l3)), (a_g3, (oc6 6 5 a_gn3 e_g3)), (a_gn3, (arI G 30 f_g3)), (a_b3, (oc6 5 24 a_bn3 e_b3)), (a_bn3, (arI G 120 f_b3)), (a_s3, (oc6 10 4 a_sn3 e_s3)), (a_sn3, (arI G 40 f_s3)), (a_p3, (oc6 8 5 a_pn3 e_p3)), (a_pn3, (arI G 40 f_p3)), (a_w3, (oc6 6 6 a_wn3 e_w3)), (a_wn3, (arI G 36 f_w3)), (a_bb3, (arJ G 24 f_bb3))] sz) := by
  refine Met.ofW (cc := cX11_back) (maxL := 2) (ret := (some .int)) (by decide) rfl ?_
  intro p e s m args below meth c s₁ B hml hv
  obtain ⟨rfl, ⟨hsz, hP, hK, hD0, hN, hT⟩, hLA⟩ := hv
  have hx := B.exec
  have hb := B.bytes
  have hr := B.returns
  have hts : ∀ w ∈ tblG, w.before _ s = true := fun w h => atoms_spec (ws := (wsG yX11_back cX11_back 2 (some .int))) B.pre w (List.mem_cons_of_mem _ h)
  have hown : s.vm.findClass RX11 = some m.cls := findClass_of_methodNamed B.named
  have hlocks := B.notSynchronized
  subst hsz
  have hD := hD0.self (sz := s.heap.size)
  generalize hAe : va_A [(a_o, (oc11 a_h a_im a_ke a_k a_wa a_th a_ha a_wk a_r a_x e_tl e_fd e_fpl a_wd e_wn a_rf e_lr)), (a_rf, (arI G 5 f_rf)), (a_im, (arH G 2 (va_up (va_up (fun _ => none) 0 (some a_h2)) 1 (some a_h3)))), (a_ke, (arZ G 2 f_ke)), (a_h, (oc1 e_wa e_le e_st e_fo e_lc a_l a_g a_b a_s a_p a_w e_gb a_bb)), (a_l, (arW G 6 f_l)), (a_g, (oc6 6 5 a_gn e_g)), (a_gn, (arI G 30 f_g)), (a_b, (oc6 5 24 a_bn e_b)), (a_bn, (arI G 120 f_b)), (a_s, (oc6 10 4 a_sn e_s)), (a_sn, (arI G 40 f_s)), (a_p, (oc6 8 5 a_pn e_p)), (a_pn, (arI G 40 f_p)), (a_w, (oc6 6 6 a_wn e_w)), (a_wn, (arI G 36 f_w)), (a_bb, (arJ G 24 f_bb)), (a_h3, (oc1 e_wa3 e_le3 e_st3 e_fo3 e_lc3 a_l3 a_g3 a_b3 a_s3 a_p3 a_w3 e_gb3 a_bb3)), (a_l3, (arW G 6 f_l3)), (a_g3, (oc6 6 5 a_gn3 e_g3)), (a_gn3, (arI G 30 f_g3)), (a_b3, (oc6 5 24 a_bn3 e_b3)), (a_bn3, (arI G 120 f_b3)), (a_s3, (oc6 10 4 a_sn3 e_s3)), (a_sn3, (arI G 40 f_s3)), (a_p3, (oc6 8 5 a_pn3 e_p3)), (a_pn3, (arI G 40 f_p3)), (a_w3, (oc6 6 6 a_wn3 e_w3)), (a_wn3, (arI G 36 f_w3)), (a_bb3, (arJ G 24 f_bb3))] s.heap.size = A at hD hT hLA ⊢
  have hA : ∀ q : Nat, s.heap.size ≤ q → A q := fun q h => by rw [← hAe]; exact Or.inr h
  have hS : va_S A s.heap s.heap [] := va_S.rf
  have hP : va_P G.1 vwCl [(a_o, (oc11 a_h a_im a_ke a_k a_wa a_th a_ha a_wk a_r a_x e_tl e_fd e_fpl a_wd e_wn a_rf e_lr)), (a_rf, (arI G 5 f_rf)), (a_im, (arH G 2 (va_up (va_up (fun _ => none) 0 (some a_h2)) 1 (some a_h3)))), (a_ke, (arZ G 2 f_ke)), (a_h, (oc1 e_wa e_le e_st e_fo e_lc a_l a_g a_b a_s a_p a_w e_gb a_bb)), (a_l, (arW G 6 f_l)), (a_g, (oc6 6 5 a_gn e_g)), (a_gn, (arI G 30 f_g)), (a_b, (oc6 5 24 a_bn e_b)), (a_bn, (arI G 120 f_b)), (a_s, (oc6 10 4 a_sn e_s)), (a_sn, (arI G 40 f_s)), (a_p, (oc6 8 5 a_pn e_p)), (a_pn, (arI G 40 f_p)), (a_w, (oc6 6 6 a_wn e_w)), (a_wn, (arI G 36 f_w)), (a_bb, (arJ G 24 f_bb)), (a_h3, (oc1 e_wa3 e_le3 e_st3 e_fo3 e_lc3 a_l3 a_g3 a_b3 a_s3 a_p3 a_w3 e_gb3 a_bb3)), (a_l3, (arW G 6 f_l3)), (a_g3, (oc6 6 5 a_gn3 e_g3)), (a_gn3, (arI G 30 f_g3)), (a_b3, (oc6 5 24 a_bn3 e_b3)), (a_bn3, (arI G 120 f_b3)), (a_s3, (oc6 10 4 a_sn3 e_s3)), (a_sn3, (arI G 40 f_s3)), (a_p3, (oc6 8 5 a_pn3 e_p3)), (a_pn3, (arI G 40 f_p3)), (a_w3, (oc6 6 6 a_wn3 e_w3)), (a_wn3, (arI G 36 f_w3)), (a_bb3, (arJ G 24 f_bb3))] s.heap := hP
  have hl := lv_entry ([.ref a_o, .int 1]) (n := 2) (Nat.le_of_ble_eq_true rfl)
  rw [lg_entry_eq]
  generalize (lg_sl ([.ref a_o, .int 1]) ++ List.replicate (2 - (lg_sl ([.ref a_o, .int 1])).length) Slot.unset).toArray = ls at hl ⊢
  have hl : lv_has ls 2 [(0, .ref a_o), (1, .int 1)] := hl
  have zc9 : (1 : Int32).toInt = 1 := (by decide)
  refine lv_iload_n hx hb dX11_back_0 rfl (lv_at hl 1 rfl) ?_
  obtain ⟨hPc, hDc, hFc⟩ := g5_sub3 (wc := []) hP hD hS hA [] (by decide) rfl
  refine va_calli (va_runS (As := [.int 1]) (rest := []) ⟨hx, hb, hml, hown, hts⟩ (x_isImage l G s.heap.size 1) (va_cwS 1 hts gS_X11_351 rfl rfl rfl hs_X11_isImage ⟨Nat.le_of_ble_eq_true rfl, Nat.le_of_ble_eq_true rfl⟩) (g5_preS hPc hK hDc hN hT hS hFc) rfl rfl hl.1 rfl (lv_room (Nat.le_of_ble_eq_true rfl)) dX11_back_1 ⟨Nat.le_of_ble_eq_true rfl, Nat.le_of_ble_eq_true rfl⟩) hS (fun q _ h => hFc q h) hFc (fun r u t H1 locs ht hvm hw hB hz1 hk1 hS => ?_)
  obtain ⟨hP1, hD1⟩ := hB
  rw [ht] at hP1
  rcases hw with ⟨i_1, rfl, rfl⟩ | ⟨i_2, rfl, rfl⟩
  ·
    have i_1 : 0 ≤ (1 : Int32).toInt ∧ (1 : Int32).toInt ≤ 1 := i_1
    have hP := g5_same hP hk1
    generalize H1 = H at hP hS ⊢
    refine lv_if_ne (tgt := 13) hx hb dX11_back_4 (by decide) (fun c_3 => ?_) (fun c_3 => ?_)
    ·
      refine lv_aload_n hx hb dX11_back_13 rfl (lv_at hl 0 rfl) ?_
      refine va_get (D := G.1) (ci := 11) (v := .ref a_ke) (C := RX11) (T := TX11) (N := 17) hx hb hts inG_X11 hown hK hP 0 rfl rfl 2 (by decide) (hts _ fl_X11_20) (fun _ h9 => h9) rfl dX11_back_14 ?_
      refine lv_iload_n hx hb dX11_back_17 rfl (lv_at hl 1 rfl) ?_
      refine va_zald hx hb hK hP 3 2 rfl rfl (i := 1) (by unfold vp_in; decide) dX11_back_18 ?_
      refine g5_ti (v := (f_ke 1)) rfl ?_
      refine lv_if_ne (tgt := 29) hx hb dX11_back_19 (by decide) (fun c_4 => ?_) (fun c_4 => ?_)
      ·
        have n_4 : gNe ((f_ke 1).toInt) (0) := by have z := g5_ne (a := (f_ke 1).toInt) (b := 0) (by rfl) (by decide) c_4; unfold gNe; omega
        refine lv_aload_n hx hb dX11_back_29 rfl (lv_at hl 0 rfl) ?_
        refine va_get (D := G.1) (ci := 11) (v := .ref a_h) (C := RX11) (T := TX11) (N := 17) hx hb hts inG_X11 hown hK hP 0 rfl rfl 0 (by decide) (hts _ fl_X11_12) (fun _ h9 => h9) rfl dX11_back_30 ?_
        refine lv_aload_n hx hb dX11_back_33 rfl (lv_at hl 0 rfl) ?_
        refine va_get (D := G.1) (ci := 11) (v := .ref a_im) (C := RX11) (T := TX11) (N := 17) hx hb hts inG_X11 hown hK hP 0 rfl rfl 1 (by decide) (hts _ fl_X11_16) (fun _ h9 => h9) rfl dX11_back_34 ?_
        refine lv_iload_n hx hb dX11_back_37 rfl (lv_at hl 1 rfl) ?_
        refine va_aldq hx hb hK hP 2 3 rfl rfl (i := 1) (by unfold vp_in; decide) dX11_back_38 ?_
        refine g5_tv (v := .ref a_h3) rfl ?_
        obtain ⟨hPc, hDc, hFc⟩ := g5_sub3 (wc := [(a_h, (oc1 e_wa e_le e_st e_fo e_lc a_l a_g a_b a_s a_p a_w e_gb a_bb)), (a_l, (arW G 6 f_l)), (a_g, (oc6 6 5 a_gn e_g)), (a_gn, (arI G 30 f_g)), (a_b, (oc6 5 24 a_bn e_b)), (a_bn, (arI G 120 f_b)), (a_s, (oc6 10 4 a_sn e_s)), (a_sn, (arI G 40 f_s)), (a_p, (oc6 8 5 a_pn e_p)), (a_pn, (arI G 40 f_p)), (a_w, (oc6 6 6 a_wn e_w)), (a_wn, (arI G 36 f_w)), (a_bb, (arJ G 24 f_bb)), (a_h3, (oc1 e_wa3 e_le3 e_st3 e_fo3 e_lc3 a_l3 a_g3 a_b3 a_s3 a_p3 a_w3 e_gb3 a_bb3)), (a_l3, (arW G 6 f_l3)), (a_g3, (oc6 6 5 a_gn3 e_g3)), (a_gn3, (arI G 30 f_g3)), (a_b3, (oc6 5 24 a_bn3 e_b3)), (a_bn3, (arI G 120 f_b3)), (a_s3, (oc6 10 4 a_sn3 e_s3)), (a_sn3, (arI G 40 f_s3)), (a_p3, (oc6 8 5 a_pn3 e_p3)), (a_pn3, (arI G 40 f_p3)), (a_w3, (oc6 6 6 a_wn3 e_w3)), (a_wn3, (arI G 36 f_w3)), (a_bb3, (arJ G 24 f_bb3))]) hP hD hS hA [4, 5, 6, 7, 8, 9, 10, 11, 12, 13, 14, 15, 16, 17, 18, 19, 20, 21, 22, 23, 24, 25, 26, 27, 28, 29] (by decide) rfl
        refine va_callv (va_runV (As := [.ref a_h3]) (rest := []) ⟨hx, hb, hml, hown, hts⟩ (h_copyFrom l G a_h a_l a_g a_gn a_b a_bn a_s a_sn a_p a_pn a_w a_wn a_bb a_h3 a_l3 a_g3 a_gn3 a_b3 a_bn3 a_s3 a_sn3 a_p3 a_pn3 a_w3 a_wn3 a_bb3 H.size e_le e_st e_fo e_lc e_g e_b e_s e_p e_w e_le3 e_st3 e_fo3 e_lc3 e_g3 e_b3 e_s3 e_p3 e_w3 e_wa e_gb e_wa3 e_gb3 f_l f_g f_b f_s f_p f_w f_bb f_l3 f_g3 f_b3 f_s3 f_p3 f_w3 f_bb3 h_e_g h_e_b h_e_s h_e_p h_e_w h_e_g3 h_e_b3 h_e_s3 h_e_p3 h_e_w3) (cwV 1 hts gV_X11_354 rfl rfl rfl hv_X1_copyFrom ⟨Nat.le_of_ble_eq_true rfl, Nat.le_of_ble_eq_true rfl⟩) (g5_preVL hPc hK hDc hN hT hS hFc hLA (ci := 1) (q0 := 0) rfl rfl) rfl rfl hl.1 rfl (lv_room (Nat.le_of_ble_eq_true rfl)) dX11_back_39 ⟨Nat.le_of_ble_eq_true rfl, Nat.le_of_ble_eq_true rfl⟩) hS (fun q _ h => hFc q h) hFc (fun u t H1 locs ht hvm hw hB hz1 hk1 hS => ?_)
        obtain ⟨hP1, hD1⟩ := hB
        rw [ht] at hP1
        obtain ⟨z6, i_5, rfl⟩ := hw
        have i_5 : ∀ j : Nat, j < 6 → z6 j = f_l3 j := i_5
        obtain ⟨hP, hD⟩ := va_join (wr := [(a_o, (oc11 a_h a_im a_ke a_k a_wa a_th a_ha a_wk a_r a_x e_tl e_fd e_fpl a_wd e_wn a_rf e_lr)), (a_rf, (arI G 5 f_rf)), (a_im, (arH G 2 (va_up (va_up (fun _ => none) 0 (some a_h2)) 1 (some a_h3)))), (a_ke, (arZ G 2 f_ke))]) hP hD [4, 5, 6, 7, 8, 9, 10, 11, 12, 13, 14, 15, 16, 17, 18, 19, 20, 21, 22, 23, 24, 25, 26, 27, 28, 29] [0, 1, 2, 3] rfl rfl (by decide) (by decide) hk1 hFc hP1 hD1
        generalize H1 = H at hP hS ⊢
        refine g5_rs [(a_o, (oc11 a_h a_im a_ke a_k a_wa a_th a_ha a_wk a_r a_x e_tl e_fd e_fpl a_wd e_wn a_rf e_lr)), (a_rf, (arI G 5 f_rf)), (a_im, (arH G 2 (va_up (va_up (fun _ => none) 0 (some a_h2)) 1 (some a_h3)))), (a_ke, (arZ G 2 f_ke)), (a_h, (oc1 e_wa3 e_le3 e_st3 e_fo3 e_lc3 a_l a_g a_b a_s a_p a_w e_gb3 a_bb)), (a_l, (arW G 6 z6)), (a_g, (oc6 6 5 a_gn e_g3)), (a_gn, (arI G 30 (va_cpy f_g3 f_g 0 0 30))), (a_b, (oc6 5 24 a_bn e_b3)), (a_bn, (arI G 120 (va_cpy f_b3 f_b 0 0 120))), (a_s, (oc6 10 4 a_sn e_s3)), (a_sn, (arI G 40 (va_cpy f_s3 f_s 0 0 40))), (a_p, (oc6 8 5 a_pn e_p3)), (a_pn, (arI G 40 (va_cpy f_p3 f_p 0 0 40))), (a_w, (oc6 6 6 a_wn e_w3)), (a_wn, (arI G 36 (va_cpy f_w3 f_w 0 0 36))), (a_bb, (arJ G 24 (va_cpy f_bb3 f_bb 0 0 24))), (a_h3, (oc1 e_wa3 e_le3 e_st3 e_fo3 e_lc3 a_l3 a_g3 a_b3 a_s3 a_p3 a_w3 e_gb3 a_bb3)), (a_l3, (arW G 6 f_l3)), (a_g3, (oc6 6 5 a_gn3 e_g3)), (a_gn3, (arI G 30 f_g3)), (a_b3, (oc6 5 24 a_bn3 e_b3)), (a_bn3, (arI G 120 f_b3)), (a_s3, (oc6 10 4 a_sn3 e_s3)), (a_sn3, (arI G 40 f_s3)), (a_p3, (oc6 8 5 a_pn3 e_p3)), (a_pn3, (arI G 40 f_p3)), (a_w3, (oc6 6 6 a_wn3 e_w3)), (a_wn3, (arI G 36 f_w3)), (a_bb3, (arJ G 24 f_bb3))] hP hD (fun hP hD => ?_)
        refine lv_aload_n hx hb dX11_back_42 rfl (lv_at hl 0 rfl) ?_
        refine lv_iconst (v := 0) hx hb dX11_back_43 (by decide) ?_
        obtain ⟨hPc, hDc, hFc⟩ := g5_sub3 (wc := [(a_o, (oc11 a_h a_im a_ke a_k a_wa a_th a_ha a_wk a_r a_x e_tl e_fd e_fpl a_wd e_wn a_rf e_lr))]) hP hD hS hA [0] (by decide) rfl
        refine va_calli (va_runV (As := [.int 0]) (rest := []) ⟨hx, hb, hml, hown, hts⟩ (x_done l G a_o a_h a_im a_ke a_k a_wa a_th a_ha a_wk a_r a_x a_wd a_rf H.size e_tl e_fd e_fpl e_wn e_lr 0 h_e_tl h_e_wn) (cwV 1 hts gV_X11_121 rfl rfl rfl hv_X11_done ⟨Nat.le_of_ble_eq_true rfl, Nat.le_of_ble_eq_true rfl⟩) (g5_preV hPc hK hDc hN hT hS hFc (ci := 11) (q0 := 0) rfl rfl) rfl rfl hl.1 rfl (lv_room (Nat.le_of_ble_eq_true rfl)) dX11_back_44 ⟨Nat.le_of_ble_eq_true rfl, Nat.le_of_ble_eq_true rfl⟩) hS (fun q _ h => hFc q h) hFc (fun r u t H1 locs ht hvm hw hB hz1 hk1 hS => ?_)
        obtain ⟨hP1, hD1⟩ := hB
        rw [ht] at hP1
        obtain ⟨rfl, rfl⟩ := hw
        obtain ⟨hP, hD⟩ := va_join (wr := [(a_rf, (arI G 5 f_rf)), (a_im, (arH G 2 (va_up (va_up (fun _ => none) 0 (some a_h2)) 1 (some a_h3)))), (a_ke, (arZ G 2 f_ke)), (a_h, (oc1 e_wa3 e_le3 e_st3 e_fo3 e_lc3 a_l a_g a_b a_s a_p a_w e_gb3 a_bb)), (a_l, (arW G 6 z6)), (a_g, (oc6 6 5 a_gn e_g3)), (a_gn, (arI G 30 (va_cpy f_g3 f_g 0 0 30))), (a_b, (oc6 5 24 a_bn e_b3)), (a_bn, (arI G 120 (va_cpy f_b3 f_b 0 0 120))), (a_s, (oc6 10 4 a_sn e_s3)), (a_sn, (arI G 40 (va_cpy f_s3 f_s 0 0 40))), (a_p, (oc6 8 5 a_pn e_p3)), (a_pn, (arI G 40 (va_cpy f_p3 f_p 0 0 40))), (a_w, (oc6 6 6 a_wn e_w3)), (a_wn, (arI G 36 (va_cpy f_w3 f_w 0 0 36))), (a_bb, (arJ G 24 (va_cpy f_bb3 f_bb 0 0 24))), (a_h3, (oc1 e_wa3 e_le3 e_st3 e_fo3 e_lc3 a_l3 a_g3 a_b3 a_s3 a_p3 a_w3 e_gb3 a_bb3)), (a_l3, (arW G 6 f_l3)), (a_g3, (oc6 6 5 a_gn3 e_g3)), (a_gn3, (arI G 30 f_g3)), (a_b3, (oc6 5 24 a_bn3 e_b3)), (a_bn3, (arI G 120 f_b3)), (a_s3, (oc6 10 4 a_sn3 e_s3)), (a_sn3, (arI G 40 f_s3)), (a_p3, (oc6 8 5 a_pn3 e_p3)), (a_pn3, (arI G 40 f_p3)), (a_w3, (oc6 6 6 a_wn3 e_w3)), (a_wn3, (arI G 36 f_w3)), (a_bb3, (arJ G 24 f_bb3))]) hP hD [0] [1, 2, 3, 4, 5, 6, 7, 8, 9, 10, 11, 12, 13, 14, 15, 16, 17, 18, 19, 20, 21, 22, 23, 24, 25, 26, 27, 28, 29] rfl rfl (by decide) (by decide) hk1 hFc hP1 hD1
        generalize H1 = H at hP hS ⊢
        refine g5_rs [(a_rf, (arI G 5 f_rf)), (a_im, (arH G 2 (va_up (va_up (fun _ => none) 0 (some a_h2)) 1 (some a_h3)))), (a_ke, (arZ G 2 f_ke)), (a_h, (oc1 e_wa3 e_le3 e_st3 e_fo3 e_lc3 a_l a_g a_b a_s a_p a_w e_gb3 a_bb)), (a_l, (arW G 6 z6)), (a_g, (oc6 6 5 a_gn e_g3)), (a_gn, (arI G 30 (va_cpy f_g3 f_g 0 0 30))), (a_b, (oc6 5 24 a_bn e_b3)), (a_bn, (arI G 120 (va_cpy f_b3 f_b 0 0 120))), (a_s, (oc6 10 4 a_sn e_s3)), (a_sn, (arI G 40 (va_cpy f_s3 f_s 0 0 40))), (a_p, (oc6 8 5 a_pn e_p3)), (a_pn, (arI G 40 (va_cpy f_p3 f_p 0 0 40))), (a_w, (oc6 6 6 a_wn e_w3)), (a_wn, (arI G 36 (va_cpy f_w3 f_w 0 0 36))), (a_bb, (arJ G 24 (va_cpy f_bb3 f_bb 0 0 24))), (a_h3, (oc1 e_wa3 e_le3 e_st3 e_fo3 e_lc3 a_l3 a_g3 a_b3 a_s3 a_p3 a_w3 e_gb3 a_bb3)), (a_l3, (arW G 6 f_l3)), (a_g3, (oc6 6 5 a_gn3 e_g3)), (a_gn3, (arI G 30 f_g3)), (a_b3, (oc6 5 24 a_bn3 e_b3)), (a_bn3, (arI G 120 f_b3)), (a_s3, (oc6 10 4 a_sn3 e_s3)), (a_sn3, (arI G 40 f_s3)), (a_p3, (oc6 8 5 a_pn3 e_p3)), (a_pn3, (arI G 40 f_p3)), (a_w3, (oc6 6 6 a_wn3 e_w3)), (a_wn3, (arI G 36 f_w3)), (a_bb3, (arJ G 24 f_bb3)), (a_o, (oc11 a_h a_im a_ke a_k a_wa a_th a_ha a_wk a_r a_x e_tl e_fd e_fpl a_wd e_wn a_rf 0))] hP hD (fun hP hD => ?_)
        exact W.iret (v := 0) hx hb hr (fun t ht hW => ⟨⟨0, [(a_o, (oc11 a_h a_im a_ke a_k a_wa a_th a_ha a_wk a_r a_x e_tl e_fd e_fpl a_wd e_wn a_rf 0)), (a_rf, (arI G 5 f_rf)), (a_im, (arH G 2 (va_up (va_up (fun _ => none) 0 (some a_h2)) 1 (some a_h3)))), (a_ke, (arZ G 2 f_ke)), (a_h, (oc1 e_wa3 e_le3 e_st3 e_fo3 e_lc3 a_l a_g a_b a_s a_p a_w e_gb3 a_bb)), (a_l, (arW G 6 z6)), (a_g, (oc6 6 5 a_gn e_g3)), (a_gn, (arI G 30 (va_cpy f_g3 f_g 0 0 30))), (a_b, (oc6 5 24 a_bn e_b3)), (a_bn, (arI G 120 (va_cpy f_b3 f_b 0 0 120))), (a_s, (oc6 10 4 a_sn e_s3)), (a_sn, (arI G 40 (va_cpy f_s3 f_s 0 0 40))), (a_p, (oc6 8 5 a_pn e_p3)), (a_pn, (arI G 40 (va_cpy f_p3 f_p 0 0 40))), (a_w, (oc6 6 6 a_wn e_w3)), (a_wn, (arI G 36 (va_cpy f_w3 f_w 0 0 36))), (a_bb, (arJ G 24 (va_cpy f_bb3 f_bb 0 0 24))), (a_h3, (oc1 e_wa3 e_le3 e_st3 e_fo3 e_lc3 a_l3 a_g3 a_b3 a_s3 a_p3 a_w3 e_gb3 a_bb3)), (a_l3, (arW G 6 f_l3)), (a_g3, (oc6 6 5 a_gn3 e_g3)), (a_gn3, (arI G 30 f_g3)), (a_b3, (oc6 5 24 a_bn3 e_b3)), (a_bn3, (arI G 120 f_b3)), (a_s3, (oc6 10 4 a_sn3 e_s3)), (a_sn3, (arI G 40 f_s3)), (a_p3, (oc6 8 5 a_pn3 e_p3)), (a_pn3, (arI G 40 f_p3)), (a_w3, (oc6 6 6 a_wn3 e_w3)), (a_wn3, (arI G 36 f_w3)), (a_bb3, (arJ G 24 f_bb3))], rfl, Or.inl (⟨z6, n_4, i_5, rfl, rfl⟩), by rw [ht]; exact hP.sub [29, 0, 1, 2, 3, 4, 5, 6, 7, 8, 9, 10, 11, 12, 13, 14, 15, 16, 17, 18, 19, 20, 21, 22, 23, 24, 25, 26, 27, 28] rfl, hD.sub [29, 0, 1, 2, 3, 4, 5, 6, 7, 8, 9, 10, 11, 12, 13, 14, 15, 16, 17, 18, 19, 20, 21, 22, 23, 24, 25, 26, 27, 28] (by decide) rfl⟩, hS.F ht⟩) hS.2.2 dX11_back_47
      ·
        have i_4 : (f_ke 1).toInt = 0 := by have z := g5_neN (a := (f_ke 1).toInt) (b := 0) (by rfl) (by decide) c_4; omega
        refine lv_aload_n hx hb dX11_back_22 rfl (lv_at hl 0 rfl) ?_
        refine lv_bipush (v := (-2)) hx hb dX11_back_23 (by decide) ?_
        obtain ⟨hPc, hDc, hFc⟩ := g5_sub3 (wc := [(a_o, (oc11 a_h a_im a_ke a_k a_wa a_th a_ha a_wk a_r a_x e_tl e_fd e_fpl a_wd e_wn a_rf e_lr)), (a_rf, (arI G 5 f_rf))]) hP hD hS hA [0, 1] (by decide) rfl
        refine va_calli (va_runV (As := [.int (-2)]) (rest := []) ⟨hx, hb, hml, hown, hts⟩ (x_refuse2 l G a_o a_rf a_h a_im a_ke a_k a_wa a_th a_ha a_wk a_r a_x a_wd H.size e_tl e_fd e_fpl e_wn e_lr f_rf h_e_tl h_e_wn) (cwV 1 hts gV_X11_104 rfl rfl rfl hv_X11_refuse ⟨Nat.le_of_ble_eq_true rfl, Nat.le_of_ble_eq_true rfl⟩) (g5_preV hPc hK hDc hN hT hS hFc (ci := 11) (q0 := 0) rfl rfl) rfl rfl hl.1 rfl (lv_room (Nat.le_of_ble_eq_true rfl)) dX11_back_25 ⟨Nat.le_of_ble_eq_true rfl, Nat.le_of_ble_eq_true rfl⟩) hS (fun q _ h => hFc q h) hFc (fun r u t H1 locs ht hvm hw hB hz1 hk1 hS => ?_)
        obtain ⟨hP1, hD1⟩ := hB
        rw [ht] at hP1
        obtain ⟨z7, rfl, rfl⟩ := hw
        obtain ⟨hP, hD⟩ := va_join (wr := [(a_im, (arH G 2 (va_up (va_up (fun _ => none) 0 (some a_h2)) 1 (some a_h3)))), (a_ke, (arZ G 2 f_ke)), (a_h, (oc1 e_wa e_le e_st e_fo e_lc a_l a_g a_b a_s a_p a_w e_gb a_bb)), (a_l, (arW G 6 f_l)), (a_g, (oc6 6 5 a_gn e_g)), (a_gn, (arI G 30 f_g)), (a_b, (oc6 5 24 a_bn e_b)), (a_bn, (arI G 120 f_b)), (a_s, (oc6 10 4 a_sn e_s)), (a_sn, (arI G 40 f_s)), (a_p, (oc6 8 5 a_pn e_p)), (a_pn, (arI G 40 f_p)), (a_w, (oc6 6 6 a_wn e_w)), (a_wn, (arI G 36 f_w)), (a_bb, (arJ G 24 f_bb)), (a_h3, (oc1 e_wa3 e_le3 e_st3 e_fo3 e_lc3 a_l3 a_g3 a_b3 a_s3 a_p3 a_w3 e_gb3 a_bb3)), (a_l3, (arW G 6 f_l3)), (a_g3, (oc6 6 5 a_gn3 e_g3)), (a_gn3, (arI G 30 f_g3)), (a_b3, (oc6 5 24 a_bn3 e_b3)), (a_bn3, (arI G 120 f_b3)), (a_s3, (oc6 10 4 a_sn3 e_s3)), (a_sn3, (arI G 40 f_s3)), (a_p3, (oc6 8 5 a_pn3 e_p3)), (a_pn3, (arI G 40 f_p3)), (a_w3, (oc6 6 6 a_wn3 e_w3)), (a_wn3, (arI G 36 f_w3)), (a_bb3, (arJ G 24 f_bb3))]) hP hD [0, 1] [2, 3, 4, 5, 6, 7, 8, 9, 10, 11, 12, 13, 14, 15, 16, 17, 18, 19, 20, 21, 22, 23, 24, 25, 26, 27, 28, 29] rfl rfl (by decide) (by decide) hk1 hFc hP1 hD1
        generalize H1 = H at hP hS ⊢
        refine g5_rs [(a_im, (arH G 2 (va_up (va_up (fun _ => none) 0 (some a_h2)) 1 (some a_h3)))), (a_ke, (arZ G 2 f_ke)), (a_h, (oc1 e_wa e_le e_st e_fo e_lc a_l a_g a_b a_s a_p a_w e_gb a_bb)), (a_l, (arW G 6 f_l)), (a_g, (oc6 6 5 a_gn e_g)), (a_gn, (arI G 30 f_g)), (a_b, (oc6 5 24 a_bn e_b)), (a_bn, (arI G 120 f_b)), (a_s, (oc6 10 4 a_sn e_s)), (a_sn, (arI G 40 f_s)), (a_p, (oc6 8 5 a_pn e_p)), (a_pn, (arI G 40 f_p)), (a_w, (oc6 6 6 a_wn e_w)), (a_wn, (arI G 36 f_w)), (a_bb, (arJ G 24 f_bb)), (a_h3, (oc1 e_wa3 e_le3 e_st3 e_fo3 e_lc3 a_l3 a_g3 a_b3 a_s3 a_p3 a_w3 e_gb3 a_bb3)), (a_l3, (arW G 6 f_l3)), (a_g3, (oc6 6 5 a_gn3 e_g3)), (a_gn3, (arI G 30 f_g3)), (a_b3, (oc6 5 24 a_bn3 e_b3)), (a_bn3, (arI G 120 f_b3)), (a_s3, (oc6 10 4 a_sn3 e_s3)), (a_sn3, (arI G 40 f_s3)), (a_p3, (oc6 8 5 a_pn3 e_p3)), (a_pn3, (arI G 40 f_p3)), (a_w3, (oc6 6 6 a_wn3 e_w3)), (a_wn3, (arI G 36 f_w3)), (a_bb3, (arJ G 24 f_bb3)), (a_o, (oc11 a_h a_im a_ke a_k a_wa a_th a_ha a_wk a_r a_x e_tl e_fd e_fpl a_wd e_wn a_rf (-2))), (a_rf, (arI G 5 z7))] hP hD (fun hP hD => ?_)
        exact W.iret (v := (-2)) hx hb hr (fun t ht hW => ⟨⟨(-2), [(a_o, (oc11 a_h a_im a_ke a_k a_wa a_th a_ha a_wk a_r a_x e_tl e_fd e_fpl a_wd e_wn a_rf (-2))), (a_rf, (arI G 5 z7)), (a_im, (arH G 2 (va_up (va_up (fun _ => none) 0 (some a_h2)) 1 (some a_h3)))), (a_ke, (arZ G 2 f_ke)), (a_h, (oc1 e_wa e_le e_st e_fo e_lc a_l a_g a_b a_s a_p a_w e_gb a_bb)), (a_l, (arW G 6 f_l)), (a_g, (oc6 6 5 a_gn e_g)), (a_gn, (arI G 30 f_g)), (a_b, (oc6 5 24 a_bn e_b)), (a_bn, (arI G 120 f_b)), (a_s, (oc6 10 4 a_sn e_s)), (a_sn, (arI G 40 f_s)), (a_p, (oc6 8 5 a_pn e_p)), (a_pn, (arI G 40 f_p)), (a_w, (oc6 6 6 a_wn e_w)), (a_wn, (arI G 36 f_w)), (a_bb, (arJ G 24 f_bb)), (a_h3, (oc1 e_wa3 e_le3 e_st3 e_fo3 e_lc3 a_l3 a_g3 a_b3 a_s3 a_p3 a_w3 e_gb3 a_bb3)), (a_l3, (arW G 6 f_l3)), (a_g3, (oc6 6 5 a_gn3 e_g3)), (a_gn3, (arI G 30 f_g3)), (a_b3, (oc6 5 24 a_bn3 e_b3)), (a_bn3, (arI G 120 f_b3)), (a_s3, (oc6 10 4 a_sn3 e_s3)), (a_sn3, (arI G 40 f_s3)), (a_p3, (oc6 8 5 a_pn3 e_p3)), (a_pn3, (arI G 40 f_p3)), (a_w3, (oc6 6 6 a_wn3 e_w3)), (a_wn3, (arI G 36 f_w3)), (a_bb3, (arJ G 24 f_bb3))], rfl, Or.inr (⟨z7, by omega, rfl, rfl⟩), by rw [ht]; exact hP.sub [28, 29, 0, 1, 2, 3, 4, 5, 6, 7, 8, 9, 10, 11, 12, 13, 14, 15, 16, 17, 18, 19, 20, 21, 22, 23, 24, 25, 26, 27] rfl, hD.sub [28, 29, 0, 1, 2, 3, 4, 5, 6, 7, 8, 9, 10, 11, 12, 13, 14, 15, 16, 17, 18, 19, 20, 21, 22, 23, 24, 25, 26, 27] (by decide) rfl⟩, hS.F ht⟩) hS.2.2 dX11_back_28
    ·
      exact absurd c_3 (by decide)
  ·
    have i_2 : (1 : Int32).toInt < 0 ∨ 1 < (1 : Int32).toInt := i_2
    have hP := g5_same hP hk1
    generalize H1 = H at hP hS ⊢
    refine lv_if_ne (tgt := 13) hx hb dX11_back_4 (by decide) (fun c_8 => ?_) (fun c_8 => ?_)
    ·
      exact absurd c_8 (by decide)
    ·
      refine lv_aload_n hx hb dX11_back_7 rfl (lv_at hl 0 rfl) ?_
      refine lv_iconst (v := (-1)) hx hb dX11_back_8 (by decide) ?_
      obtain ⟨hPc, hDc, hFc⟩ := g5_sub3 (wc := [(a_o, (oc11 a_h a_im a_ke a_k a_wa a_th a_ha a_wk a_r a_x e_tl e_fd e_fpl a_wd e_wn a_rf e_lr)), (a_rf, (arI G 5 f_rf))]) hP hD hS hA [0, 1] (by decide) rfl
      refine va_calli (va_runV (As := [.int (-1)]) (rest := []) ⟨hx, hb, hml, hown, hts⟩ (x_refuse1 l G a_o a_rf a_h a_im a_ke a_k a_wa a_th a_ha a_wk a_r a_x a_wd H.size e_tl e_fd e_fpl e_wn e_lr f_rf h_e_tl h_e_wn) (cwV 1 hts gV_X11_104 rfl rfl rfl hv_X11_refuse ⟨Nat.le_of_ble_eq_true rfl, Nat.le_of_ble_eq_true rfl⟩) (g5_preV hPc hK hDc hN hT hS hFc (ci := 11) (q0 := 0) rfl rfl) rfl rfl hl.1 rfl (lv_room (Nat.le_of_ble_eq_true rfl)) dX11_back_9 ⟨Nat.le_of_ble_eq_true rfl, Nat.le_of_ble_eq_true rfl⟩) hS (fun q _ h => hFc q h) hFc (fun r u t H1 locs ht hvm hw hB hz1 hk1 hS => ?_)
      obtain ⟨hP1, hD1⟩ := hB
      rw [ht] at hP1
      obtain ⟨z9, rfl, rfl⟩ := hw
      obtain ⟨hP, hD⟩ := va_join (wr := [(a_im, (arH G 2 (va_up (va_up (fun _ => none) 0 (some a_h2)) 1 (some a_h3)))), (a_ke, (arZ G 2 f_ke)), (a_h, (oc1 e_wa e_le e_st e_fo e_lc a_l a_g a_b a_s a_p a_w e_gb a_bb)), (a_l, (arW G 6 f_l)), (a_g, (oc6 6 5 a_gn e_g)), (a_gn, (arI G 30 f_g)), (a_b, (oc6 5 24 a_bn e_b)), (a_bn, (arI G 120 f_b)), (a_s, (oc6 10 4 a_sn e_s)), (a_sn, (arI G 40 f_s)), (a_p, (oc6 8 5 a_pn e_p)), (a_pn, (arI G 40 f_p)), (a_w, (oc6 6 6 a_wn e_w)), (a_wn, (arI G 36 f_w)), (a_bb, (arJ G 24 f_bb)), (a_h3, (oc1 e_wa3 e_le3 e_st3 e_fo3 e_lc3 a_l3 a_g3 a_b3 a_s3 a_p3 a_w3 e_gb3 a_bb3)), (a_l3, (arW G 6 f_l3)), (a_g3, (oc6 6 5 a_gn3 e_g3)), (a_gn3, (arI G 30 f_g3)), (a_b3, (oc6 5 24 a_bn3 e_b3)), (a_bn3, (arI G 120 f_b3)), (a_s3, (oc6 10 4 a_sn3 e_s3)), (a_sn3, (arI G 40 f_s3)), (a_p3, (oc6 8 5 a_pn3 e_p3)), (a_pn3, (arI G 40 f_p3)), (a_w3, (oc6 6 6 a_wn3 e_w3)), (a_wn3, (arI G 36 f_w3)), (a_bb3, (arJ G 24 f_bb3))]) hP hD [0, 1] [2, 3, 4, 5, 6, 7, 8, 9, 10, 11, 12, 13, 14, 15, 16, 17, 18, 19, 20, 21, 22, 23, 24, 25, 26, 27, 28, 29] rfl rfl (by decide) (by decide) hk1 hFc hP1 hD1
      generalize H1 = H at hP hS ⊢
      refine g5_rs [(a_im, (arH G 2 (va_up (va_up (fun _ => none) 0 (some a_h2)) 1 (some a_h3)))), (a_ke, (arZ G 2 f_ke)), (a_h, (oc1 e_wa e_le e_st e_fo e_lc a_l a_g a_b a_s a_p a_w e_gb a_bb)), (a_l, (arW G 6 f_l)), (a_g, (oc6 6 5 a_gn e_g)), (a_gn, (arI G 30 f_g)), (a_b, (oc6 5 24 a_bn e_b)), (a_bn, (arI G 120 f_b)), (a_s, (oc6 10 4 a_sn e_s)), (a_sn, (arI G 40 f_s)), (a_p, (oc6 8 5 a_pn e_p)), (a_pn, (arI G 40 f_p)), (a_w, (oc6 6 6 a_wn e_w)), (a_wn, (arI G 36 f_w)), (a_bb, (arJ G 24 f_bb)), (a_h3, (oc1 e_wa3 e_le3 e_st3 e_fo3 e_lc3 a_l3 a_g3 a_b3 a_s3 a_p3 a_w3 e_gb3 a_bb3)), (a_l3, (arW G 6 f_l3)), (a_g3, (oc6 6 5 a_gn3 e_g3)), (a_gn3, (arI G 30 f_g3)), (a_b3, (oc6 5 24 a_bn3 e_b3)), (a_bn3, (arI G 120 f_b3)), (a_s3, (oc6 10 4 a_sn3 e_s3)), (a_sn3, (arI G 40 f_s3)), (a_p3, (oc6 8 5 a_pn3 e_p3)), (a_pn3, (arI G 40 f_p3)), (a_w3, (oc6 6 6 a_wn3 e_w3)), (a_wn3, (arI G 36 f_w3)), (a_bb3, (arJ G 24 f_bb3)), (a_o, (oc11 a_h a_im a_ke a_k a_wa a_th a_ha a_wk a_r a_x e_tl e_fd e_fpl a_wd e_wn a_rf (-1))), (a_rf, (arI G 5 z9))] hP hD (fun hP hD => ?_)
      exact absurd (show False by omega) (fun h => h)
set_option maxHeartbeats 4000000 in
set_option maxRecDepth 100000 in
theorem x_imageN (l : Launch) (G : g5_G) (a_o a_rf a_h a_im a_ke a_k a_wa a_th a_ha a_wk a_r a_x a_wd : Nat) (sz : Nat) (e_tl : Int32) (e_fd : Int32) (e_fpl : Int32) (e_wn : Int32) (e_lr : Int32) (p_k : Int32) (f_rf : Nat → Int32) (h_e_tl : 0 ≤ e_tl.toInt ∧ e_tl.toInt ≤ 400) (h_e_wn : 0 ≤ e_wn.toInt ∧ e_wn.toInt ≤ 1) (e_kn : p_k.toInt < 0 ∨ 1 < p_k.toInt) : Met l yX11_image (wsG yX11_image cX11_image 2 (some .int)) ({ frames := 1, cells := 0, slots := 0, locals := 22 }) (va_Pc [.ref a_o, .int p_k] (g5_P G [(a_o, (oc11 a_h a_im a_ke a_k a_wa a_th a_ha a_wk a_r a_x e_tl e_fd e_fpl a_wd e_wn a_rf e_lr)), (a_rf, (arI G 5 f_rf))] sz)) (va_Qi (fun (r : Int32) (u : va_W) => (∃ (o_rf : Nat → Int32), (r = (-1)) ∧ (u = [(a_o, (oc11 a_h a_im a_ke a_k a_wa a_th a_ha a_wk a_r a_x e_tl e_fd e_fpl a_wd e_wn a_rf (-1))), (a_rf, (arI G 5 o_rf))]))) (g5_B G (va_A [(a_o, (oc11 a_h a_im a_ke a_k a_wa a_th a_ha a_wk a_r a_x e_tl e_fd e_fpl a_wd e_wn a_rf e_lr)), (a_rf, (arI G 5 f_rf))] sz)) (va_A [(a_o, (oc11 a_h a_im a_ke a_k a_wa a_th a_ha a_wk a_r a_x e_tl e_fd e_fpl a_wd e_wn a_rf e_lr)), (a_rf, (arI G 5 f_rf))] sz)) 0 0 (va_A [(a_o, (oc11 a_h a_im a_ke a_k a_wa a_th a_ha a_wk a_r a_x e_tl e_fd e_fpl a_wd e_wn a_rf e_lr)), (a_rf, (arI G 5 f_rf))] sz) := by
  refine Met.ofW (cc := cX11_image) (maxL := 2) (ret := (some .int)) (by decide) rfl ?_
  intro p e s m args below meth c s₁ B hml hv
  obtain ⟨rfl, hsz, hP, hK, hD0, hN, hT⟩ := hv
  have hx := B.exec
  have hb := B.bytes
  have hr := B.returns
  have hts : ∀ w ∈ tblG, w.before _ s = true := fun w h => atoms_spec (ws := (wsG yX11_image cX11_image 2 (some .int))) B.pre w (List.mem_cons_of_mem _ h)
  have hown : s.vm.findClass RX11 = some m.cls := findClass_of_methodNamed B.named
  have hlocks := B.notSynchronized
  subst hsz
  have hD := hD0.self (sz := s.heap.size)
  generalize hAe : va_A [(a_o, (oc11 a_h a_im a_ke a_k a_wa a_th a_ha a_wk a_r a_x e_tl e_fd e_fpl a_wd e_wn a_rf e_lr)), (a_rf, (arI G 5 f_rf))] s.heap.size = A at hD hT ⊢
  have hA : ∀ q : Nat, s.heap.size ≤ q → A q := fun q h => by rw [← hAe]; exact Or.inr h
  have hS : va_S A s.heap s.heap [] := va_S.rf
  have hP : va_P G.1 vwCl [(a_o, (oc11 a_h a_im a_ke a_k a_wa a_th a_ha a_wk a_r a_x e_tl e_fd e_fpl a_wd e_wn a_rf e_lr)), (a_rf, (arI G 5 f_rf))] s.heap := hP
  have hl := lv_entry ([.ref a_o, .int p_k]) (n := 2) (Nat.le_of_ble_eq_true rfl)
  rw [lg_entry_eq]
  generalize (lg_sl ([.ref a_o, .int p_k]) ++ List.replicate (2 - (lg_sl ([.ref a_o, .int p_k])).length) Slot.unset).toArray = ls at hl ⊢
  have hl : lv_has ls 2 [(0, .ref a_o), (1, .int p_k)] := hl
  refine lv_iload_n hx hb dX11_image_0 rfl (lv_at hl 1 rfl) ?_
  obtain ⟨hPc, hDc, hFc⟩ := g5_sub3 (wc := []) hP hD hS hA [] (by decide) rfl
  refine va_calli (va_runS (As := [.int p_k]) (rest := []) ⟨hx, hb, hml, hown, hts⟩ (x_isImage l G s.heap.size p_k) (va_cwS 1 hts gS_X11_351 rfl rfl rfl hs_X11_isImage ⟨Nat.le_of_ble_eq_true rfl, Nat.le_of_ble_eq_true rfl⟩) (g5_preS hPc hK hDc hN hT hS hFc) rfl rfl hl.1 rfl (lv_room (Nat.le_of_ble_eq_true rfl)) dX11_image_1 ⟨Nat.le_of_ble_eq_true rfl, Nat.le_of_ble_eq_true rfl⟩) hS (fun q _ h => hFc q h) hFc (fun r u t H1 locs ht hvm hw hB hz1 hk1 hS => ?_)
  obtain ⟨hP1, hD1⟩ := hB
  rw [ht] at hP1
  rcases hw with ⟨i_1, rfl, rfl⟩ | ⟨i_2, rfl, rfl⟩
  ·
    have i_1 : 0 ≤ p_k.toInt ∧ p_k.toInt ≤ 1 := i_1
    have hP := g5_same hP hk1
    generalize H1 = H at hP hS ⊢
    refine lv_if_ne (tgt := 13) hx hb dX11_image_4 (by decide) (fun c_3 => ?_) (fun c_3 => ?_)
    ·
      exact absurd (show False by omega) (fun h => h)
    ·
      exact absurd c_3 (by decide)
  ·
    have i_2 : p_k.toInt < 0 ∨ 1 < p_k.toInt := i_2
    have hP := g5_same hP hk1
    generalize H1 = H at hP hS ⊢
    refine lv_if_ne (tgt := 13) hx hb dX11_image_4 (by decide) (fun c_4 => ?_) (fun c_4 => ?_)
    ·
      exact absurd c_4 (by decide)
    ·
      refine lv_aload_n hx hb dX11_image_7 rfl (lv_at hl 0 rfl) ?_
      refine lv_iconst (v := (-1)) hx hb dX11_image_8 (by decide) ?_
      obtain ⟨hPc, hDc, hFc⟩ := g5_sub3 (wc := [(a_o, (oc11 a_h a_im a_ke a_k a_wa a_th a_ha a_wk a_r a_x e_tl e_fd e_fpl a_wd e_wn a_rf e_lr)), (a_rf, (arI G 5 f_rf))]) hP hD hS hA [0, 1] (by decide) rfl
      refine va_calli (va_runV (As := [.int (-1)]) (rest := []) ⟨hx, hb, hml, hown, hts⟩ (x_refuse1 l G a_o a_rf a_h a_im a_ke a_k a_wa a_th a_ha a_wk a_r a_x a_wd H.size e_tl e_fd e_fpl e_wn e_lr f_rf h_e_tl h_e_wn) (cwV 1 hts gV_X11_104 rfl rfl rfl hv_X11_refuse ⟨Nat.le_of_ble_eq_true rfl, Nat.le_of_ble_eq_true rfl⟩) (g5_preV hPc hK hDc hN hT hS hFc (ci := 11) (q0 := 0) rfl rfl) rfl rfl hl.1 rfl (lv_room (Nat.le_of_ble_eq_true rfl)) dX11_image_9 ⟨Nat.le_of_ble_eq_true rfl, Nat.le_of_ble_eq_true rfl⟩) hS (fun q _ h => hFc q h) hFc (fun r u t H1 locs ht hvm hw hB hz1 hk1 hS => ?_)
      obtain ⟨hP1, hD1⟩ := hB
      rw [ht] at hP1
      obtain ⟨z5, rfl, rfl⟩ := hw
      obtain ⟨hP, hD⟩ := va_join (wr := []) hP hD [0, 1] [] rfl rfl (by decide) (by decide) hk1 hFc hP1 hD1
      generalize H1 = H at hP hS ⊢
      refine g5_rs [(a_o, (oc11 a_h a_im a_ke a_k a_wa a_th a_ha a_wk a_r a_x e_tl e_fd e_fpl a_wd e_wn a_rf (-1))), (a_rf, (arI G 5 z5))] hP hD (fun hP hD => ?_)
      exact W.iret (v := (-1)) hx hb hr (fun t ht hW => ⟨⟨(-1), [(a_o, (oc11 a_h a_im a_ke a_k a_wa a_th a_ha a_wk a_r a_x e_tl e_fd e_fpl a_wd e_wn a_rf (-1))), (a_rf, (arI G 5 z5))], rfl, ⟨z5, rfl, rfl⟩, by rw [ht]; exact hP.sub [0, 1] rfl, hD.sub [0, 1] (by decide) rfl⟩, hS.F ht⟩) hS.2.2 dX11_image_12
set_option maxHeartbeats 4000000 in
set_option maxRecDepth 100000 in
theorem x_backN (l : Launch) (G : g5_G) (a_o a_rf a_h a_im a_ke a_k a_wa a_th a_ha a_wk a_r a_x a_wd : Nat) (sz : Nat) (e_tl : Int32) (e_fd : Int32) (e_fpl : Int32) (e_wn : Int32) (e_lr : Int32) (p_k : Int32) (f_rf : Nat → Int32) (h_e_tl : 0 ≤ e_tl.toInt ∧ e_tl.toInt ≤ 400) (h_e_wn : 0 ≤ e_wn.toInt ∧ e_wn.toInt ≤ 1) (e_kn : p_k.toInt < 0 ∨ 1 < p_k.toInt) : Met l yX11_back (wsG yX11_back cX11_back 2 (some .int)) ({ frames := 1, cells := 0, slots := 0, locals := 22 }) (va_Pc [.ref a_o, .int p_k] (g5_P G [(a_o, (oc11 a_h a_im a_ke a_k a_wa a_th a_ha a_wk a_r a_x e_tl e_fd e_fpl a_wd e_wn a_rf e_lr)), (a_rf, (arI G 5 f_rf))] sz)) (va_Qi (fun (r : Int32) (u : va_W) => (∃ (o_rf : Nat → Int32), (r = (-1)) ∧ (u = [(a_o, (oc11 a_h a_im a_ke a_k a_wa a_th a_ha a_wk a_r a_x e_tl e_fd e_fpl a_wd e_wn a_rf (-1))), (a_rf, (arI G 5 o_rf))]))) (g5_B G (va_A [(a_o, (oc11 a_h a_im a_ke a_k a_wa a_th a_ha a_wk a_r a_x e_tl e_fd e_fpl a_wd e_wn a_rf e_lr)), (a_rf, (arI G 5 f_rf))] sz)) (va_A [(a_o, (oc11 a_h a_im a_ke a_k a_wa a_th a_ha a_wk a_r a_x e_tl e_fd e_fpl a_wd e_wn a_rf e_lr)), (a_rf, (arI G 5 f_rf))] sz)) 0 0 (va_A [(a_o, (oc11 a_h a_im a_ke a_k a_wa a_th a_ha a_wk a_r a_x e_tl e_fd e_fpl a_wd e_wn a_rf e_lr)), (a_rf, (arI G 5 f_rf))] sz) := by
  refine Met.ofW (cc := cX11_back) (maxL := 2) (ret := (some .int)) (by decide) rfl ?_
  intro p e s m args below meth c s₁ B hml hv
  obtain ⟨rfl, hsz, hP, hK, hD0, hN, hT⟩ := hv
  have hx := B.exec
  have hb := B.bytes
  have hr := B.returns
  have hts : ∀ w ∈ tblG, w.before _ s = true := fun w h => atoms_spec (ws := (wsG yX11_back cX11_back 2 (some .int))) B.pre w (List.mem_cons_of_mem _ h)
  have hown : s.vm.findClass RX11 = some m.cls := findClass_of_methodNamed B.named
  have hlocks := B.notSynchronized
  subst hsz
  have hD := hD0.self (sz := s.heap.size)
  generalize hAe : va_A [(a_o, (oc11 a_h a_im a_ke a_k a_wa a_th a_ha a_wk a_r a_x e_tl e_fd e_fpl a_wd e_wn a_rf e_lr)), (a_rf, (arI G 5 f_rf))] s.heap.size = A at hD hT ⊢
  have hA : ∀ q : Nat, s.heap.size ≤ q → A q := fun q h => by rw [← hAe]; exact Or.inr h
  have hS : va_S A s.heap s.heap [] := va_S.rf
  have hP : va_P G.1 vwCl [(a_o, (oc11 a_h a_im a_ke a_k a_wa a_th a_ha a_wk a_r a_x e_tl e_fd e_fpl a_wd e_wn a_rf e_lr)), (a_rf, (arI G 5 f_rf))] s.heap := hP
  have hl := lv_entry ([.ref a_o, .int p_k]) (n := 2) (Nat.le_of_ble_eq_true rfl)
  rw [lg_entry_eq]
  generalize (lg_sl ([.ref a_o, .int p_k]) ++ List.replicate (2 - (lg_sl ([.ref a_o, .int p_k])).length) Slot.unset).toArray = ls at hl ⊢
  have hl : lv_has ls 2 [(0, .ref a_o), (1, .int p_k)] := hl
  refine lv_iload_n hx hb dX11_back_0 rfl (lv_at hl 1 rfl) ?_
  obtain ⟨hPc, hDc, hFc⟩ := g5_sub3 (wc := []) hP hD hS hA [] (by decide) rfl
  refine va_calli (va_runS (As := [.int p_k]) (rest := []) ⟨hx, hb, hml, hown, hts⟩ (x_isImage l G s.heap.size p_k) (va_cwS 1 hts gS_X11_351 rfl rfl rfl hs_X11_isImage ⟨Nat.le_of_ble_eq_true rfl, Nat.le_of_ble_eq_true rfl⟩) (g5_preS hPc hK hDc hN hT hS hFc) rfl rfl hl.1 rfl (lv_room (Nat.le_of_ble_eq_true rfl)) dX11_back_1 ⟨Nat.le_of_ble_eq_true rfl, Nat.le_of_ble_eq_true rfl⟩) hS (fun q _ h => hFc q h) hFc (fun r u t H1 locs ht hvm hw hB hz1 hk1 hS => ?_)
  obtain ⟨hP1, hD1⟩ := hB
  rw [ht] at hP1
  rcases hw with ⟨i_1, rfl, rfl⟩ | ⟨i_2, rfl, rfl⟩
  ·
    have i_1 : 0 ≤ p_k.toInt ∧ p_k.toInt ≤ 1 := i_1
    have hP := g5_same hP hk1
    generalize H1 = H at hP hS ⊢
    refine lv_if_ne (tgt := 13) hx hb dX11_back_4 (by decide) (fun c_3 => ?_) (fun c_3 => ?_)
    ·
      exact absurd (show False by omega) (fun h => h)
    ·
      exact absurd c_3 (by decide)
  ·
    have i_2 : p_k.toInt < 0 ∨ 1 < p_k.toInt := i_2
    have hP := g5_same hP hk1
    generalize H1 = H at hP hS ⊢
    refine lv_if_ne (tgt := 13) hx hb dX11_back_4 (by decide) (fun c_4 => ?_) (fun c_4 => ?_)
    ·
      exact absurd c_4 (by decide)
    ·
      refine lv_aload_n hx hb dX11_back_7 rfl (lv_at hl 0 rfl) ?_
      refine lv_iconst (v := (-1)) hx hb dX11_back_8 (by decide) ?_
      obtain ⟨hPc, hDc, hFc⟩ := g5_sub3 (wc := [(a_o, (oc11 a_h a_im a_ke a_k a_wa a_th a_ha a_wk a_r a_x e_tl e_fd e_fpl a_wd e_wn a_rf e_lr)), (a_rf, (arI G 5 f_rf))]) hP hD hS hA [0, 1] (by decide) rfl
      refine va_calli (va_runV (As := [.int (-1)]) (rest := []) ⟨hx, hb, hml, hown, hts⟩ (x_refuse1 l G a_o a_rf a_h a_im a_ke a_k a_wa a_th a_ha a_wk a_r a_x a_wd H.size e_tl e_fd e_fpl e_wn e_lr f_rf h_e_tl h_e_wn) (cwV 1 hts gV_X11_104 rfl rfl rfl hv_X11_refuse ⟨Nat.le_of_ble_eq_true rfl, Nat.le_of_ble_eq_true rfl⟩) (g5_preV hPc hK hDc hN hT hS hFc (ci := 11) (q0 := 0) rfl rfl) rfl rfl hl.1 rfl (lv_room (Nat.le_of_ble_eq_true rfl)) dX11_back_9 ⟨Nat.le_of_ble_eq_true rfl, Nat.le_of_ble_eq_true rfl⟩) hS (fun q _ h => hFc q h) hFc (fun r u t H1 locs ht hvm hw hB hz1 hk1 hS => ?_)
      obtain ⟨hP1, hD1⟩ := hB
      rw [ht] at hP1
      obtain ⟨z5, rfl, rfl⟩ := hw
      obtain ⟨hP, hD⟩ := va_join (wr := []) hP hD [0, 1] [] rfl rfl (by decide) (by decide) hk1 hFc hP1 hD1
      generalize H1 = H at hP hS ⊢
      refine g5_rs [(a_o, (oc11 a_h a_im a_ke a_k a_wa a_th a_ha a_wk a_r a_x e_tl e_fd e_fpl a_wd e_wn a_rf (-1))), (a_rf, (arI G 5 z5))] hP hD (fun hP hD => ?_)
      exact W.iret (v := (-1)) hx hb hr (fun t ht hW => ⟨⟨(-1), [(a_o, (oc11 a_h a_im a_ke a_k a_wa a_th a_ha a_wk a_r a_x e_tl e_fd e_fpl a_wd e_wn a_rf (-1))), (a_rf, (arI G 5 z5))], rfl, ⟨z5, rfl, rfl⟩, by rw [ht]; exact hP.sub [0, 1] rfl, hD.sub [0, 1] (by decide) rfl⟩, hS.F ht⟩) hS.2.2 dX11_back_12
theorem dgX11_count_0 : ∀ r ∈ ([(0, (.iload_n 1, 1)), (1, (.bipush 8, 2)), (3, (.if_icmp .lt 19, 3)), (6, (.iload_n 1, 1)), (7, (.bipush 13, 2)), (9, (.if_icmp .ge 13, 3)), (12, (.aload_n 0, 1)), (13, (.getfield 91, 3)), (16, (.iload_n 1, 1)), (17, (.bipush 8, 2)), (19, (.isub, 1)), (20, (.iaload, 1)), (21, (.ireturn, 1)), (22, (.iload_n 1, 1)), (23, (.tableswitch 156 0 13 #[69, 80, 91, 99, 110, 121, 132, 143, 156, 156, 156, 156, 156, 148], 69)), (92, (.aload_n 0, 1)), (93, (.getfield 12, 3)), (96, (.getfield 136, 3)), (99, (.getfield 238, 3)), (102, (.ireturn, 1)), (103, (.aload_n 0, 1)), (104, (.getfield 12, 3)), (107, (.getfield 167, 3)), (110, (.getfield 238, 3)), (113, (.ireturn, 1)), (114, (.aload_n 0, 1)), (115, (.getfield 12, 3)), (118, (.getfield 192, 3)), (121, (.ireturn, 1)), (122, (.aload_n 0, 1)), (123, (.getfield 12, 3)), (126, (.getfield 261, 3)), (129, (.getfield 238, 3)), (132, (.ireturn, 1)), (133, (.aload_n 0, 1)), (134, (.getfield 12, 3)), (137, (.getfield 306, 3)), (140, (.getfield 238, 3)), (143, (.ireturn, 1)), (144, (.aload_n 0, 1))] : List (Nat × (Instr × Nat))), decode cX11_count r.1 = .ok r.2 := by decide +kernel
theorem dX11_count_0 : decode cX11_count 0 = .ok (.iload_n 1, 1) := dgX11_count_0 (0, (.iload_n 1, 1)) (List.mem_of_getElem? (i := 0) rfl)
theorem dX11_count_1 : decode cX11_count 1 = .ok (.bipush 8, 2) := dgX11_count_0 (1, (.bipush 8, 2)) (List.mem_of_getElem? (i := 1) rfl)
theorem dX11_count_3 : decode cX11_count 3 = .ok (.if_icmp .lt 19, 3) := dgX11_count_0 (3, (.if_icmp .lt 19, 3)) (List.mem_of_getElem? (i := 2) rfl)
theorem dX11_count_6 : decode cX11_count 6 = .ok (.iload_n 1, 1) := dgX11_count_0 (6, (.iload_n 1, 1)) (List.mem_of_getElem? (i := 3) rfl)
theorem dX11_count_7 : decode cX11_count 7 = .ok (.bipush 13, 2) := dgX11_count_0 (7, (.bipush 13, 2)) (List.mem_of_getElem? (i := 4) rfl)
theorem dX11_count_9 : decode cX11_count 9 = .ok (.if_icmp .ge 13, 3) := dgX11_count_0 (9, (.if_icmp .ge 13, 3)) (List.mem_of_getElem? (i := 5) rfl)
theorem dX11_count_12 : decode cX11_count 12 = .ok (.aload_n 0, 1) := dgX11_count_0 (12, (.aload_n 0, 1)) (List.mem_of_getElem? (i := 6) rfl)
theorem dX11_count_13 : decode cX11_count 13 = .ok (.getfield 91, 3) := dgX11_count_0 (13, (.getfield 91, 3)) (List.mem_of_getElem? (i := 7) rfl)
theorem dX11_count_16 : decode cX11_count 16 = .ok (.iload_n 1, 1) := dgX11_count_0 (16, (.iload_n 1, 1)) (List.mem_of_getElem? (i := 8) rfl)
theorem dX11_count_17 : decode cX11_count 17 = .ok (.bipush 8, 2) := dgX11_count_0 (17, (.bipush 8, 2)) (List.mem_of_getElem? (i := 9) rfl)
theorem dX11_count_19 : decode cX11_count 19 = .ok (.isub, 1) := dgX11_count_0 (19, (.isub, 1)) (List.mem_of_getElem? (i := 10) rfl)
theorem dX11_count_20 : decode cX11_count 20 = .ok (.iaload, 1) := dgX11_count_0 (20, (.iaload, 1)) (List.mem_of_getElem? (i := 11) rfl)
theorem dX11_count_21 : decode cX11_count 21 = .ok (.ireturn, 1) := dgX11_count_0 (21, (.ireturn, 1)) (List.mem_of_getElem? (i := 12) rfl)
theorem dX11_count_22 : decode cX11_count 22 = .ok (.iload_n 1, 1) := dgX11_count_0 (22, (.iload_n 1, 1)) (List.mem_of_getElem? (i := 13) rfl)
theorem dX11_count_23 : decode cX11_count 23 = .ok (.tableswitch 156 0 13 #[69, 80, 91, 99, 110, 121, 132, 143, 156, 156, 156, 156, 156, 148], 69) := dgX11_count_0 (23, (.tableswitch 156 0 13 #[69, 80, 91, 99, 110, 121, 132, 143, 156, 156, 156, 156, 156, 148], 69)) (List.mem_of_getElem? (i := 14) rfl)
theorem dX11_count_92 : decode cX11_count 92 = .ok (.aload_n 0, 1) := dgX11_count_0 (92, (.aload_n 0, 1)) (List.mem_of_getElem? (i := 15) rfl)
theorem dX11_count_93 : decode cX11_count 93 = .ok (.getfield 12, 3) := dgX11_count_0 (93, (.getfield 12, 3)) (List.mem_of_getElem? (i := 16) rfl)
theorem dX11_count_96 : decode cX11_count 96 = .ok (.getfield 136, 3) := dgX11_count_0 (96, (.getfield 136, 3)) (List.mem_of_getElem? (i := 17) rfl)
theorem dX11_count_99 : decode cX11_count 99 = .ok (.getfield 238, 3) := dgX11_count_0 (99, (.getfield 238, 3)) (List.mem_of_getElem? (i := 18) rfl)
theorem dX11_count_102 : decode cX11_count 102 = .ok (.ireturn, 1) := dgX11_count_0 (102, (.ireturn, 1)) (List.mem_of_getElem? (i := 19) rfl)
theorem dX11_count_103 : decode cX11_count 103 = .ok (.aload_n 0, 1) := dgX11_count_0 (103, (.aload_n 0, 1)) (List.mem_of_getElem? (i := 20) rfl)
theorem dX11_count_104 : decode cX11_count 104 = .ok (.getfield 12, 3) := dgX11_count_0 (104, (.getfield 12, 3)) (List.mem_of_getElem? (i := 21) rfl)
theorem dX11_count_107 : decode cX11_count 107 = .ok (.getfield 167, 3) := dgX11_count_0 (107, (.getfield 167, 3)) (List.mem_of_getElem? (i := 22) rfl)
theorem dX11_count_110 : decode cX11_count 110 = .ok (.getfield 238, 3) := dgX11_count_0 (110, (.getfield 238, 3)) (List.mem_of_getElem? (i := 23) rfl)
theorem dX11_count_113 : decode cX11_count 113 = .ok (.ireturn, 1) := dgX11_count_0 (113, (.ireturn, 1)) (List.mem_of_getElem? (i := 24) rfl)
theorem dX11_count_114 : decode cX11_count 114 = .ok (.aload_n 0, 1) := dgX11_count_0 (114, (.aload_n 0, 1)) (List.mem_of_getElem? (i := 25) rfl)
theorem dX11_count_115 : decode cX11_count 115 = .ok (.getfield 12, 3) := dgX11_count_0 (115, (.getfield 12, 3)) (List.mem_of_getElem? (i := 26) rfl)
theorem dX11_count_118 : decode cX11_count 118 = .ok (.getfield 192, 3) := dgX11_count_0 (118, (.getfield 192, 3)) (List.mem_of_getElem? (i := 27) rfl)
theorem dX11_count_121 : decode cX11_count 121 = .ok (.ireturn, 1) := dgX11_count_0 (121, (.ireturn, 1)) (List.mem_of_getElem? (i := 28) rfl)
theorem dX11_count_122 : decode cX11_count 122 = .ok (.aload_n 0, 1) := dgX11_count_0 (122, (.aload_n 0, 1)) (List.mem_of_getElem? (i := 29) rfl)
theorem dX11_count_123 : decode cX11_count 123 = .ok (.getfield 12, 3) := dgX11_count_0 (123, (.getfield 12, 3)) (List.mem_of_getElem? (i := 30) rfl)
theorem dX11_count_126 : decode cX11_count 126 = .ok (.getfield 261, 3) := dgX11_count_0 (126, (.getfield 261, 3)) (List.mem_of_getElem? (i := 31) rfl)
theorem dX11_count_129 : decode cX11_count 129 = .ok (.getfield 238, 3) := dgX11_count_0 (129, (.getfield 238, 3)) (List.mem_of_getElem? (i := 32) rfl)
theorem dX11_count_132 : decode cX11_count 132 = .ok (.ireturn, 1) := dgX11_count_0 (132, (.ireturn, 1)) (List.mem_of_getElem? (i := 33) rfl)
theorem dX11_count_133 : decode cX11_count 133 = .ok (.aload_n 0, 1) := dgX11_count_0 (133, (.aload_n 0, 1)) (List.mem_of_getElem? (i := 34) rfl)
theorem dX11_count_134 : decode cX11_count 134 = .ok (.getfield 12, 3) := dgX11_count_0 (134, (.getfield 12, 3)) (List.mem_of_getElem? (i := 35) rfl)
theorem dX11_count_137 : decode cX11_count 137 = .ok (.getfield 306, 3) := dgX11_count_0 (137, (.getfield 306, 3)) (List.mem_of_getElem? (i := 36) rfl)
theorem dX11_count_140 : decode cX11_count 140 = .ok (.getfield 238, 3) := dgX11_count_0 (140, (.getfield 238, 3)) (List.mem_of_getElem? (i := 37) rfl)
theorem dX11_count_143 : decode cX11_count 143 = .ok (.ireturn, 1) := dgX11_count_0 (143, (.ireturn, 1)) (List.mem_of_getElem? (i := 38) rfl)
theorem dX11_count_144 : decode cX11_count 144 = .ok (.aload_n 0, 1) := dgX11_count_0 (144, (.aload_n 0, 1)) (List.mem_of_getElem? (i := 39) rfl)
theorem dgX11_count_1 : ∀ r ∈ ([(145, (.getfield 12, 3)), (148, (.getfield 309, 3)), (151, (.getfield 238, 3)), (154, (.ireturn, 1)), (155, (.aload_n 0, 1)), (156, (.getfield 12, 3)), (159, (.getfield 111, 3)), (162, (.invokestatic 248, 3)), (165, (.ireturn, 1)), (166, (.aload_n 0, 1)), (167, (.getfield 74, 3)), (170, (.ireturn, 1)), (171, (.aload_n 0, 1)), (172, (.getfield 12, 3)), (175, (.getfield 204, 3)), (178, (.ireturn, 1)), (179, (.iconst (-1), 1)), (180, (.ireturn, 1))] : List (Nat × (Instr × Nat))), decode cX11_count r.1 = .ok r.2 := by decide +kernel
theorem dX11_count_145 : decode cX11_count 145 = .ok (.getfield 12, 3) := dgX11_count_1 (145, (.getfield 12, 3)) (List.mem_of_getElem? (i := 0) rfl)
theorem dX11_count_148 : decode cX11_count 148 = .ok (.getfield 309, 3) := dgX11_count_1 (148, (.getfield 309, 3)) (List.mem_of_getElem? (i := 1) rfl)
theorem dX11_count_151 : decode cX11_count 151 = .ok (.getfield 238, 3) := dgX11_count_1 (151, (.getfield 238, 3)) (List.mem_of_getElem? (i := 2) rfl)
theorem dX11_count_154 : decode cX11_count 154 = .ok (.ireturn, 1) := dgX11_count_1 (154, (.ireturn, 1)) (List.mem_of_getElem? (i := 3) rfl)
theorem dX11_count_155 : decode cX11_count 155 = .ok (.aload_n 0, 1) := dgX11_count_1 (155, (.aload_n 0, 1)) (List.mem_of_getElem? (i := 4) rfl)
theorem dX11_count_156 : decode cX11_count 156 = .ok (.getfield 12, 3) := dgX11_count_1 (156, (.getfield 12, 3)) (List.mem_of_getElem? (i := 5) rfl)
theorem dX11_count_159 : decode cX11_count 159 = .ok (.getfield 111, 3) := dgX11_count_1 (159, (.getfield 111, 3)) (List.mem_of_getElem? (i := 6) rfl)
theorem dX11_count_162 : decode cX11_count 162 = .ok (.invokestatic 248, 3) := dgX11_count_1 (162, (.invokestatic 248, 3)) (List.mem_of_getElem? (i := 7) rfl)
theorem dX11_count_165 : decode cX11_count 165 = .ok (.ireturn, 1) := dgX11_count_1 (165, (.ireturn, 1)) (List.mem_of_getElem? (i := 8) rfl)
theorem dX11_count_166 : decode cX11_count 166 = .ok (.aload_n 0, 1) := dgX11_count_1 (166, (.aload_n 0, 1)) (List.mem_of_getElem? (i := 9) rfl)
theorem dX11_count_167 : decode cX11_count 167 = .ok (.getfield 74, 3) := dgX11_count_1 (167, (.getfield 74, 3)) (List.mem_of_getElem? (i := 10) rfl)
theorem dX11_count_170 : decode cX11_count 170 = .ok (.ireturn, 1) := dgX11_count_1 (170, (.ireturn, 1)) (List.mem_of_getElem? (i := 11) rfl)
theorem dX11_count_171 : decode cX11_count 171 = .ok (.aload_n 0, 1) := dgX11_count_1 (171, (.aload_n 0, 1)) (List.mem_of_getElem? (i := 12) rfl)
theorem dX11_count_172 : decode cX11_count 172 = .ok (.getfield 12, 3) := dgX11_count_1 (172, (.getfield 12, 3)) (List.mem_of_getElem? (i := 13) rfl)
theorem dX11_count_175 : decode cX11_count 175 = .ok (.getfield 204, 3) := dgX11_count_1 (175, (.getfield 204, 3)) (List.mem_of_getElem? (i := 14) rfl)
theorem dX11_count_178 : decode cX11_count 178 = .ok (.ireturn, 1) := dgX11_count_1 (178, (.ireturn, 1)) (List.mem_of_getElem? (i := 15) rfl)
theorem dX11_count_179 : decode cX11_count 179 = .ok (.iconst (-1), 1) := dgX11_count_1 (179, (.iconst (-1), 1)) (List.mem_of_getElem? (i := 16) rfl)
theorem dX11_count_180 : decode cX11_count 180 = .ok (.ireturn, 1) := dgX11_count_1 (180, (.ireturn, 1)) (List.mem_of_getElem? (i := 17) rfl)
theorem kl_J13_314 : Cond.constantLong RJ13 314 6148914691236517205 ∈ tblG := tg 906 (by decide +kernel) (by decide +kernel)
theorem kl_J13_316 : Cond.constantLong RJ13 316 3689348814741910323 ∈ tblG := tg 907 (by decide +kernel) (by decide +kernel)
theorem kl_J13_318 : Cond.constantLong RJ13 318 1085102592571150095 ∈ tblG := tg 908 (by decide +kernel) (by decide +kernel)
theorem dgJ13_bitCount_95d88_0 : ∀ r ∈ ([(0, (.lload_n 0, 1)), (1, (.lload_n 0, 1)), (2, (.iconst 1, 1)), (3, (.lushr, 1)), (4, (.ldc2_w 314, 3)), (7, (.land, 1)), (8, (.lsub, 1)), (9, (.lstore_n 0, 1)), (10, (.lload_n 0, 1)), (11, (.ldc2_w 316, 3)), (14, (.land, 1)), (15, (.lload_n 0, 1)), (16, (.iconst 2, 1)), (17, (.lushr, 1)), (18, (.ldc2_w 316, 3)), (21, (.land, 1)), (22, (.ladd, 1)), (23, (.lstore_n 0, 1)), (24, (.lload_n 0, 1)), (25, (.lload_n 0, 1)), (26, (.iconst 4, 1)), (27, (.lushr, 1)), (28, (.ladd, 1)), (29, (.ldc2_w 318, 3)), (32, (.land, 1)), (33, (.lstore_n 0, 1)), (34, (.lload_n 0, 1)), (35, (.lload_n 0, 1)), (36, (.bipush 8, 2)), (38, (.lushr, 1)), (39, (.ladd, 1)), (40, (.lstore_n 0, 1)), (41, (.lload_n 0, 1)), (42, (.lload_n 0, 1)), (43, (.bipush 16, 2)), (45, (.lushr, 1)), (46, (.ladd, 1)), (47, (.lstore_n 0, 1)), (48, (.lload_n 0, 1)), (49, (.lload_n 0, 1))] : List (Nat × (Instr × Nat))), decode cJ13_bitCount_95d88 r.1 = .ok r.2 := by decide +kernel
theorem dJ13_bitCount_95d88_0 : decode cJ13_bitCount_95d88 0 = .ok (.lload_n 0, 1) := dgJ13_bitCount_95d88_0 (0, (.lload_n 0, 1)) (List.mem_of_getElem? (i := 0) rfl)
theorem dJ13_bitCount_95d88_1 : decode cJ13_bitCount_95d88 1 = .ok (.lload_n 0, 1) := dgJ13_bitCount_95d88_0 (1, (.lload_n 0, 1)) (List.mem_of_getElem? (i := 1) rfl)
theorem dJ13_bitCount_95d88_2 : decode cJ13_bitCount_95d88 2 = .ok (.iconst 1, 1) := dgJ13_bitCount_95d88_0 (2, (.iconst 1, 1)) (List.mem_of_getElem? (i := 2) rfl)
theorem dJ13_bitCount_95d88_3 : decode cJ13_bitCount_95d88 3 = .ok (.lushr, 1) := dgJ13_bitCount_95d88_0 (3, (.lushr, 1)) (List.mem_of_getElem? (i := 3) rfl)
theorem dJ13_bitCount_95d88_4 : decode cJ13_bitCount_95d88 4 = .ok (.ldc2_w 314, 3) := dgJ13_bitCount_95d88_0 (4, (.ldc2_w 314, 3)) (List.mem_of_getElem? (i := 4) rfl)
theorem dJ13_bitCount_95d88_7 : decode cJ13_bitCount_95d88 7 = .ok (.land, 1) := dgJ13_bitCount_95d88_0 (7, (.land, 1)) (List.mem_of_getElem? (i := 5) rfl)
theorem dJ13_bitCount_95d88_8 : decode cJ13_bitCount_95d88 8 = .ok (.lsub, 1) := dgJ13_bitCount_95d88_0 (8, (.lsub, 1)) (List.mem_of_getElem? (i := 6) rfl)
theorem dJ13_bitCount_95d88_9 : decode cJ13_bitCount_95d88 9 = .ok (.lstore_n 0, 1) := dgJ13_bitCount_95d88_0 (9, (.lstore_n 0, 1)) (List.mem_of_getElem? (i := 7) rfl)
theorem dJ13_bitCount_95d88_10 : decode cJ13_bitCount_95d88 10 = .ok (.lload_n 0, 1) := dgJ13_bitCount_95d88_0 (10, (.lload_n 0, 1)) (List.mem_of_getElem? (i := 8) rfl)
theorem dJ13_bitCount_95d88_11 : decode cJ13_bitCount_95d88 11 = .ok (.ldc2_w 316, 3) := dgJ13_bitCount_95d88_0 (11, (.ldc2_w 316, 3)) (List.mem_of_getElem? (i := 9) rfl)
theorem dJ13_bitCount_95d88_14 : decode cJ13_bitCount_95d88 14 = .ok (.land, 1) := dgJ13_bitCount_95d88_0 (14, (.land, 1)) (List.mem_of_getElem? (i := 10) rfl)
theorem dJ13_bitCount_95d88_15 : decode cJ13_bitCount_95d88 15 = .ok (.lload_n 0, 1) := dgJ13_bitCount_95d88_0 (15, (.lload_n 0, 1)) (List.mem_of_getElem? (i := 11) rfl)
theorem dJ13_bitCount_95d88_16 : decode cJ13_bitCount_95d88 16 = .ok (.iconst 2, 1) := dgJ13_bitCount_95d88_0 (16, (.iconst 2, 1)) (List.mem_of_getElem? (i := 12) rfl)
theorem dJ13_bitCount_95d88_17 : decode cJ13_bitCount_95d88 17 = .ok (.lushr, 1) := dgJ13_bitCount_95d88_0 (17, (.lushr, 1)) (List.mem_of_getElem? (i := 13) rfl)
theorem dJ13_bitCount_95d88_18 : decode cJ13_bitCount_95d88 18 = .ok (.ldc2_w 316, 3) := dgJ13_bitCount_95d88_0 (18, (.ldc2_w 316, 3)) (List.mem_of_getElem? (i := 14) rfl)
theorem dJ13_bitCount_95d88_21 : decode cJ13_bitCount_95d88 21 = .ok (.land, 1) := dgJ13_bitCount_95d88_0 (21, (.land, 1)) (List.mem_of_getElem? (i := 15) rfl)
theorem dJ13_bitCount_95d88_22 : decode cJ13_bitCount_95d88 22 = .ok (.ladd, 1) := dgJ13_bitCount_95d88_0 (22, (.ladd, 1)) (List.mem_of_getElem? (i := 16) rfl)
theorem dJ13_bitCount_95d88_23 : decode cJ13_bitCount_95d88 23 = .ok (.lstore_n 0, 1) := dgJ13_bitCount_95d88_0 (23, (.lstore_n 0, 1)) (List.mem_of_getElem? (i := 17) rfl)
theorem dJ13_bitCount_95d88_24 : decode cJ13_bitCount_95d88 24 = .ok (.lload_n 0, 1) := dgJ13_bitCount_95d88_0 (24, (.lload_n 0, 1)) (List.mem_of_getElem? (i := 18) rfl)
theorem dJ13_bitCount_95d88_25 : decode cJ13_bitCount_95d88 25 = .ok (.lload_n 0, 1) := dgJ13_bitCount_95d88_0 (25, (.lload_n 0, 1)) (List.mem_of_getElem? (i := 19) rfl)
theorem dJ13_bitCount_95d88_26 : decode cJ13_bitCount_95d88 26 = .ok (.iconst 4, 1) := dgJ13_bitCount_95d88_0 (26, (.iconst 4, 1)) (List.mem_of_getElem? (i := 20) rfl)
theorem dJ13_bitCount_95d88_27 : decode cJ13_bitCount_95d88 27 = .ok (.lushr, 1) := dgJ13_bitCount_95d88_0 (27, (.lushr, 1)) (List.mem_of_getElem? (i := 21) rfl)
theorem dJ13_bitCount_95d88_28 : decode cJ13_bitCount_95d88 28 = .ok (.ladd, 1) := dgJ13_bitCount_95d88_0 (28, (.ladd, 1)) (List.mem_of_getElem? (i := 22) rfl)
theorem dJ13_bitCount_95d88_29 : decode cJ13_bitCount_95d88 29 = .ok (.ldc2_w 318, 3) := dgJ13_bitCount_95d88_0 (29, (.ldc2_w 318, 3)) (List.mem_of_getElem? (i := 23) rfl)
theorem dJ13_bitCount_95d88_32 : decode cJ13_bitCount_95d88 32 = .ok (.land, 1) := dgJ13_bitCount_95d88_0 (32, (.land, 1)) (List.mem_of_getElem? (i := 24) rfl)
theorem dJ13_bitCount_95d88_33 : decode cJ13_bitCount_95d88 33 = .ok (.lstore_n 0, 1) := dgJ13_bitCount_95d88_0 (33, (.lstore_n 0, 1)) (List.mem_of_getElem? (i := 25) rfl)
theorem dJ13_bitCount_95d88_34 : decode cJ13_bitCount_95d88 34 = .ok (.lload_n 0, 1) := dgJ13_bitCount_95d88_0 (34, (.lload_n 0, 1)) (List.mem_of_getElem? (i := 26) rfl)
theorem dJ13_bitCount_95d88_35 : decode cJ13_bitCount_95d88 35 = .ok (.lload_n 0, 1) := dgJ13_bitCount_95d88_0 (35, (.lload_n 0, 1)) (List.mem_of_getElem? (i := 27) rfl)
theorem dJ13_bitCount_95d88_36 : decode cJ13_bitCount_95d88 36 = .ok (.bipush 8, 2) := dgJ13_bitCount_95d88_0 (36, (.bipush 8, 2)) (List.mem_of_getElem? (i := 28) rfl)
theorem dJ13_bitCount_95d88_38 : decode cJ13_bitCount_95d88 38 = .ok (.lushr, 1) := dgJ13_bitCount_95d88_0 (38, (.lushr, 1)) (List.mem_of_getElem? (i := 29) rfl)
theorem dJ13_bitCount_95d88_39 : decode cJ13_bitCount_95d88 39 = .ok (.ladd, 1) := dgJ13_bitCount_95d88_0 (39, (.ladd, 1)) (List.mem_of_getElem? (i := 30) rfl)
theorem dJ13_bitCount_95d88_40 : decode cJ13_bitCount_95d88 40 = .ok (.lstore_n 0, 1) := dgJ13_bitCount_95d88_0 (40, (.lstore_n 0, 1)) (List.mem_of_getElem? (i := 31) rfl)
theorem dJ13_bitCount_95d88_41 : decode cJ13_bitCount_95d88 41 = .ok (.lload_n 0, 1) := dgJ13_bitCount_95d88_0 (41, (.lload_n 0, 1)) (List.mem_of_getElem? (i := 32) rfl)
theorem dJ13_bitCount_95d88_42 : decode cJ13_bitCount_95d88 42 = .ok (.lload_n 0, 1) := dgJ13_bitCount_95d88_0 (42, (.lload_n 0, 1)) (List.mem_of_getElem? (i := 33) rfl)
theorem dJ13_bitCount_95d88_43 : decode cJ13_bitCount_95d88 43 = .ok (.bipush 16, 2) := dgJ13_bitCount_95d88_0 (43, (.bipush 16, 2)) (List.mem_of_getElem? (i := 34) rfl)
theorem dJ13_bitCount_95d88_45 : decode cJ13_bitCount_95d88 45 = .ok (.lushr, 1) := dgJ13_bitCount_95d88_0 (45, (.lushr, 1)) (List.mem_of_getElem? (i := 35) rfl)
theorem dJ13_bitCount_95d88_46 : decode cJ13_bitCount_95d88 46 = .ok (.ladd, 1) := dgJ13_bitCount_95d88_0 (46, (.ladd, 1)) (List.mem_of_getElem? (i := 36) rfl)
theorem dJ13_bitCount_95d88_47 : decode cJ13_bitCount_95d88 47 = .ok (.lstore_n 0, 1) := dgJ13_bitCount_95d88_0 (47, (.lstore_n 0, 1)) (List.mem_of_getElem? (i := 37) rfl)
theorem dJ13_bitCount_95d88_48 : decode cJ13_bitCount_95d88 48 = .ok (.lload_n 0, 1) := dgJ13_bitCount_95d88_0 (48, (.lload_n 0, 1)) (List.mem_of_getElem? (i := 38) rfl)
theorem dJ13_bitCount_95d88_49 : decode cJ13_bitCount_95d88 49 = .ok (.lload_n 0, 1) := dgJ13_bitCount_95d88_0 (49, (.lload_n 0, 1)) (List.mem_of_getElem? (i := 39) rfl)
theorem dgJ13_bitCount_95d88_1 : ∀ r ∈ ([(50, (.bipush 32, 2)), (52, (.lushr, 1)), (53, (.ladd, 1)), (54, (.lstore_n 0, 1)), (55, (.lload_n 0, 1)), (56, (.l2i, 1)), (57, (.bipush 127, 2)), (59, (.iand, 1)), (60, (.ireturn, 1))] : List (Nat × (Instr × Nat))), decode cJ13_bitCount_95d88 r.1 = .ok r.2 := by decide +kernel
theorem dJ13_bitCount_95d88_50 : decode cJ13_bitCount_95d88 50 = .ok (.bipush 32, 2) := dgJ13_bitCount_95d88_1 (50, (.bipush 32, 2)) (List.mem_of_getElem? (i := 0) rfl)
theorem dJ13_bitCount_95d88_52 : decode cJ13_bitCount_95d88 52 = .ok (.lushr, 1) := dgJ13_bitCount_95d88_1 (52, (.lushr, 1)) (List.mem_of_getElem? (i := 1) rfl)
theorem dJ13_bitCount_95d88_53 : decode cJ13_bitCount_95d88 53 = .ok (.ladd, 1) := dgJ13_bitCount_95d88_1 (53, (.ladd, 1)) (List.mem_of_getElem? (i := 2) rfl)
theorem dJ13_bitCount_95d88_54 : decode cJ13_bitCount_95d88 54 = .ok (.lstore_n 0, 1) := dgJ13_bitCount_95d88_1 (54, (.lstore_n 0, 1)) (List.mem_of_getElem? (i := 3) rfl)
theorem dJ13_bitCount_95d88_55 : decode cJ13_bitCount_95d88 55 = .ok (.lload_n 0, 1) := dgJ13_bitCount_95d88_1 (55, (.lload_n 0, 1)) (List.mem_of_getElem? (i := 4) rfl)
theorem dJ13_bitCount_95d88_56 : decode cJ13_bitCount_95d88 56 = .ok (.l2i, 1) := dgJ13_bitCount_95d88_1 (56, (.l2i, 1)) (List.mem_of_getElem? (i := 5) rfl)
theorem dJ13_bitCount_95d88_57 : decode cJ13_bitCount_95d88 57 = .ok (.bipush 127, 2) := dgJ13_bitCount_95d88_1 (57, (.bipush 127, 2)) (List.mem_of_getElem? (i := 6) rfl)
theorem dJ13_bitCount_95d88_59 : decode cJ13_bitCount_95d88 59 = .ok (.iand, 1) := dgJ13_bitCount_95d88_1 (59, (.iand, 1)) (List.mem_of_getElem? (i := 7) rfl)
theorem dJ13_bitCount_95d88_60 : decode cJ13_bitCount_95d88 60 = .ok (.ireturn, 1) := dgJ13_bitCount_95d88_1 (60, (.ireturn, 1)) (List.mem_of_getElem? (i := 8) rfl)
