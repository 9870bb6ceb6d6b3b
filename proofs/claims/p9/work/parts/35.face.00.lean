set_option maxHeartbeats 4000000 in
set_option maxRecDepth 100000 in
theorem x_isCell (l : Launch) (G : g5_G) (sz : Nat) (p_v : Int32) : Met l yX11_isCell (wsG yX11_isCell cX11_isCell 1 (some .boolean)) ({ frames := 0, cells := 0, slots := 0, locals := 0 }) (va_Pc [.int p_v] (g5_P G [] sz)) (va_Qi (fun (r : Int32) (u : va_W) => ((0 ≤ p_v.toInt ∧ p_v.toInt ≤ 63) ∧ (r = 1) ∧ (u = [])) ∨ ((r = 0) ∧ (u = []))) (g5_B G (va_A [] sz)) (va_A [] sz)) 0 0 (va_A [] sz) := by
  refine Met.ofW (cc := cX11_isCell) (maxL := 1) (ret := (some .boolean)) (by decide) rfl ?_
  intro p e s m args below meth c s₁ B hml hv
  obtain ⟨rfl, hsz, hP, hK, hD0, hN, hT⟩ := hv
  have hx := B.exec
  have hb := B.bytes
  have hr := B.returns
  have hts : ∀ w ∈ tblG, w.before _ s = true := fun w h => atoms_spec (ws := (wsG yX11_isCell cX11_isCell 1 (some .boolean))) B.pre w (List.mem_cons_of_mem _ h)
  have hown : s.vm.findClass RX11 = some m.cls := findClass_of_methodNamed B.named
  have hlocks := B.notSynchronized
  subst hsz
  have hD := hD0.self (sz := s.heap.size)
  generalize hAe : va_A [] s.heap.size = A at hD hT ⊢
  have hA : ∀ q : Nat, s.heap.size ≤ q → A q := fun q h => by rw [← hAe]; exact Or.inr h
  have hS : va_S A s.heap s.heap [] := va_S.rf
  have hP : va_P G.1 vwCl [] s.heap := hP
  have hl := lv_entry ([.int p_v]) (n := 1) (Nat.le_of_ble_eq_true rfl)
  rw [lg_entry_eq]
  generalize (lg_sl ([.int p_v]) ++ List.replicate (1 - (lg_sl ([.int p_v])).length) Slot.unset).toArray = ls at hl ⊢
  have hl : lv_has ls 1 [(0, .int p_v)] := hl
  refine lv_iload_n hx hb dX11_isCell_0 rfl (lv_at hl 0 rfl) ?_
  refine lv_if_lt (tgt := 14) hx hb dX11_isCell_1 (by decide) (fun c_1 => ?_) (fun c_1 => ?_)
  ·
    have i_1 : p_v.toInt < 0 := by have z := g5_lt (a := p_v.toInt) (b := 0) (by rfl) (by decide) c_1; omega
    refine lv_iconst (v := 0) hx hb dX11_isCell_14 (by decide) ?_
    exact W.zret (v := 0) hx hb hr rfl (fun t ht hW => ⟨⟨0, [], rfl, Or.inr (⟨rfl, rfl⟩), by rw [ht]; exact hP.sub [] rfl, hD.sub [] (by decide) rfl⟩, hS.F ht⟩) hS.2.2 dX11_isCell_15
  ·
    have i_1 : p_v.toInt ≥ 0 := by have z := g5_ltN (a := p_v.toInt) (b := 0) (by rfl) (by decide) c_1; omega
    refine lv_iload_n hx hb dX11_isCell_4 rfl (lv_at hl 0 rfl) ?_
    refine lv_bipush (v := 64) hx hb dX11_isCell_5 (by decide) ?_
    refine lv_icmp_ge (tgt := 14) hx hb dX11_isCell_7 (by decide) (fun c_2 => ?_) (fun c_2 => ?_)
    ·
      have i_2 : p_v.toInt ≥ 64 := by have z := g5_ge (a := p_v.toInt) (b := 64) (by rfl) (by decide) c_2; omega
      refine lv_iconst (v := 0) hx hb dX11_isCell_14 (by decide) ?_
      exact W.zret (v := 0) hx hb hr rfl (fun t ht hW => ⟨⟨0, [], rfl, Or.inr (⟨rfl, rfl⟩), by rw [ht]; exact hP.sub [] rfl, hD.sub [] (by decide) rfl⟩, hS.F ht⟩) hS.2.2 dX11_isCell_15
    ·
      have i_2 : p_v.toInt < 64 := by have z := g5_geN (a := p_v.toInt) (b := 64) (by rfl) (by decide) c_2; omega
      refine lv_iconst (v := 1) hx hb dX11_isCell_10 (by decide) ?_
      refine lv_goto (tgt := 15) hx hb dX11_isCell_11 (by decide) ?_
      exact W.zret (v := 1) hx hb hr rfl (fun t ht hW => ⟨⟨1, [], rfl, Or.inl (⟨by omega, rfl, rfl⟩), by rw [ht]; exact hP.sub [] rfl, hD.sub [] (by decide) rfl⟩, hS.F ht⟩) hS.2.2 dX11_isCell_15
theorem dgX11_isCellOrNone_0 : ∀ r ∈ ([(0, (.iload_n 0, 1)), (1, (.iconst (-1), 1)), (2, (.if_icmp .lt 13, 3)), (5, (.iload_n 0, 1)), (6, (.bipush 64, 2)), (8, (.if_icmp .ge 7, 3)), (11, (.iconst 1, 1)), (12, (.goto 4, 3)), (15, (.iconst 0, 1)), (16, (.ireturn, 1))] : List (Nat × (Instr × Nat))), decode cX11_isCellOrNone r.1 = .ok r.2 := by decide +kernel
theorem dX11_isCellOrNone_0 : decode cX11_isCellOrNone 0 = .ok (.iload_n 0, 1) := dgX11_isCellOrNone_0 (0, (.iload_n 0, 1)) (List.mem_of_getElem? (i := 0) rfl)
theorem dX11_isCellOrNone_1 : decode cX11_isCellOrNone 1 = .ok (.iconst (-1), 1) := dgX11_isCellOrNone_0 (1, (.iconst (-1), 1)) (List.mem_of_getElem? (i := 1) rfl)
theorem dX11_isCellOrNone_2 : decode cX11_isCellOrNone 2 = .ok (.if_icmp .lt 13, 3) := dgX11_isCellOrNone_0 (2, (.if_icmp .lt 13, 3)) (List.mem_of_getElem? (i := 2) rfl)
theorem dX11_isCellOrNone_5 : decode cX11_isCellOrNone 5 = .ok (.iload_n 0, 1) := dgX11_isCellOrNone_0 (5, (.iload_n 0, 1)) (List.mem_of_getElem? (i := 3) rfl)
theorem dX11_isCellOrNone_6 : decode cX11_isCellOrNone 6 = .ok (.bipush 64, 2) := dgX11_isCellOrNone_0 (6, (.bipush 64, 2)) (List.mem_of_getElem? (i := 4) rfl)
theorem dX11_isCellOrNone_8 : decode cX11_isCellOrNone 8 = .ok (.if_icmp .ge 7, 3) := dgX11_isCellOrNone_0 (8, (.if_icmp .ge 7, 3)) (List.mem_of_getElem? (i := 5) rfl)
theorem dX11_isCellOrNone_11 : decode cX11_isCellOrNone 11 = .ok (.iconst 1, 1) := dgX11_isCellOrNone_0 (11, (.iconst 1, 1)) (List.mem_of_getElem? (i := 6) rfl)
theorem dX11_isCellOrNone_12 : decode cX11_isCellOrNone 12 = .ok (.goto 4, 3) := dgX11_isCellOrNone_0 (12, (.goto 4, 3)) (List.mem_of_getElem? (i := 7) rfl)
theorem dX11_isCellOrNone_15 : decode cX11_isCellOrNone 15 = .ok (.iconst 0, 1) := dgX11_isCellOrNone_0 (15, (.iconst 0, 1)) (List.mem_of_getElem? (i := 8) rfl)
theorem dX11_isCellOrNone_16 : decode cX11_isCellOrNone 16 = .ok (.ireturn, 1) := dgX11_isCellOrNone_0 (16, (.ireturn, 1)) (List.mem_of_getElem? (i := 9) rfl)
set_option maxHeartbeats 4000000 in
set_option maxRecDepth 100000 in
theorem x_isCellOrNone (l : Launch) (G : g5_G) (sz : Nat) (p_v : Int32) : Met l yX11_isCellOrNone (wsG yX11_isCellOrNone cX11_isCellOrNone 1 (some .boolean)) ({ frames := 0, cells := 0, slots := 0, locals := 0 }) (va_Pc [.int p_v] (g5_P G [] sz)) (va_Qi (fun (r : Int32) (u : va_W) => (((-1) ≤ p_v.toInt ∧ p_v.toInt ≤ 63) ∧ (r = 1) ∧ (u = [])) ∨ ((r = 0) ∧ (u = []))) (g5_B G (va_A [] sz)) (va_A [] sz)) 0 0 (va_A [] sz) := by
  refine Met.ofW (cc := cX11_isCellOrNone) (maxL := 1) (ret := (some .boolean)) (by decide) rfl ?_
  intro p e s m args below meth c s₁ B hml hv
  obtain ⟨rfl, hsz, hP, hK, hD0, hN, hT⟩ := hv
  have hx := B.exec
  have hb := B.bytes
  have hr := B.returns
  have hts : ∀ w ∈ tblG, w.before _ s = true := fun w h => atoms_spec (ws := (wsG yX11_isCellOrNone cX11_isCellOrNone 1 (some .boolean))) B.pre w (List.mem_cons_of_mem _ h)
  have hown : s.vm.findClass RX11 = some m.cls := findClass_of_methodNamed B.named
  have hlocks := B.notSynchronized
  subst hsz
  have hD := hD0.self (sz := s.heap.size)
  generalize hAe : va_A [] s.heap.size = A at hD hT ⊢
  have hA : ∀ q : Nat, s.heap.size ≤ q → A q := fun q h => by rw [← hAe]; exact Or.inr h
  have hS : va_S A s.heap s.heap [] := va_S.rf
  have hP : va_P G.1 vwCl [] s.heap := hP
  have hl := lv_entry ([.int p_v]) (n := 1) (Nat.le_of_ble_eq_true rfl)
  rw [lg_entry_eq]
  generalize (lg_sl ([.int p_v]) ++ List.replicate (1 - (lg_sl ([.int p_v])).length) Slot.unset).toArray = ls at hl ⊢
  have hl : lv_has ls 1 [(0, .int p_v)] := hl
  refine lv_iload_n hx hb dX11_isCellOrNone_0 rfl (lv_at hl 0 rfl) ?_
  refine lv_iconst (v := (-1)) hx hb dX11_isCellOrNone_1 (by decide) ?_
  refine lv_icmp_lt (tgt := 15) hx hb dX11_isCellOrNone_2 (by decide) (fun c_1 => ?_) (fun c_1 => ?_)
  ·
    have i_1 : p_v.toInt < (-1) := by have z := g5_lt (a := p_v.toInt) (b := (-1)) (by rfl) (by decide) c_1; omega
    refine lv_iconst (v := 0) hx hb dX11_isCellOrNone_15 (by decide) ?_
    exact W.zret (v := 0) hx hb hr rfl (fun t ht hW => ⟨⟨0, [], rfl, Or.inr (⟨rfl, rfl⟩), by rw [ht]; exact hP.sub [] rfl, hD.sub [] (by decide) rfl⟩, hS.F ht⟩) hS.2.2 dX11_isCellOrNone_16
  ·
    have i_1 : p_v.toInt ≥ (-1) := by have z := g5_ltN (a := p_v.toInt) (b := (-1)) (by rfl) (by decide) c_1; omega
    refine lv_iload_n hx hb dX11_isCellOrNone_5 rfl (lv_at hl 0 rfl) ?_
    refine lv_bipush (v := 64) hx hb dX11_isCellOrNone_6 (by decide) ?_
    refine lv_icmp_ge (tgt := 15) hx hb dX11_isCellOrNone_8 (by decide) (fun c_2 => ?_) (fun c_2 => ?_)
    ·
      have i_2 : p_v.toInt ≥ 64 := by have z := g5_ge (a := p_v.toInt) (b := 64) (by rfl) (by decide) c_2; omega
      refine lv_iconst (v := 0) hx hb dX11_isCellOrNone_15 (by decide) ?_
      exact W.zret (v := 0) hx hb hr rfl (fun t ht hW => ⟨⟨0, [], rfl, Or.inr (⟨rfl, rfl⟩), by rw [ht]; exact hP.sub [] rfl, hD.sub [] (by decide) rfl⟩, hS.F ht⟩) hS.2.2 dX11_isCellOrNone_16
    ·
      have i_2 : p_v.toInt < 64 := by have z := g5_geN (a := p_v.toInt) (b := 64) (by rfl) (by decide) c_2; omega
      refine lv_iconst (v := 1) hx hb dX11_isCellOrNone_11 (by decide) ?_
      refine lv_goto (tgt := 16) hx hb dX11_isCellOrNone_12 (by decide) ?_
      exact W.zret (v := 1) hx hb hr rfl (fun t ht hW => ⟨⟨1, [], rfl, Or.inl (⟨by omega, rfl, rfl⟩), by rw [ht]; exact hP.sub [] rfl, hD.sub [] (by decide) rfl⟩, hS.F ht⟩) hS.2.2 dX11_isCellOrNone_16
set_option maxHeartbeats 4000000 in
set_option maxRecDepth 100000 in
theorem x_isHour (l : Launch) (G : g5_G) (sz : Nat) (p_v : Int32) : Met l yX11_isHour (wsG yX11_isHour cX11_isHour 1 (some .boolean)) ({ frames := 0, cells := 0, slots := 0, locals := 0 }) (va_Pc [.int p_v] (g5_P G [] sz)) (va_Qi (fun (r : Int32) (u : va_W) => ((0 ≤ p_v.toInt ∧ p_v.toInt ≤ 23) ∧ (r = 1) ∧ (u = [])) ∨ ((r = 0) ∧ (u = []))) (g5_B G (va_A [] sz)) (va_A [] sz)) 0 0 (va_A [] sz) := by
  refine Met.ofW (cc := cX11_isHour) (maxL := 1) (ret := (some .boolean)) (by decide) rfl ?_
  intro p e s m args below meth c s₁ B hml hv
  obtain ⟨rfl, hsz, hP, hK, hD0, hN, hT⟩ := hv
  have hx := B.exec
  have hb := B.bytes
  have hr := B.returns
  have hts : ∀ w ∈ tblG, w.before _ s = true := fun w h => atoms_spec (ws := (wsG yX11_isHour cX11_isHour 1 (some .boolean))) B.pre w (List.mem_cons_of_mem _ h)
  have hown : s.vm.findClass RX11 = some m.cls := findClass_of_methodNamed B.named
  have hlocks := B.notSynchronized
  subst hsz
  have hD := hD0.self (sz := s.heap.size)
  generalize hAe : va_A [] s.heap.size = A at hD hT ⊢
  have hA : ∀ q : Nat, s.heap.size ≤ q → A q := fun q h => by rw [← hAe]; exact Or.inr h
  have hS : va_S A s.heap s.heap [] := va_S.rf
  have hP : va_P G.1 vwCl [] s.heap := hP
  have hl := lv_entry ([.int p_v]) (n := 1) (Nat.le_of_ble_eq_true rfl)
  rw [lg_entry_eq]
  generalize (lg_sl ([.int p_v]) ++ List.replicate (1 - (lg_sl ([.int p_v])).length) Slot.unset).toArray = ls at hl ⊢
  have hl : lv_has ls 1 [(0, .int p_v)] := hl
  refine lv_iload_n hx hb dX11_isHour_0 rfl (lv_at hl 0 rfl) ?_
  refine lv_if_lt (tgt := 14) hx hb dX11_isHour_1 (by decide) (fun c_1 => ?_) (fun c_1 => ?_)
  ·
    have i_1 : p_v.toInt < 0 := by have z := g5_lt (a := p_v.toInt) (b := 0) (by rfl) (by decide) c_1; omega
    refine lv_iconst (v := 0) hx hb dX11_isHour_14 (by decide) ?_
    exact W.zret (v := 0) hx hb hr rfl (fun t ht hW => ⟨⟨0, [], rfl, Or.inr (⟨rfl, rfl⟩), by rw [ht]; exact hP.sub [] rfl, hD.sub [] (by decide) rfl⟩, hS.F ht⟩) hS.2.2 dX11_isHour_15
  ·
    have i_1 : p_v.toInt ≥ 0 := by have z := g5_ltN (a := p_v.toInt) (b := 0) (by rfl) (by decide) c_1; omega
    refine lv_iload_n hx hb dX11_isHour_4 rfl (lv_at hl 0 rfl) ?_
    refine lv_bipush (v := 24) hx hb dX11_isHour_5 (by decide) ?_
    refine lv_icmp_ge (tgt := 14) hx hb dX11_isHour_7 (by decide) (fun c_2 => ?_) (fun c_2 => ?_)
    ·
      have i_2 : p_v.toInt ≥ 24 := by have z := g5_ge (a := p_v.toInt) (b := 24) (by rfl) (by decide) c_2; omega
      refine lv_iconst (v := 0) hx hb dX11_isHour_14 (by decide) ?_
      exact W.zret (v := 0) hx hb hr rfl (fun t ht hW => ⟨⟨0, [], rfl, Or.inr (⟨rfl, rfl⟩), by rw [ht]; exact hP.sub [] rfl, hD.sub [] (by decide) rfl⟩, hS.F ht⟩) hS.2.2 dX11_isHour_15
    ·
      have i_2 : p_v.toInt < 24 := by have z := g5_geN (a := p_v.toInt) (b := 24) (by rfl) (by decide) c_2; omega
      refine lv_iconst (v := 1) hx hb dX11_isHour_10 (by decide) ?_
      refine lv_goto (tgt := 15) hx hb dX11_isHour_11 (by decide) ?_
      exact W.zret (v := 1) hx hb hr rfl (fun t ht hW => ⟨⟨1, [], rfl, Or.inl (⟨by omega, rfl, rfl⟩), by rw [ht]; exact hP.sub [] rfl, hD.sub [] (by decide) rfl⟩, hS.F ht⟩) hS.2.2 dX11_isHour_15
theorem dgX11_isSort_0 : ∀ r ∈ ([(0, (.iload_n 0, 1)), (1, (.ifCond .lt 13, 3)), (4, (.iload_n 0, 1)), (5, (.bipush 6, 2)), (7, (.if_icmp .ge 7, 3)), (10, (.iconst 1, 1)), (11, (.goto 4, 3)), (14, (.iconst 0, 1)), (15, (.ireturn, 1))] : List (Nat × (Instr × Nat))), decode cX11_isSort r.1 = .ok r.2 := by decide +kernel
theorem dX11_isSort_0 : decode cX11_isSort 0 = .ok (.iload_n 0, 1) := dgX11_isSort_0 (0, (.iload_n 0, 1)) (List.mem_of_getElem? (i := 0) rfl)
theorem dX11_isSort_1 : decode cX11_isSort 1 = .ok (.ifCond .lt 13, 3) := dgX11_isSort_0 (1, (.ifCond .lt 13, 3)) (List.mem_of_getElem? (i := 1) rfl)
theorem dX11_isSort_4 : decode cX11_isSort 4 = .ok (.iload_n 0, 1) := dgX11_isSort_0 (4, (.iload_n 0, 1)) (List.mem_of_getElem? (i := 2) rfl)
theorem dX11_isSort_5 : decode cX11_isSort 5 = .ok (.bipush 6, 2) := dgX11_isSort_0 (5, (.bipush 6, 2)) (List.mem_of_getElem? (i := 3) rfl)
theorem dX11_isSort_7 : decode cX11_isSort 7 = .ok (.if_icmp .ge 7, 3) := dgX11_isSort_0 (7, (.if_icmp .ge 7, 3)) (List.mem_of_getElem? (i := 4) rfl)
theorem dX11_isSort_10 : decode cX11_isSort 10 = .ok (.iconst 1, 1) := dgX11_isSort_0 (10, (.iconst 1, 1)) (List.mem_of_getElem? (i := 5) rfl)
theorem dX11_isSort_11 : decode cX11_isSort 11 = .ok (.goto 4, 3) := dgX11_isSort_0 (11, (.goto 4, 3)) (List.mem_of_getElem? (i := 6) rfl)
theorem dX11_isSort_14 : decode cX11_isSort 14 = .ok (.iconst 0, 1) := dgX11_isSort_0 (14, (.iconst 0, 1)) (List.mem_of_getElem? (i := 7) rfl)
theorem dX11_isSort_15 : decode cX11_isSort 15 = .ok (.ireturn, 1) := dgX11_isSort_0 (15, (.ireturn, 1)) (List.mem_of_getElem? (i := 8) rfl)
theorem dgX11_isDust_0 : ∀ r ∈ ([(0, (.iload_n 0, 1)), (1, (.ifCond .lt 13, 3)), (4, (.iload_n 0, 1)), (5, (.bipush 10, 2)), (7, (.if_icmp .gt 7, 3)), (10, (.iconst 1, 1)), (11, (.goto 4, 3)), (14, (.iconst 0, 1)), (15, (.ireturn, 1))] : List (Nat × (Instr × Nat))), decode cX11_isDust r.1 = .ok r.2 := by decide +kernel
theorem dX11_isDust_0 : decode cX11_isDust 0 = .ok (.iload_n 0, 1) := dgX11_isDust_0 (0, (.iload_n 0, 1)) (List.mem_of_getElem? (i := 0) rfl)
theorem dX11_isDust_1 : decode cX11_isDust 1 = .ok (.ifCond .lt 13, 3) := dgX11_isDust_0 (1, (.ifCond .lt 13, 3)) (List.mem_of_getElem? (i := 1) rfl)
theorem dX11_isDust_4 : decode cX11_isDust 4 = .ok (.iload_n 0, 1) := dgX11_isDust_0 (4, (.iload_n 0, 1)) (List.mem_of_getElem? (i := 2) rfl)
theorem dX11_isDust_5 : decode cX11_isDust 5 = .ok (.bipush 10, 2) := dgX11_isDust_0 (5, (.bipush 10, 2)) (List.mem_of_getElem? (i := 3) rfl)
theorem dX11_isDust_7 : decode cX11_isDust 7 = .ok (.if_icmp .gt 7, 3) := dgX11_isDust_0 (7, (.if_icmp .gt 7, 3)) (List.mem_of_getElem? (i := 4) rfl)
theorem dX11_isDust_10 : decode cX11_isDust 10 = .ok (.iconst 1, 1) := dgX11_isDust_0 (10, (.iconst 1, 1)) (List.mem_of_getElem? (i := 5) rfl)
theorem dX11_isDust_11 : decode cX11_isDust 11 = .ok (.goto 4, 3) := dgX11_isDust_0 (11, (.goto 4, 3)) (List.mem_of_getElem? (i := 6) rfl)
theorem dX11_isDust_14 : decode cX11_isDust 14 = .ok (.iconst 0, 1) := dgX11_isDust_0 (14, (.iconst 0, 1)) (List.mem_of_getElem? (i := 7) rfl)
theorem dX11_isDust_15 : decode cX11_isDust 15 = .ok (.ireturn, 1) := dgX11_isDust_0 (15, (.ireturn, 1)) (List.mem_of_getElem? (i := 8) rfl)
theorem dgX11_isFlag_0 : ∀ r ∈ ([(0, (.iload_n 0, 1)), (1, (.ifCond .eq 8, 3)), (4, (.iload_n 0, 1)), (5, (.iconst 1, 1)), (6, (.if_icmp .ne 7, 3)), (9, (.iconst 1, 1)), (10, (.goto 4, 3)), (13, (.iconst 0, 1)), (14, (.ireturn, 1))] : List (Nat × (Instr × Nat))), decode cX11_isFlag r.1 = .ok r.2 := by decide +kernel
theorem dX11_isFlag_0 : decode cX11_isFlag 0 = .ok (.iload_n 0, 1) := dgX11_isFlag_0 (0, (.iload_n 0, 1)) (List.mem_of_getElem? (i := 0) rfl)
theorem dX11_isFlag_1 : decode cX11_isFlag 1 = .ok (.ifCond .eq 8, 3) := dgX11_isFlag_0 (1, (.ifCond .eq 8, 3)) (List.mem_of_getElem? (i := 1) rfl)
theorem dX11_isFlag_4 : decode cX11_isFlag 4 = .ok (.iload_n 0, 1) := dgX11_isFlag_0 (4, (.iload_n 0, 1)) (List.mem_of_getElem? (i := 2) rfl)
theorem dX11_isFlag_5 : decode cX11_isFlag 5 = .ok (.iconst 1, 1) := dgX11_isFlag_0 (5, (.iconst 1, 1)) (List.mem_of_getElem? (i := 3) rfl)
theorem dX11_isFlag_6 : decode cX11_isFlag 6 = .ok (.if_icmp .ne 7, 3) := dgX11_isFlag_0 (6, (.if_icmp .ne 7, 3)) (List.mem_of_getElem? (i := 4) rfl)
theorem dX11_isFlag_9 : decode cX11_isFlag 9 = .ok (.iconst 1, 1) := dgX11_isFlag_0 (9, (.iconst 1, 1)) (List.mem_of_getElem? (i := 5) rfl)
theorem dX11_isFlag_10 : decode cX11_isFlag 10 = .ok (.goto 4, 3) := dgX11_isFlag_0 (10, (.goto 4, 3)) (List.mem_of_getElem? (i := 6) rfl)
theorem dX11_isFlag_13 : decode cX11_isFlag 13 = .ok (.iconst 0, 1) := dgX11_isFlag_0 (13, (.iconst 0, 1)) (List.mem_of_getElem? (i := 7) rfl)
theorem dX11_isFlag_14 : decode cX11_isFlag 14 = .ok (.ireturn, 1) := dgX11_isFlag_0 (14, (.ireturn, 1)) (List.mem_of_getElem? (i := 8) rfl)
theorem dgX11_isImage_0 : ∀ r ∈ ([(0, (.iload_n 0, 1)), (1, (.ifCond .lt 12, 3)), (4, (.iload_n 0, 1)), (5, (.iconst 2, 1)), (6, (.if_icmp .ge 7, 3)), (9, (.iconst 1, 1)), (10, (.goto 4, 3)), (13, (.iconst 0, 1)), (14, (.ireturn, 1))] : List (Nat × (Instr × Nat))), decode cX11_isImage r.1 = .ok r.2 := by decide +kernel
theorem dX11_isImage_0 : decode cX11_isImage 0 = .ok (.iload_n 0, 1) := dgX11_isImage_0 (0, (.iload_n 0, 1)) (List.mem_of_getElem? (i := 0) rfl)
theorem dX11_isImage_1 : decode cX11_isImage 1 = .ok (.ifCond .lt 12, 3) := dgX11_isImage_0 (1, (.ifCond .lt 12, 3)) (List.mem_of_getElem? (i := 1) rfl)
theorem dX11_isImage_4 : decode cX11_isImage 4 = .ok (.iload_n 0, 1) := dgX11_isImage_0 (4, (.iload_n 0, 1)) (List.mem_of_getElem? (i := 2) rfl)
theorem dX11_isImage_5 : decode cX11_isImage 5 = .ok (.iconst 2, 1) := dgX11_isImage_0 (5, (.iconst 2, 1)) (List.mem_of_getElem? (i := 3) rfl)
theorem dX11_isImage_6 : decode cX11_isImage 6 = .ok (.if_icmp .ge 7, 3) := dgX11_isImage_0 (6, (.if_icmp .ge 7, 3)) (List.mem_of_getElem? (i := 4) rfl)
theorem dX11_isImage_9 : decode cX11_isImage 9 = .ok (.iconst 1, 1) := dgX11_isImage_0 (9, (.iconst 1, 1)) (List.mem_of_getElem? (i := 5) rfl)
theorem dX11_isImage_10 : decode cX11_isImage 10 = .ok (.goto 4, 3) := dgX11_isImage_0 (10, (.goto 4, 3)) (List.mem_of_getElem? (i := 6) rfl)
theorem dX11_isImage_13 : decode cX11_isImage 13 = .ok (.iconst 0, 1) := dgX11_isImage_0 (13, (.iconst 0, 1)) (List.mem_of_getElem? (i := 7) rfl)
theorem dX11_isImage_14 : decode cX11_isImage 14 = .ok (.ireturn, 1) := dgX11_isImage_0 (14, (.ireturn, 1)) (List.mem_of_getElem? (i := 8) rfl)
set_option maxHeartbeats 4000000 in
set_option maxRecDepth 100000 in
theorem x_isImage (l : Launch) (G : g5_G) (sz : Nat) (p_v : Int32) : Met l yX11_isImage (wsG yX11_isImage cX11_isImage 1 (some .boolean)) ({ frames := 0, cells := 0, slots := 0, locals := 0 }) (va_Pc [.int p_v] (g5_P G [] sz)) (va_Qi (fun (r : Int32) (u : va_W) => ((0 ≤ p_v.toInt ∧ p_v.toInt ≤ 1) ∧ (r = 1) ∧ (u = [])) ∨ ((p_v.toInt < 0 ∨ 1 < p_v.toInt) ∧ (r = 0) ∧ (u = []))) (g5_B G (va_A [] sz)) (va_A [] sz)) 0 0 (va_A [] sz) := by
  refine Met.ofW (cc := cX11_isImage) (maxL := 1) (ret := (some .boolean)) (by decide) rfl ?_
  intro p e s m args below meth c s₁ B hml hv
  obtain ⟨rfl, hsz, hP, hK, hD0, hN, hT⟩ := hv
  have hx := B.exec
  have hb := B.bytes
  have hr := B.returns
  have hts : ∀ w ∈ tblG, w.before _ s = true := fun w h => atoms_spec (ws := (wsG yX11_isImage cX11_isImage 1 (some .boolean))) B.pre w (List.mem_cons_of_mem _ h)
  have hown : s.vm.findClass RX11 = some m.cls := findClass_of_methodNamed B.named
  have hlocks := B.notSynchronized
  subst hsz
  have hD := hD0.self (sz := s.heap.size)
  generalize hAe : va_A [] s.heap.size = A at hD hT ⊢
  have hA : ∀ q : Nat, s.heap.size ≤ q → A q := fun q h => by rw [← hAe]; exact Or.inr h
  have hS : va_S A s.heap s.heap [] := va_S.rf
  have hP : va_P G.1 vwCl [] s.heap := hP
  have hl := lv_entry ([.int p_v]) (n := 1) (Nat.le_of_ble_eq_true rfl)
  rw [lg_entry_eq]
  generalize (lg_sl ([.int p_v]) ++ List.replicate (1 - (lg_sl ([.int p_v])).length) Slot.unset).toArray = ls at hl ⊢
  have hl : lv_has ls 1 [(0, .int p_v)] := hl
  refine lv_iload_n hx hb dX11_isImage_0 rfl (lv_at hl 0 rfl) ?_
  refine lv_if_lt (tgt := 13) hx hb dX11_isImage_1 (by decide) (fun c_1 => ?_) (fun c_1 => ?_)
  ·
    have i_1 : p_v.toInt < 0 := by have z := g5_lt (a := p_v.toInt) (b := 0) (by rfl) (by decide) c_1; omega
    refine lv_iconst (v := 0) hx hb dX11_isImage_13 (by decide) ?_
    exact W.zret (v := 0) hx hb hr rfl (fun t ht hW => ⟨⟨0, [], rfl, Or.inr (⟨by omega, rfl, rfl⟩), by rw [ht]; exact hP.sub [] rfl, hD.sub [] (by decide) rfl⟩, hS.F ht⟩) hS.2.2 dX11_isImage_14
  ·
    have i_1 : p_v.toInt ≥ 0 := by have z := g5_ltN (a := p_v.toInt) (b := 0) (by rfl) (by decide) c_1; omega
    refine lv_iload_n hx hb dX11_isImage_4 rfl (lv_at hl 0 rfl) ?_
    refine lv_iconst (v := 2) hx hb dX11_isImage_5 (by decide) ?_
    refine lv_icmp_ge (tgt := 13) hx hb dX11_isImage_6 (by decide) (fun c_2 => ?_) (fun c_2 => ?_)
    ·
      have i_2 : p_v.toInt ≥ 2 := by have z := g5_ge (a := p_v.toInt) (b := 2) (by rfl) (by decide) c_2; omega
      refine lv_iconst (v := 0) hx hb dX11_isImage_13 (by decide) ?_
      exact W.zret (v := 0) hx hb hr rfl (fun t ht hW => ⟨⟨0, [], rfl, Or.inr (⟨by omega, rfl, rfl⟩), by rw [ht]; exact hP.sub [] rfl, hD.sub [] (by decide) rfl⟩, hS.F ht⟩) hS.2.2 dX11_isImage_14
    ·
      have i_2 : p_v.toInt < 2 := by have z := g5_geN (a := p_v.toInt) (b := 2) (by rfl) (by decide) c_2; omega
      refine lv_iconst (v := 1) hx hb dX11_isImage_9 (by decide) ?_
      refine lv_goto (tgt := 14) hx hb dX11_isImage_10 (by decide) ?_
      exact W.zret (v := 1) hx hb hr rfl (fun t ht hW => ⟨⟨1, [], rfl, Or.inl (⟨by omega, rfl, rfl⟩), by rw [ht]; exact hP.sub [] rfl, hD.sub [] (by decide) rfl⟩, hS.F ht⟩) hS.2.2 dX11_isImage_14
theorem dgX11_isStay_0 : ∀ r ∈ ([(0, (.iload_n 0, 1)), (1, (.invokestatic 127, 3)), (4, (.ifCond .eq 26, 3)), (7, (.iload_n 1, 1)), (8, (.invokestatic 127, 3)), (11, (.ifCond .eq 19, 3)), (14, (.iload_n 1, 1)), (15, (.iload_n 0, 1)), (16, (.if_icmp .lt 14, 3)), (19, (.iload_n 2, 1)), (20, (.invokestatic 241, 3)), (23, (.ifCond .eq 7, 3)), (26, (.iconst 1, 1)), (27, (.goto 4, 3)), (30, (.iconst 0, 1)), (31, (.ireturn, 1))] : List (Nat × (Instr × Nat))), decode cX11_isStay r.1 = .ok r.2 := by decide +kernel
theorem dX11_isStay_0 : decode cX11_isStay 0 = .ok (.iload_n 0, 1) := dgX11_isStay_0 (0, (.iload_n 0, 1)) (List.mem_of_getElem? (i := 0) rfl)
theorem dX11_isStay_1 : decode cX11_isStay 1 = .ok (.invokestatic 127, 3) := dgX11_isStay_0 (1, (.invokestatic 127, 3)) (List.mem_of_getElem? (i := 1) rfl)
theorem dX11_isStay_4 : decode cX11_isStay 4 = .ok (.ifCond .eq 26, 3) := dgX11_isStay_0 (4, (.ifCond .eq 26, 3)) (List.mem_of_getElem? (i := 2) rfl)
theorem dX11_isStay_7 : decode cX11_isStay 7 = .ok (.iload_n 1, 1) := dgX11_isStay_0 (7, (.iload_n 1, 1)) (List.mem_of_getElem? (i := 3) rfl)
theorem dX11_isStay_8 : decode cX11_isStay 8 = .ok (.invokestatic 127, 3) := dgX11_isStay_0 (8, (.invokestatic 127, 3)) (List.mem_of_getElem? (i := 4) rfl)
theorem dX11_isStay_11 : decode cX11_isStay 11 = .ok (.ifCond .eq 19, 3) := dgX11_isStay_0 (11, (.ifCond .eq 19, 3)) (List.mem_of_getElem? (i := 5) rfl)
theorem dX11_isStay_14 : decode cX11_isStay 14 = .ok (.iload_n 1, 1) := dgX11_isStay_0 (14, (.iload_n 1, 1)) (List.mem_of_getElem? (i := 6) rfl)
theorem dX11_isStay_15 : decode cX11_isStay 15 = .ok (.iload_n 0, 1) := dgX11_isStay_0 (15, (.iload_n 0, 1)) (List.mem_of_getElem? (i := 7) rfl)
theorem dX11_isStay_16 : decode cX11_isStay 16 = .ok (.if_icmp .lt 14, 3) := dgX11_isStay_0 (16, (.if_icmp .lt 14, 3)) (List.mem_of_getElem? (i := 8) rfl)
theorem dX11_isStay_19 : decode cX11_isStay 19 = .ok (.iload_n 2, 1) := dgX11_isStay_0 (19, (.iload_n 2, 1)) (List.mem_of_getElem? (i := 9) rfl)
theorem dX11_isStay_20 : decode cX11_isStay 20 = .ok (.invokestatic 241, 3) := dgX11_isStay_0 (20, (.invokestatic 241, 3)) (List.mem_of_getElem? (i := 10) rfl)
theorem dX11_isStay_23 : decode cX11_isStay 23 = .ok (.ifCond .eq 7, 3) := dgX11_isStay_0 (23, (.ifCond .eq 7, 3)) (List.mem_of_getElem? (i := 11) rfl)
theorem dX11_isStay_26 : decode cX11_isStay 26 = .ok (.iconst 1, 1) := dgX11_isStay_0 (26, (.iconst 1, 1)) (List.mem_of_getElem? (i := 12) rfl)
theorem dX11_isStay_27 : decode cX11_isStay 27 = .ok (.goto 4, 3) := dgX11_isStay_0 (27, (.goto 4, 3)) (List.mem_of_getElem? (i := 13) rfl)
theorem dX11_isStay_30 : decode cX11_isStay 30 = .ok (.iconst 0, 1) := dgX11_isStay_0 (30, (.iconst 0, 1)) (List.mem_of_getElem? (i := 14) rfl)
theorem dX11_isStay_31 : decode cX11_isStay 31 = .ok (.ireturn, 1) := dgX11_isStay_0 (31, (.ireturn, 1)) (List.mem_of_getElem? (i := 15) rfl)
theorem ml_X11_241 : Cond.methodLink RX11 241 yX11_isCellOrNone ∈ tblG := tg 591 (by decide +kernel) (by decide +kernel)
theorem st_X11_isCellOrNone : Cond.static yX11_isCellOrNone ∈ tblG := tg 592 (by decide +kernel) (by decide +kernel)
theorem cd_X11_isCellOrNone : Cond.code yX11_isCellOrNone cX11_isCellOrNone 1 (some .boolean) ∈ tblG := tg 593 (by decide +kernel) (by decide +kernel)
theorem gW_X11_isCellOrNone : GoodIn tblG (wsG yX11_isCellOrNone cX11_isCellOrNone 1 (some .boolean)) := tgi cd_X11_isCellOrNone
theorem gS_X11_241 : GoodIn tblG (va_wsS RX11 241 yX11_isCellOrNone (wsG yX11_isCellOrNone cX11_isCellOrNone 1 (some .boolean))) := tgS ml_X11_241 st_X11_isCellOrNone ini_X11 gW_X11_isCellOrNone
theorem hs_X11_isCellOrNone : yX11_isCellOrNone.cls ≠ "java/lang/invoke/MethodHandle" ∧ yX11_isCellOrNone.cls ≠ "java/lang/invoke/VarHandle" ∧ (parseMethodDescriptor yX11_isCellOrNone.desc).map (fun d => d.parameters.length) = some 1 := by decide +kernel
theorem dgX11_isTurn_0 : ∀ r ∈ ([(0, (.iload_n 0, 1)), (1, (.iconst 1, 1)), (2, (.iadd, 1)), (3, (.tableswitch 61 1 4 #[29, 34, 39, 44], 29)), (32, (.iload_n 1, 1)), (33, (.invokestatic 124, 3)), (36, (.ireturn, 1)), (37, (.iload_n 1, 1)), (38, (.invokestatic 127, 3)), (41, (.ireturn, 1)), (42, (.iload_n 1, 1)), (43, (.invokestatic 130, 3)), (46, (.ireturn, 1)), (47, (.iload_n 1, 1)), (48, (.ifCond .lt 14, 3)), (51, (.iload_n 1, 1)), (52, (.ldc_w 357, 3)), (55, (.if_icmp .ge 7, 3)), (58, (.iconst 1, 1)), (59, (.goto 4, 3)), (62, (.iconst 0, 1)), (63, (.ireturn, 1)), (64, (.iconst 0, 1)), (65, (.ireturn, 1))] : List (Nat × (Instr × Nat))), decode cX11_isTurn r.1 = .ok r.2 := by decide +kernel
theorem dX11_isTurn_0 : decode cX11_isTurn 0 = .ok (.iload_n 0, 1) := dgX11_isTurn_0 (0, (.iload_n 0, 1)) (List.mem_of_getElem? (i := 0) rfl)
theorem dX11_isTurn_1 : decode cX11_isTurn 1 = .ok (.iconst 1, 1) := dgX11_isTurn_0 (1, (.iconst 1, 1)) (List.mem_of_getElem? (i := 1) rfl)
theorem dX11_isTurn_2 : decode cX11_isTurn 2 = .ok (.iadd, 1) := dgX11_isTurn_0 (2, (.iadd, 1)) (List.mem_of_getElem? (i := 2) rfl)
theorem dX11_isTurn_3 : decode cX11_isTurn 3 = .ok (.tableswitch 61 1 4 #[29, 34, 39, 44], 29) := dgX11_isTurn_0 (3, (.tableswitch 61 1 4 #[29, 34, 39, 44], 29)) (List.mem_of_getElem? (i := 3) rfl)
theorem dX11_isTurn_32 : decode cX11_isTurn 32 = .ok (.iload_n 1, 1) := dgX11_isTurn_0 (32, (.iload_n 1, 1)) (List.mem_of_getElem? (i := 4) rfl)
theorem dX11_isTurn_33 : decode cX11_isTurn 33 = .ok (.invokestatic 124, 3) := dgX11_isTurn_0 (33, (.invokestatic 124, 3)) (List.mem_of_getElem? (i := 5) rfl)
theorem dX11_isTurn_36 : decode cX11_isTurn 36 = .ok (.ireturn, 1) := dgX11_isTurn_0 (36, (.ireturn, 1)) (List.mem_of_getElem? (i := 6) rfl)
theorem dX11_isTurn_37 : decode cX11_isTurn 37 = .ok (.iload_n 1, 1) := dgX11_isTurn_0 (37, (.iload_n 1, 1)) (List.mem_of_getElem? (i := 7) rfl)
theorem dX11_isTurn_38 : decode cX11_isTurn 38 = .ok (.invokestatic 127, 3) := dgX11_isTurn_0 (38, (.invokestatic 127, 3)) (List.mem_of_getElem? (i := 8) rfl)
theorem dX11_isTurn_41 : decode cX11_isTurn 41 = .ok (.ireturn, 1) := dgX11_isTurn_0 (41, (.ireturn, 1)) (List.mem_of_getElem? (i := 9) rfl)
theorem dX11_isTurn_42 : decode cX11_isTurn 42 = .ok (.iload_n 1, 1) := dgX11_isTurn_0 (42, (.iload_n 1, 1)) (List.mem_of_getElem? (i := 10) rfl)
theorem dX11_isTurn_43 : decode cX11_isTurn 43 = .ok (.invokestatic 130, 3) := dgX11_isTurn_0 (43, (.invokestatic 130, 3)) (List.mem_of_getElem? (i := 11) rfl)
theorem dX11_isTurn_46 : decode cX11_isTurn 46 = .ok (.ireturn, 1) := dgX11_isTurn_0 (46, (.ireturn, 1)) (List.mem_of_getElem? (i := 12) rfl)
theorem dX11_isTurn_47 : decode cX11_isTurn 47 = .ok (.iload_n 1, 1) := dgX11_isTurn_0 (47, (.iload_n 1, 1)) (List.mem_of_getElem? (i := 13) rfl)
theorem dX11_isTurn_48 : decode cX11_isTurn 48 = .ok (.ifCond .lt 14, 3) := dgX11_isTurn_0 (48, (.ifCond .lt 14, 3)) (List.mem_of_getElem? (i := 14) rfl)
theorem dX11_isTurn_51 : decode cX11_isTurn 51 = .ok (.iload_n 1, 1) := dgX11_isTurn_0 (51, (.iload_n 1, 1)) (List.mem_of_getElem? (i := 15) rfl)
theorem dX11_isTurn_52 : decode cX11_isTurn 52 = .ok (.ldc_w 357, 3) := dgX11_isTurn_0 (52, (.ldc_w 357, 3)) (List.mem_of_getElem? (i := 16) rfl)
theorem dX11_isTurn_55 : decode cX11_isTurn 55 = .ok (.if_icmp .ge 7, 3) := dgX11_isTurn_0 (55, (.if_icmp .ge 7, 3)) (List.mem_of_getElem? (i := 17) rfl)
theorem dX11_isTurn_58 : decode cX11_isTurn 58 = .ok (.iconst 1, 1) := dgX11_isTurn_0 (58, (.iconst 1, 1)) (List.mem_of_getElem? (i := 18) rfl)
theorem dX11_isTurn_59 : decode cX11_isTurn 59 = .ok (.goto 4, 3) := dgX11_isTurn_0 (59, (.goto 4, 3)) (List.mem_of_getElem? (i := 19) rfl)
theorem dX11_isTurn_62 : decode cX11_isTurn 62 = .ok (.iconst 0, 1) := dgX11_isTurn_0 (62, (.iconst 0, 1)) (List.mem_of_getElem? (i := 20) rfl)
theorem dX11_isTurn_63 : decode cX11_isTurn 63 = .ok (.ireturn, 1) := dgX11_isTurn_0 (63, (.ireturn, 1)) (List.mem_of_getElem? (i := 21) rfl)
theorem dX11_isTurn_64 : decode cX11_isTurn 64 = .ok (.iconst 0, 1) := dgX11_isTurn_0 (64, (.iconst 0, 1)) (List.mem_of_getElem? (i := 22) rfl)
theorem dX11_isTurn_65 : decode cX11_isTurn 65 = .ok (.ireturn, 1) := dgX11_isTurn_0 (65, (.ireturn, 1)) (List.mem_of_getElem? (i := 23) rfl)
theorem ml_X11_124 : Cond.methodLink RX11 124 yX11_isSort ∈ tblG := tg 535 (by decide +kernel) (by decide +kernel)
theorem st_X11_isSort : Cond.static yX11_isSort ∈ tblG := tg 536 (by decide +kernel) (by decide +kernel)
theorem cd_X11_isSort : Cond.code yX11_isSort cX11_isSort 1 (some .boolean) ∈ tblG := tg 537 (by decide +kernel) (by decide +kernel)
theorem gW_X11_isSort : GoodIn tblG (wsG yX11_isSort cX11_isSort 1 (some .boolean)) := tgi cd_X11_isSort
theorem gS_X11_124 : GoodIn tblG (va_wsS RX11 124 yX11_isSort (wsG yX11_isSort cX11_isSort 1 (some .boolean))) := tgS ml_X11_124 st_X11_isSort ini_X11 gW_X11_isSort
theorem hs_X11_isSort : yX11_isSort.cls ≠ "java/lang/invoke/MethodHandle" ∧ yX11_isSort.cls ≠ "java/lang/invoke/VarHandle" ∧ (parseMethodDescriptor yX11_isSort.desc).map (fun d => d.parameters.length) = some 1 := by decide +kernel
theorem ml_X11_130 : Cond.methodLink RX11 130 yX11_isDust ∈ tblG := tg 541 (by decide +kernel) (by decide +kernel)
theorem st_X11_isDust : Cond.static yX11_isDust ∈ tblG := tg 542 (by decide +kernel) (by decide +kernel)
theorem cd_X11_isDust : Cond.code yX11_isDust cX11_isDust 1 (some .boolean) ∈ tblG := tg 543 (by decide +kernel) (by decide +kernel)
theorem gW_X11_isDust : GoodIn tblG (wsG yX11_isDust cX11_isDust 1 (some .boolean)) := tgi cd_X11_isDust
theorem gS_X11_130 : GoodIn tblG (va_wsS RX11 130 yX11_isDust (wsG yX11_isDust cX11_isDust 1 (some .boolean))) := tgS ml_X11_130 st_X11_isDust ini_X11 gW_X11_isDust
theorem hs_X11_isDust : yX11_isDust.cls ≠ "java/lang/invoke/MethodHandle" ∧ yX11_isDust.cls ≠ "java/lang/invoke/VarHandle" ∧ (parseMethodDescriptor yX11_isDust.desc).map (fun d => d.parameters.length) = some 1 := by decide +kernel
theorem ki_X11_357 : Cond.constant RX11 357 16777216 ∈ tblG := tg 573 (by decide +kernel) (by decide +kernel)
theorem dgX11_refuse_0 : ∀ r ∈ ([(0, (.aload_n 0, 1)), (1, (.iload_n 1, 1)), (2, (.putfield 94, 3)), (5, (.iload_n 1, 1)), (6, (.bipush (-3), 2)), (8, (.if_icmp .lt 10, 3)), (11, (.iload_n 1, 1)), (12, (.ineg, 1)), (13, (.iconst 1, 1)), (14, (.isub, 1)), (15, (.goto 7, 3)), (18, (.iload_n 1, 1)), (19, (.ineg, 1)), (20, (.iconst 2, 1)), (21, (.isub, 1)), (22, (.istore_n 2, 1)), (23, (.iload_n 2, 1)), (24, (.ifCond .lt 22, 3)), (27, (.iload_n 2, 1)), (28, (.aload_n 0, 1)), (29, (.getfield 91, 3)), (32, (.arraylength, 1)), (33, (.if_icmp .ge 13, 3)), (36, (.aload_n 0, 1)), (37, (.getfield 91, 3)), (40, (.iload_n 2, 1)), (41, (.dup2, 1)), (42, (.iaload, 1)), (43, (.iconst 1, 1)), (44, (.iadd, 1)), (45, (.iastore, 1)), (46, (.iload_n 1, 1)), (47, (.ireturn, 1))] : List (Nat × (Instr × Nat))), decode cX11_refuse r.1 = .ok r.2 := by decide +kernel
theorem dX11_refuse_0 : decode cX11_refuse 0 = .ok (.aload_n 0, 1) := dgX11_refuse_0 (0, (.aload_n 0, 1)) (List.mem_of_getElem? (i := 0) rfl)
theorem dX11_refuse_1 : decode cX11_refuse 1 = .ok (.iload_n 1, 1) := dgX11_refuse_0 (1, (.iload_n 1, 1)) (List.mem_of_getElem? (i := 1) rfl)
theorem dX11_refuse_2 : decode cX11_refuse 2 = .ok (.putfield 94, 3) := dgX11_refuse_0 (2, (.putfield 94, 3)) (List.mem_of_getElem? (i := 2) rfl)
theorem dX11_refuse_5 : decode cX11_refuse 5 = .ok (.iload_n 1, 1) := dgX11_refuse_0 (5, (.iload_n 1, 1)) (List.mem_of_getElem? (i := 3) rfl)
theorem dX11_refuse_6 : decode cX11_refuse 6 = .ok (.bipush (-3), 2) := dgX11_refuse_0 (6, (.bipush (-3), 2)) (List.mem_of_getElem? (i := 4) rfl)
theorem dX11_refuse_8 : decode cX11_refuse 8 = .ok (.if_icmp .lt 10, 3) := dgX11_refuse_0 (8, (.if_icmp .lt 10, 3)) (List.mem_of_getElem? (i := 5) rfl)
theorem dX11_refuse_11 : decode cX11_refuse 11 = .ok (.iload_n 1, 1) := dgX11_refuse_0 (11, (.iload_n 1, 1)) (List.mem_of_getElem? (i := 6) rfl)
theorem dX11_refuse_12 : decode cX11_refuse 12 = .ok (.ineg, 1) := dgX11_refuse_0 (12, (.ineg, 1)) (List.mem_of_getElem? (i := 7) rfl)
theorem dX11_refuse_13 : decode cX11_refuse 13 = .ok (.iconst 1, 1) := dgX11_refuse_0 (13, (.iconst 1, 1)) (List.mem_of_getElem? (i := 8) rfl)
theorem dX11_refuse_14 : decode cX11_refuse 14 = .ok (.isub, 1) := dgX11_refuse_0 (14, (.isub, 1)) (List.mem_of_getElem? (i := 9) rfl)
theorem dX11_refuse_15 : decode cX11_refuse 15 = .ok (.goto 7, 3) := dgX11_refuse_0 (15, (.goto 7, 3)) (List.mem_of_getElem? (i := 10) rfl)
theorem dX11_refuse_18 : decode cX11_refuse 18 = .ok (.iload_n 1, 1) := dgX11_refuse_0 (18, (.iload_n 1, 1)) (List.mem_of_getElem? (i := 11) rfl)
theorem dX11_refuse_19 : decode cX11_refuse 19 = .ok (.ineg, 1) := dgX11_refuse_0 (19, (.ineg, 1)) (List.mem_of_getElem? (i := 12) rfl)
theorem dX11_refuse_20 : decode cX11_refuse 20 = .ok (.iconst 2, 1) := dgX11_refuse_0 (20, (.iconst 2, 1)) (List.mem_of_getElem? (i := 13) rfl)
theorem dX11_refuse_21 : decode cX11_refuse 21 = .ok (.isub, 1) := dgX11_refuse_0 (21, (.isub, 1)) (List.mem_of_getElem? (i := 14) rfl)
theorem dX11_refuse_22 : decode cX11_refuse 22 = .ok (.istore_n 2, 1) := dgX11_refuse_0 (22, (.istore_n 2, 1)) (List.mem_of_getElem? (i := 15) rfl)
theorem dX11_refuse_23 : decode cX11_refuse 23 = .ok (.iload_n 2, 1) := dgX11_refuse_0 (23, (.iload_n 2, 1)) (List.mem_of_getElem? (i := 16) rfl)
theorem dX11_refuse_24 : decode cX11_refuse 24 = .ok (.ifCond .lt 22, 3) := dgX11_refuse_0 (24, (.ifCond .lt 22, 3)) (List.mem_of_getElem? (i := 17) rfl)
theorem dX11_refuse_27 : decode cX11_refuse 27 = .ok (.iload_n 2, 1) := dgX11_refuse_0 (27, (.iload_n 2, 1)) (List.mem_of_getElem? (i := 18) rfl)
theorem dX11_refuse_28 : decode cX11_refuse 28 = .ok (.aload_n 0, 1) := dgX11_refuse_0 (28, (.aload_n 0, 1)) (List.mem_of_getElem? (i := 19) rfl)
theorem dX11_refuse_29 : decode cX11_refuse 29 = .ok (.getfield 91, 3) := dgX11_refuse_0 (29, (.getfield 91, 3)) (List.mem_of_getElem? (i := 20) rfl)
theorem dX11_refuse_32 : decode cX11_refuse 32 = .ok (.arraylength, 1) := dgX11_refuse_0 (32, (.arraylength, 1)) (List.mem_of_getElem? (i := 21) rfl)
theorem dX11_refuse_33 : decode cX11_refuse 33 = .ok (.if_icmp .ge 13, 3) := dgX11_refuse_0 (33, (.if_icmp .ge 13, 3)) (List.mem_of_getElem? (i := 22) rfl)
theorem dX11_refuse_36 : decode cX11_refuse 36 = .ok (.aload_n 0, 1) := dgX11_refuse_0 (36, (.aload_n 0, 1)) (List.mem_of_getElem? (i := 23) rfl)
theorem dX11_refuse_37 : decode cX11_refuse 37 = .ok (.getfield 91, 3) := dgX11_refuse_0 (37, (.getfield 91, 3)) (List.mem_of_getElem? (i := 24) rfl)
theorem dX11_refuse_40 : decode cX11_refuse 40 = .ok (.iload_n 2, 1) := dgX11_refuse_0 (40, (.iload_n 2, 1)) (List.mem_of_getElem? (i := 25) rfl)
theorem dX11_refuse_41 : decode cX11_refuse 41 = .ok (.dup2, 1) := dgX11_refuse_0 (41, (.dup2, 1)) (List.mem_of_getElem? (i := 26) rfl)
theorem dX11_refuse_42 : decode cX11_refuse 42 = .ok (.iaload, 1) := dgX11_refuse_0 (42, (.iaload, 1)) (List.mem_of_getElem? (i := 27) rfl)
theorem dX11_refuse_43 : decode cX11_refuse 43 = .ok (.iconst 1, 1) := dgX11_refuse_0 (43, (.iconst 1, 1)) (List.mem_of_getElem? (i := 28) rfl)
theorem dX11_refuse_44 : decode cX11_refuse 44 = .ok (.iadd, 1) := dgX11_refuse_0 (44, (.iadd, 1)) (List.mem_of_getElem? (i := 29) rfl)
theorem dX11_refuse_45 : decode cX11_refuse 45 = .ok (.iastore, 1) := dgX11_refuse_0 (45, (.iastore, 1)) (List.mem_of_getElem? (i := 30) rfl)
theorem dX11_refuse_46 : decode cX11_refuse 46 = .ok (.iload_n 1, 1) := dgX11_refuse_0 (46, (.iload_n 1, 1)) (List.mem_of_getElem? (i := 31) rfl)
theorem dX11_refuse_47 : decode cX11_refuse 47 = .ok (.ireturn, 1) := dgX11_refuse_0 (47, (.ireturn, 1)) (List.mem_of_getElem? (i := 32) rfl)
theorem inG_X11 : ∀ w ∈ wsX110, w ∈ tblG := tgs [461, 463, 465, 467, 469, 471, 473, 475, 477, 479, 481, 483, 485, 487, 489, 491, 493] (by decide +kernel) (by decide +kernel)
theorem fl_X11_94 : Cond.fieldLink RX11 94 "LateGlass" "latestRefusal" "I" ∈ tblG := tg 460 (by decide +kernel) (by decide +kernel)
theorem fl_X11_91 : Cond.fieldLink RX11 91 "LateGlass" "refusals" "[I" ∈ tblG := tg 459 (by decide +kernel) (by decide +kernel)
set_option maxHeartbeats 4000000 in
set_option maxRecDepth 100000 in
theorem x_refuse1 (l : Launch) (G : g5_G) (a_o a_rf a_h a_im a_ke a_k a_wa a_th a_ha a_wk a_r a_x a_wd : Nat) (sz : Nat) (e_tl : Int32) (e_fd : Int32) (e_fpl : Int32) (e_wn : Int32) (e_lr : Int32) (f_rf : Nat → Int32) (h_e_tl : 0 ≤ e_tl.toInt ∧ e_tl.toInt ≤ 400) (h_e_wn : 0 ≤ e_wn.toInt ∧ e_wn.toInt ≤ 1) : Met l yX11_refuse (wsG yX11_refuse cX11_refuse 3 (some .int)) ({ frames := 0, cells := 0, slots := 0, locals := 0 }) (va_Pc [.ref a_o, .int (-1)] (g5_P G [(a_o, (oc11 a_h a_im a_ke a_k a_wa a_th a_ha a_wk a_r a_x e_tl e_fd e_fpl a_wd e_wn a_rf e_lr)), (a_rf, (arI G 5 f_rf))] sz)) (va_Qi (fun (r : Int32) (u : va_W) => (∃ (o_rf : Nat → Int32), (r = (-1)) ∧ (u = [(a_o, (oc11 a_h a_im a_ke a_k a_wa a_th a_ha a_wk a_r a_x e_tl e_fd e_fpl a_wd e_wn a_rf (-1))), (a_rf, (arI G 5 o_rf))]))) (g5_B G (va_A [(a_o, (oc11 a_h a_im a_ke a_k a_wa a_th a_ha a_wk a_r a_x e_tl e_fd e_fpl a_wd e_wn a_rf e_lr)), (a_rf, (arI G 5 f_rf))] sz)) (va_A [(a_o, (oc11 a_h a_im a_ke a_k a_wa a_th a_ha a_wk a_r a_x e_tl e_fd e_fpl a_wd e_wn a_rf e_lr)), (a_rf, (arI G 5 f_rf))] sz)) 0 0 (va_A [(a_o, (oc11 a_h a_im a_ke a_k a_wa a_th a_ha a_wk a_r a_x e_tl e_fd e_fpl a_wd e_wn a_rf e_lr)), (a_rf, (arI G 5 f_rf))] sz) := by
  refine Met.ofW (cc := cX11_refuse) (maxL := 3) (ret := (some .int)) (by decide) rfl ?_
  intro p e s m args below meth c s₁ B hml hv
  obtain ⟨rfl, hsz, hP, hK, hD0, hN, hT⟩ := hv
  have hx := B.exec
  have hb := B.bytes
  have hr := B.returns
  have hts : ∀ w ∈ tblG, w.before _ s = true := fun w h => atoms_spec (ws := (wsG yX11_refuse cX11_refuse 3 (some .int))) B.pre w (List.mem_cons_of_mem _ h)
  have hown : s.vm.findClass RX11 = some m.cls := findClass_of_methodNamed B.named
  have hlocks := B.notSynchronized
  subst hsz
  have hD := hD0.self (sz := s.heap.size)
  generalize hAe : va_A [(a_o, (oc11 a_h a_im a_ke a_k a_wa a_th a_ha a_wk a_r a_x e_tl e_fd e_fpl a_wd e_wn a_rf e_lr)), (a_rf, (arI G 5 f_rf))] s.heap.size = A at hD hT ⊢
  have hA : ∀ q : Nat, s.heap.size ≤ q → A q := fun q h => by rw [← hAe]; exact Or.inr h
  have hS : va_S A s.heap s.heap [] := va_S.rf
  have hP : va_P G.1 vwCl [(a_o, (oc11 a_h a_im a_ke a_k a_wa a_th a_ha a_wk a_r a_x e_tl e_fd e_fpl a_wd e_wn a_rf e_lr)), (a_rf, (arI G 5 f_rf))] s.heap := hP
  have hl := lv_entry ([.ref a_o, .int (-1)]) (n := 3) (Nat.le_of_ble_eq_true rfl)
  rw [lg_entry_eq]
  generalize (lg_sl ([.ref a_o, .int (-1)]) ++ List.replicate (3 - (lg_sl ([.ref a_o, .int (-1)])).length) Slot.unset).toArray = ls at hl ⊢
  have hl : lv_has ls 3 [(0, .ref a_o), (1, .int (-1))] := hl
  refine lv_aload_n hx hb dX11_refuse_0 rfl (lv_at hl 0 rfl) ?_
  refine lv_iload_n hx hb dX11_refuse_1 rfl (lv_at hl 1 rfl) ?_
  refine va_put (D := G.1) (ci := 11) (v := .int (-1)) (ty := .int) (C := RX11) (T := TX11) (N := 17) hx hb hts inG_X11 tyX11 tyX11_ok nmX11 hown hK hP hD hS 0 rfl rfl 16 (by decide) (hts _ fl_X11_94) (fun _ h9 => h9) rfl (by decide +kernel) rfl rfl (Nat.le_of_ble_eq_true rfl) dX11_refuse_2 (fun H locs hP hD hS => ?_)
  refine g5_rs [(a_o, (oc11 a_h a_im a_ke a_k a_wa a_th a_ha a_wk a_r a_x e_tl e_fd e_fpl a_wd e_wn a_rf (-1))), (a_rf, (arI G 5 f_rf))] hP hD (fun hP hD => ?_)
  refine lv_iload_n hx hb dX11_refuse_5 rfl (lv_at hl 1 rfl) ?_
  refine lv_bipush (v := (-3)) hx hb dX11_refuse_6 (by decide) ?_
  refine lv_icmp_lt (tgt := 18) hx hb dX11_refuse_8 (by decide) (fun c_1 => ?_) (fun c_1 => ?_)
  ·
    exact absurd c_1 (by decide)
  ·
    refine lv_iload_n hx hb dX11_refuse_11 rfl (lv_at hl 1 rfl) ?_
    refine lv_ineg hx hb dX11_refuse_12 ?_
    refine g5_ti (v := 1) (by decide) ?_
    refine lv_iconst (v := 1) hx hb dX11_refuse_13 (by decide) ?_
    refine lv_isub hx hb dX11_refuse_14 ?_
    refine g5_ti (v := 0) (by decide) ?_
    refine lv_goto (tgt := 22) hx hb dX11_refuse_15 (by decide) ?_
    refine lv_istore_n (lv' := [(2, .int 0), (0, .ref a_o), (1, .int (-1))]) hx hb dX11_refuse_22 rfl hl (by decide) rfl (fun ls hl => ?_)
    refine lv_iload_n hx hb dX11_refuse_23 rfl (lv_at hl 0 rfl) ?_
    refine lv_if_lt (tgt := 46) hx hb dX11_refuse_24 (by decide) (fun c_2 => ?_) (fun c_2 => ?_)
    ·
      exact absurd c_2 (by decide)
    ·
      refine lv_iload_n hx hb dX11_refuse_27 rfl (lv_at hl 0 rfl) ?_
      refine lv_aload_n hx hb dX11_refuse_28 rfl (lv_at hl 1 rfl) ?_
      refine va_get (D := G.1) (ci := 11) (v := .ref a_rf) (C := RX11) (T := TX11) (N := 17) hx hb hts inG_X11 hown hK hP 0 rfl rfl 15 (by decide) (hts _ fl_X11_91) (fun _ h9 => h9) rfl dX11_refuse_29 ?_
      refine va_alen hx hb hK hP 1 0 rfl rfl (v := 5) (by show Int32.ofNat 5 = 5; decide) dX11_refuse_32 ?_
      refine lv_icmp_ge (tgt := 46) hx hb dX11_refuse_33 (by decide) (fun c_3 => ?_) (fun c_3 => ?_)
      ·
        exact absurd c_3 (by decide)
      ·
        refine lv_aload_n hx hb dX11_refuse_36 rfl (lv_at hl 1 rfl) ?_
        refine va_get (D := G.1) (ci := 11) (v := .ref a_rf) (C := RX11) (T := TX11) (N := 17) hx hb hts inG_X11 hown hK hP 0 rfl rfl 15 (by decide) (hts _ fl_X11_91) (fun _ h9 => h9) rfl dX11_refuse_37 ?_
        refine lv_iload_n hx hb dX11_refuse_40 rfl (lv_at hl 0 rfl) ?_
        refine lv_dup2_11 hx hb dX11_refuse_41 rfl rfl ?_
        refine va_iald hx hb hK hP 1 0 rfl rfl (i := 0) (by unfold vp_in; decide) dX11_refuse_42 ?_
        refine g5_ti (v := (f_rf 0)) rfl ?_
        refine lv_iconst (v := 1) hx hb dX11_refuse_43 (by decide) ?_
        refine lv_iadd hx hb dX11_refuse_44 ?_
        refine va_iast hx hb hK hP hD hS 1 0 rfl rfl (i := 0) (x := ((f_rf 0) + 1)) (by unfold vp_in; decide) dX11_refuse_45 (fun H locs hP hD hS => ?_)
        refine g5_rs [(a_o, (oc11 a_h a_im a_ke a_k a_wa a_th a_ha a_wk a_r a_x e_tl e_fd e_fpl a_wd e_wn a_rf (-1))), (a_rf, (arI G 5 (upd f_rf 0 ((f_rf 0) + 1))))] hP hD (fun hP hD => ?_)
        refine lv_iload_n hx hb dX11_refuse_46 rfl (lv_at hl 2 rfl) ?_
        exact W.iret (v := (-1)) hx hb hr (fun t ht hW => ⟨⟨(-1), [(a_o, (oc11 a_h a_im a_ke a_k a_wa a_th a_ha a_wk a_r a_x e_tl e_fd e_fpl a_wd e_wn a_rf (-1))), (a_rf, (arI G 5 (upd f_rf 0 ((f_rf 0) + 1))))], rfl, ⟨(upd f_rf 0 ((f_rf 0) + 1)), rfl, rfl⟩, by rw [ht]; exact hP.sub [0, 1] rfl, hD.sub [0, 1] (by decide) rfl⟩, hS.F ht⟩) hS.2.2 dX11_refuse_47
set_option maxHeartbeats 4000000 in
set_option maxRecDepth 100000 in
theorem x_refuse2 (l : Launch) (G : g5_G) (a_o a_rf a_h a_im a_ke a_k a_wa a_th a_ha a_wk a_r a_x a_wd : Nat) (sz : Nat) (e_tl : Int32) (e_fd : Int32) (e_fpl : Int32) (e_wn : Int32) (e_lr : Int32) (f_rf : Nat → Int32) (h_e_tl : 0 ≤ e_tl.toInt ∧ e_tl.toInt ≤ 400) (h_e_wn : 0 ≤ e_wn.toInt ∧ e_wn.toInt ≤ 1) : Met l yX11_refuse (wsG yX11_refuse cX11_refuse 3 (some .int)) ({ frames := 0, cells := 0, slots := 0, locals := 0 }) (va_Pc [.ref a_o, .int (-2)] (g5_P G [(a_o, (oc11 a_h a_im a_ke a_k a_wa a_th a_ha a_wk a_r a_x e_tl e_fd e_fpl a_wd e_wn a_rf e_lr)), (a_rf, (arI G 5 f_rf))] sz)) (va_Qi (fun (r : Int32) (u : va_W) => (∃ (o_rf : Nat → Int32), (r = (-2)) ∧ (u = [(a_o, (oc11 a_h a_im a_ke a_k a_wa a_th a_ha a_wk a_r a_x e_tl e_fd e_fpl a_wd e_wn a_rf (-2))), (a_rf, (arI G 5 o_rf))]))) (g5_B G (va_A [(a_o, (oc11 a_h a_im a_ke a_k a_wa a_th a_ha a_wk a_r a_x e_tl e_fd e_fpl a_wd e_wn a_rf e_lr)), (a_rf, (arI G 5 f_rf))] sz)) (va_A [(a_o, (oc11 a_h a_im a_ke a_k a_wa a_th a_ha a_wk a_r a_x e_tl e_fd e_fpl a_wd e_wn a_rf e_lr)), (a_rf, (arI G 5 f_rf))] sz)) 0 0 (va_A [(a_o, (oc11 a_h a_im a_ke a_k a_wa a_th a_ha a_wk a_r a_x e_tl e_fd e_fpl a_wd e_wn a_rf e_lr)), (a_rf, (arI G 5 f_rf))] sz) := by
  refine Met.ofW (cc := cX11_refuse) (maxL := 3) (ret := (some .int)) (by decide) rfl ?_
  intro p e s m args below meth c s₁ B hml hv
  obtain ⟨rfl, hsz, hP, hK, hD0, hN, hT⟩ := hv
  have hx := B.exec
  have hb := B.bytes
  have hr := B.returns
  have hts : ∀ w ∈ tblG, w.before _ s = true := fun w h => atoms_spec (ws := (wsG yX11_refuse cX11_refuse 3 (some .int))) B.pre w (List.mem_cons_of_mem _ h)
  have hown : s.vm.findClass RX11 = some m.cls := findClass_of_methodNamed B.named
  have hlocks := B.notSynchronized
  subst hsz
  have hD := hD0.self (sz := s.heap.size)
  generalize hAe : va_A [(a_o, (oc11 a_h a_im a_ke a_k a_wa a_th a_ha a_wk a_r a_x e_tl e_fd e_fpl a_wd e_wn a_rf e_lr)), (a_rf, (arI G 5 f_rf))] s.heap.size = A at hD hT ⊢
  have hA : ∀ q : Nat, s.heap.size ≤ q → A q := fun q h => by rw [← hAe]; exact Or.inr h
  have hS : va_S A s.heap s.heap [] := va_S.rf
  have hP : va_P G.1 vwCl [(a_o, (oc11 a_h a_im a_ke a_k a_wa a_th a_ha a_wk a_r a_x e_tl e_fd e_fpl a_wd e_wn a_rf e_lr)), (a_rf, (arI G 5 f_rf))] s.heap := hP
  have hl := lv_entry ([.ref a_o, .int (-2)]) (n := 3) (Nat.le_of_ble_eq_true rfl)
  rw [lg_entry_eq]
  generalize (lg_sl ([.ref a_o, .int (-2)]) ++ List.replicate (3 - (lg_sl ([.ref a_o, .int (-2)])).length) Slot.unset).toArray = ls at hl ⊢
  have hl : lv_has ls 3 [(0, .ref a_o), (1, .int (-2))] := hl
  refine lv_aload_n hx hb dX11_refuse_0 rfl (lv_at hl 0 rfl) ?_
  refine lv_iload_n hx hb dX11_refuse_1 rfl (lv_at hl 1 rfl) ?_
  refine va_put (D := G.1) (ci := 11) (v := .int (-2)) (ty := .int) (C := RX11) (T := TX11) (N := 17) hx hb hts inG_X11 tyX11 tyX11_ok nmX11 hown hK hP hD hS 0 rfl rfl 16 (by decide) (hts _ fl_X11_94) (fun _ h9 => h9) rfl (by decide +kernel) rfl rfl (Nat.le_of_ble_eq_true rfl) dX11_refuse_2 (fun H locs hP hD hS => ?_)
  refine g5_rs [(a_o, (oc11 a_h a_im a_ke a_k a_wa a_th a_ha a_wk a_r a_x e_tl e_fd e_fpl a_wd e_wn a_rf (-2))), (a_rf, (arI G 5 f_rf))] hP hD (fun hP hD => ?_)
  refine lv_iload_n hx hb dX11_refuse_5 rfl (lv_at hl 1 rfl) ?_
  refine lv_bipush (v := (-3)) hx hb dX11_refuse_6 (by decide) ?_
  refine lv_icmp_lt (tgt := 18) hx hb dX11_refuse_8 (by decide) (fun c_1 => ?_) (fun c_1 => ?_)
  ·
    exact absurd c_1 (by decide)
  ·
    refine lv_iload_n hx hb dX11_refuse_11 rfl (lv_at hl 1 rfl) ?_
    refine lv_ineg hx hb dX11_refuse_12 ?_
    refine g5_ti (v := 2) (by decide) ?_
    refine lv_iconst (v := 1) hx hb dX11_refuse_13 (by decide) ?_
    refine lv_isub hx hb dX11_refuse_14 ?_
    refine g5_ti (v := 1) (by decide) ?_
    refine lv_goto (tgt := 22) hx hb dX11_refuse_15 (by decide) ?_
    refine lv_istore_n (lv' := [(2, .int 1), (0, .ref a_o), (1, .int (-2))]) hx hb dX11_refuse_22 rfl hl (by decide) rfl (fun ls hl => ?_)
    refine lv_iload_n hx hb dX11_refuse_23 rfl (lv_at hl 0 rfl) ?_
    refine lv_if_lt (tgt := 46) hx hb dX11_refuse_24 (by decide) (fun c_2 => ?_) (fun c_2 => ?_)
    ·
      exact absurd c_2 (by decide)
    ·
      refine lv_iload_n hx hb dX11_refuse_27 rfl (lv_at hl 0 rfl) ?_
      refine lv_aload_n hx hb dX11_refuse_28 rfl (lv_at hl 1 rfl) ?_
      refine va_get (D := G.1) (ci := 11) (v := .ref a_rf) (C := RX11) (T := TX11) (N := 17) hx hb hts inG_X11 hown hK hP 0 rfl rfl 15 (by decide) (hts _ fl_X11_91) (fun _ h9 => h9) rfl dX11_refuse_29 ?_
      refine va_alen hx hb hK hP 1 0 rfl rfl (v := 5) (by show Int32.ofNat 5 = 5; decide) dX11_refuse_32 ?_
      refine lv_icmp_ge (tgt := 46) hx hb dX11_refuse_33 (by decide) (fun c_3 => ?_) (fun c_3 => ?_)
      ·
        exact absurd c_3 (by decide)
      ·
        refine lv_aload_n hx hb dX11_refuse_36 rfl (lv_at hl 1 rfl) ?_
        refine va_get (D := G.1) (ci := 11) (v := .ref a_rf) (C := RX11) (T := TX11) (N := 17) hx hb hts inG_X11 hown hK hP 0 rfl rfl 15 (by decide) (hts _ fl_X11_91) (fun _ h9 => h9) rfl dX11_refuse_37 ?_
        refine lv_iload_n hx hb dX11_refuse_40 rfl (lv_at hl 0 rfl) ?_
        refine lv_dup2_11 hx hb dX11_refuse_41 rfl rfl ?_
        refine va_iald hx hb hK hP 1 0 rfl rfl (i := 1) (by unfold vp_in; decide) dX11_refuse_42 ?_
        refine g5_ti (v := (f_rf 1)) rfl ?_
        refine lv_iconst (v := 1) hx hb dX11_refuse_43 (by decide) ?_
        refine lv_iadd hx hb dX11_refuse_44 ?_
        refine va_iast hx hb hK hP hD hS 1 0 rfl rfl (i := 1) (x := ((f_rf 1) + 1)) (by unfold vp_in; decide) dX11_refuse_45 (fun H locs hP hD hS => ?_)
        refine g5_rs [(a_o, (oc11 a_h a_im a_ke a_k a_wa a_th a_ha a_wk a_r a_x e_tl e_fd e_fpl a_wd e_wn a_rf (-2))), (a_rf, (arI G 5 (upd f_rf 1 ((f_rf 1) + 1))))] hP hD (fun hP hD => ?_)
        refine lv_iload_n hx hb dX11_refuse_46 rfl (lv_at hl 2 rfl) ?_
        exact W.iret (v := (-2)) hx hb hr (fun t ht hW => ⟨⟨(-2), [(a_o, (oc11 a_h a_im a_ke a_k a_wa a_th a_ha a_wk a_r a_x e_tl e_fd e_fpl a_wd e_wn a_rf (-2))), (a_rf, (arI G 5 (upd f_rf 1 ((f_rf 1) + 1))))], rfl, ⟨(upd f_rf 1 ((f_rf 1) + 1)), rfl, rfl⟩, by rw [ht]; exact hP.sub [0, 1] rfl, hD.sub [0, 1] (by decide) rfl⟩, hS.F ht⟩) hS.2.2 dX11_refuse_47
set_option maxHeartbeats 4000000 in
set_option maxRecDepth 100000 in
theorem x_refuse3 (l : Launch) (G : g5_G) (a_o a_rf a_h a_im a_ke a_k a_wa a_th a_ha a_wk a_r a_x a_wd : Nat) (sz : Nat) (e_tl : Int32) (e_fd : Int32) (e_fpl : Int32) (e_wn : Int32) (e_lr : Int32) (f_rf : Nat → Int32) (h_e_tl : 0 ≤ e_tl.toInt ∧ e_tl.toInt ≤ 400) (h_e_wn : 0 ≤ e_wn.toInt ∧ e_wn.toInt ≤ 1) : Met l yX11_refuse (wsG yX11_refuse cX11_refuse 3 (some .int)) ({ frames := 0, cells := 0, slots := 0, locals := 0 }) (va_Pc [.ref a_o, .int (-3)] (g5_P G [(a_o, (oc11 a_h a_im a_ke a_k a_wa a_th a_ha a_wk a_r a_x e_tl e_fd e_fpl a_wd e_wn a_rf e_lr)), (a_rf, (arI G 5 f_rf))] sz)) (va_Qi (fun (r : Int32) (u : va_W) => (∃ (o_rf : Nat → Int32), (r = (-3)) ∧ (u = [(a_o, (oc11 a_h a_im a_ke a_k a_wa a_th a_ha a_wk a_r a_x e_tl e_fd e_fpl a_wd e_wn a_rf (-3))), (a_rf, (arI G 5 o_rf))]))) (g5_B G (va_A [(a_o, (oc11 a_h a_im a_ke a_k a_wa a_th a_ha a_wk a_r a_x e_tl e_fd e_fpl a_wd e_wn a_rf e_lr)), (a_rf, (arI G 5 f_rf))] sz)) (va_A [(a_o, (oc11 a_h a_im a_ke a_k a_wa a_th a_ha a_wk a_r a_x e_tl e_fd e_fpl a_wd e_wn a_rf e_lr)), (a_rf, (arI G 5 f_rf))] sz)) 0 0 (va_A [(a_o, (oc11 a_h a_im a_ke a_k a_wa a_th a_ha a_wk a_r a_x e_tl e_fd e_fpl a_wd e_wn a_rf e_lr)), (a_rf, (arI G 5 f_rf))] sz) := by
  refine Met.ofW (cc := cX11_refuse) (maxL := 3) (ret := (some .int)) (by decide) rfl ?_
  intro p e s m args below meth c s₁ B hml hv
  obtain ⟨rfl, hsz, hP, hK, hD0, hN, hT⟩ := hv
  have hx := B.exec
  have hb := B.bytes
  have hr := B.returns
  have hts : ∀ w ∈ tblG, w.before _ s = true := fun w h => atoms_spec (ws := (wsG yX11_refuse cX11_refuse 3 (some .int))) B.pre w (List.mem_cons_of_mem _ h)
  have hown : s.vm.findClass RX11 = some m.cls := findClass_of_methodNamed B.named
  have hlocks := B.notSynchronized
  subst hsz
  have hD := hD0.self (sz := s.heap.size)
  generalize hAe : va_A [(a_o, (oc11 a_h a_im a_ke a_k a_wa a_th a_ha a_wk a_r a_x e_tl e_fd e_fpl a_wd e_wn a_rf e_lr)), (a_rf, (arI G 5 f_rf))] s.heap.size = A at hD hT ⊢
  have hA : ∀ q : Nat, s.heap.size ≤ q → A q := fun q h => by rw [← hAe]; exact Or.inr h
  have hS : va_S A s.heap s.heap [] := va_S.rf
  have hP : va_P G.1 vwCl [(a_o, (oc11 a_h a_im a_ke a_k a_wa a_th a_ha a_wk a_r a_x e_tl e_fd e_fpl a_wd e_wn a_rf e_lr)), (a_rf, (arI G 5 f_rf))] s.heap := hP
  have hl := lv_entry ([.ref a_o, .int (-3)]) (n := 3) (Nat.le_of_ble_eq_true rfl)
  rw [lg_entry_eq]
  generalize (lg_sl ([.ref a_o, .int (-3)]) ++ List.replicate (3 - (lg_sl ([.ref a_o, .int (-3)])).length) Slot.unset).toArray = ls at hl ⊢
  have hl : lv_has ls 3 [(0, .ref a_o), (1, .int (-3))] := hl
  refine lv_aload_n hx hb dX11_refuse_0 rfl (lv_at hl 0 rfl) ?_
  refine lv_iload_n hx hb dX11_refuse_1 rfl (lv_at hl 1 rfl) ?_
  refine va_put (D := G.1) (ci := 11) (v := .int (-3)) (ty := .int) (C := RX11) (T := TX11) (N := 17) hx hb hts inG_X11 tyX11 tyX11_ok nmX11 hown hK hP hD hS 0 rfl rfl 16 (by decide) (hts _ fl_X11_94) (fun _ h9 => h9) rfl (by decide +kernel) rfl rfl (Nat.le_of_ble_eq_true rfl) dX11_refuse_2 (fun H locs hP hD hS => ?_)
  refine g5_rs [(a_o, (oc11 a_h a_im a_ke a_k a_wa a_th a_ha a_wk a_r a_x e_tl e_fd e_fpl a_wd e_wn a_rf (-3))), (a_rf, (arI G 5 f_rf))] hP hD (fun hP hD => ?_)
  refine lv_iload_n hx hb dX11_refuse_5 rfl (lv_at hl 1 rfl) ?_
  refine lv_bipush (v := (-3)) hx hb dX11_refuse_6 (by decide) ?_
  refine lv_icmp_lt (tgt := 18) hx hb dX11_refuse_8 (by decide) (fun c_1 => ?_) (fun c_1 => ?_)
  ·
    exact absurd c_1 (by decide)
  ·
    refine lv_iload_n hx hb dX11_refuse_11 rfl (lv_at hl 1 rfl) ?_
    refine lv_ineg hx hb dX11_refuse_12 ?_
    refine g5_ti (v := 3) (by decide) ?_
    refine lv_iconst (v := 1) hx hb dX11_refuse_13 (by decide) ?_
    refine lv_isub hx hb dX11_refuse_14 ?_
    refine g5_ti (v := 2) (by decide) ?_
    refine lv_goto (tgt := 22) hx hb dX11_refuse_15 (by decide) ?_
    refine lv_istore_n (lv' := [(2, .int 2), (0, .ref a_o), (1, .int (-3))]) hx hb dX11_refuse_22 rfl hl (by decide) rfl (fun ls hl => ?_)
    refine lv_iload_n hx hb dX11_refuse_23 rfl (lv_at hl 0 rfl) ?_
    refine lv_if_lt (tgt := 46) hx hb dX11_refuse_24 (by decide) (fun c_2 => ?_) (fun c_2 => ?_)
    ·
      exact absurd c_2 (by decide)
    ·
      refine lv_iload_n hx hb dX11_refuse_27 rfl (lv_at hl 0 rfl) ?_
      refine lv_aload_n hx hb dX11_refuse_28 rfl (lv_at hl 1 rfl) ?_
      refine va_get (D := G.1) (ci := 11) (v := .ref a_rf) (C := RX11) (T := TX11) (N := 17) hx hb hts inG_X11 hown hK hP 0 rfl rfl 15 (by decide) (hts _ fl_X11_91) (fun _ h9 => h9) rfl dX11_refuse_29 ?_
      refine va_alen hx hb hK hP 1 0 rfl rfl (v := 5) (by show Int32.ofNat 5 = 5; decide) dX11_refuse_32 ?_
      refine lv_icmp_ge (tgt := 46) hx hb dX11_refuse_33 (by decide) (fun c_3 => ?_) (fun c_3 => ?_)
      ·
        exact absurd c_3 (by decide)
      ·
        refine lv_aload_n hx hb dX11_refuse_36 rfl (lv_at hl 1 rfl) ?_
        refine va_get (D := G.1) (ci := 11) (v := .ref a_rf) (C := RX11) (T := TX11) (N := 17) hx hb hts inG_X11 hown hK hP 0 rfl rfl 15 (by decide) (hts _ fl_X11_91) (fun _ h9 => h9) rfl dX11_refuse_37 ?_
        refine lv_iload_n hx hb dX11_refuse_40 rfl (lv_at hl 0 rfl) ?_
        refine lv_dup2_11 hx hb dX11_refuse_41 rfl rfl ?_
        refine va_iald hx hb hK hP 1 0 rfl rfl (i := 2) (by unfold vp_in; decide) dX11_refuse_42 ?_
        refine g5_ti (v := (f_rf 2)) rfl ?_
        refine lv_iconst (v := 1) hx hb dX11_refuse_43 (by decide) ?_
        refine lv_iadd hx hb dX11_refuse_44 ?_
        refine va_iast hx hb hK hP hD hS 1 0 rfl rfl (i := 2) (x := ((f_rf 2) + 1)) (by unfold vp_in; decide) dX11_refuse_45 (fun H locs hP hD hS => ?_)
        refine g5_rs [(a_o, (oc11 a_h a_im a_ke a_k a_wa a_th a_ha a_wk a_r a_x e_tl e_fd e_fpl a_wd e_wn a_rf (-3))), (a_rf, (arI G 5 (upd f_rf 2 ((f_rf 2) + 1))))] hP hD (fun hP hD => ?_)
        refine lv_iload_n hx hb dX11_refuse_46 rfl (lv_at hl 2 rfl) ?_
        exact W.iret (v := (-3)) hx hb hr (fun t ht hW => ⟨⟨(-3), [(a_o, (oc11 a_h a_im a_ke a_k a_wa a_th a_ha a_wk a_r a_x e_tl e_fd e_fpl a_wd e_wn a_rf (-3))), (a_rf, (arI G 5 (upd f_rf 2 ((f_rf 2) + 1))))], rfl, ⟨(upd f_rf 2 ((f_rf 2) + 1)), rfl, rfl⟩, by rw [ht]; exact hP.sub [0, 1] rfl, hD.sub [0, 1] (by decide) rfl⟩, hS.F ht⟩) hS.2.2 dX11_refuse_47
set_option maxHeartbeats 4000000 in
set_option maxRecDepth 100000 in
theorem x_refuse5 (l : Launch) (G : g5_G) (a_o a_rf a_h a_im a_ke a_k a_wa a_th a_ha a_wk a_r a_x a_wd : Nat) (sz : Nat) (e_tl : Int32) (e_fd : Int32) (e_fpl : Int32) (e_wn : Int32) (e_lr : Int32) (f_rf : Nat → Int32) (h_e_tl : 0 ≤ e_tl.toInt ∧ e_tl.toInt ≤ 400) (h_e_wn : 0 ≤ e_wn.toInt ∧ e_wn.toInt ≤ 1) : Met l yX11_refuse (wsG yX11_refuse cX11_refuse 3 (some .int)) ({ frames := 0, cells := 0, slots := 0, locals := 0 }) (va_Pc [.ref a_o, .int (-5)] (g5_P G [(a_o, (oc11 a_h a_im a_ke a_k a_wa a_th a_ha a_wk a_r a_x e_tl e_fd e_fpl a_wd e_wn a_rf e_lr)), (a_rf, (arI G 5 f_rf))] sz)) (va_Qi (fun (r : Int32) (u : va_W) => (∃ (o_rf : Nat → Int32), (r = (-5)) ∧ (u = [(a_o, (oc11 a_h a_im a_ke a_k a_wa a_th a_ha a_wk a_r a_x e_tl e_fd e_fpl a_wd e_wn a_rf (-5))), (a_rf, (arI G 5 o_rf))]))) (g5_B G (va_A [(a_o, (oc11 a_h a_im a_ke a_k a_wa a_th a_ha a_wk a_r a_x e_tl e_fd e_fpl a_wd e_wn a_rf e_lr)), (a_rf, (arI G 5 f_rf))] sz)) (va_A [(a_o, (oc11 a_h a_im a_ke a_k a_wa a_th a_ha a_wk a_r a_x e_tl e_fd e_fpl a_wd e_wn a_rf e_lr)), (a_rf, (arI G 5 f_rf))] sz)) 0 0 (va_A [(a_o, (oc11 a_h a_im a_ke a_k a_wa a_th a_ha a_wk a_r a_x e_tl e_fd e_fpl a_wd e_wn a_rf e_lr)), (a_rf, (arI G 5 f_rf))] sz) := by
  refine Met.ofW (cc := cX11_refuse) (maxL := 3) (ret := (some .int)) (by decide) rfl ?_
  intro p e s m args below meth c s₁ B hml hv
  obtain ⟨rfl, hsz, hP, hK, hD0, hN, hT⟩ := hv
  have hx := B.exec
  have hb := B.bytes
  have hr := B.returns
  have hts : ∀ w ∈ tblG, w.before _ s = true := fun w h => atoms_spec (ws := (wsG yX11_refuse cX11_refuse 3 (some .int))) B.pre w (List.mem_cons_of_mem _ h)
  have hown : s.vm.findClass RX11 = some m.cls := findClass_of_methodNamed B.named
  have hlocks := B.notSynchronized
  subst hsz
  have hD := hD0.self (sz := s.heap.size)
  generalize hAe : va_A [(a_o, (oc11 a_h a_im a_ke a_k a_wa a_th a_ha a_wk a_r a_x e_tl e_fd e_fpl a_wd e_wn a_rf e_lr)), (a_rf, (arI G 5 f_rf))] s.heap.size = A at hD hT ⊢
  have hA : ∀ q : Nat, s.heap.size ≤ q → A q := fun q h => by rw [← hAe]; exact Or.inr h
  have hS : va_S A s.heap s.heap [] := va_S.rf
  have hP : va_P G.1 vwCl [(a_o, (oc11 a_h a_im a_ke a_k a_wa a_th a_ha a_wk a_r a_x e_tl e_fd e_fpl a_wd e_wn a_rf e_lr)), (a_rf, (arI G 5 f_rf))] s.heap := hP
  have hl := lv_entry ([.ref a_o, .int (-5)]) (n := 3) (Nat.le_of_ble_eq_true rfl)
  rw [lg_entry_eq]
  generalize (lg_sl ([.ref a_o, .int (-5)]) ++ List.replicate (3 - (lg_sl ([.ref a_o, .int (-5)])).length) Slot.unset).toArray = ls at hl ⊢
  have hl : lv_has ls 3 [(0, .ref a_o), (1, .int (-5))] := hl
  refine lv_aload_n hx hb dX11_refuse_0 rfl (lv_at hl 0 rfl) ?_
  refine lv_iload_n hx hb dX11_refuse_1 rfl (lv_at hl 1 rfl) ?_
  refine va_put (D := G.1) (ci := 11) (v := .int (-5)) (ty := .int) (C := RX11) (T := TX11) (N := 17) hx hb hts inG_X11 tyX11 tyX11_ok nmX11 hown hK hP hD hS 0 rfl rfl 16 (by decide) (hts _ fl_X11_94) (fun _ h9 => h9) rfl (by decide +kernel) rfl rfl (Nat.le_of_ble_eq_true rfl) dX11_refuse_2 (fun H locs hP hD hS => ?_)
  refine g5_rs [(a_o, (oc11 a_h a_im a_ke a_k a_wa a_th a_ha a_wk a_r a_x e_tl e_fd e_fpl a_wd e_wn a_rf (-5))), (a_rf, (arI G 5 f_rf))] hP hD (fun hP hD => ?_)
  refine lv_iload_n hx hb dX11_refuse_5 rfl (lv_at hl 1 rfl) ?_
  refine lv_bipush (v := (-3)) hx hb dX11_refuse_6 (by decide) ?_
  refine lv_icmp_lt (tgt := 18) hx hb dX11_refuse_8 (by decide) (fun c_1 => ?_) (fun c_1 => ?_)
  ·
    refine lv_iload_n hx hb dX11_refuse_18 rfl (lv_at hl 1 rfl) ?_
    refine lv_ineg hx hb dX11_refuse_19 ?_
    refine g5_ti (v := 5) (by decide) ?_
    refine lv_iconst (v := 2) hx hb dX11_refuse_20 (by decide) ?_
    refine lv_isub hx hb dX11_refuse_21 ?_
    refine g5_ti (v := 3) (by decide) ?_
    refine lv_istore_n (lv' := [(2, .int 3), (0, .ref a_o), (1, .int (-5))]) hx hb dX11_refuse_22 rfl hl (by decide) rfl (fun ls hl => ?_)
    refine lv_iload_n hx hb dX11_refuse_23 rfl (lv_at hl 0 rfl) ?_
    refine lv_if_lt (tgt := 46) hx hb dX11_refuse_24 (by decide) (fun c_2 => ?_) (fun c_2 => ?_)
    ·
      exact absurd c_2 (by decide)
    ·
      refine lv_iload_n hx hb dX11_refuse_27 rfl (lv_at hl 0 rfl) ?_
      refine lv_aload_n hx hb dX11_refuse_28 rfl (lv_at hl 1 rfl) ?_
      refine va_get (D := G.1) (ci := 11) (v := .ref a_rf) (C := RX11) (T := TX11) (N := 17) hx hb hts inG_X11 hown hK hP 0 rfl rfl 15 (by decide) (hts _ fl_X11_91) (fun _ h9 => h9) rfl dX11_refuse_29 ?_
      refine va_alen hx hb hK hP 1 0 rfl rfl (v := 5) (by show Int32.ofNat 5 = 5; decide) dX11_refuse_32 ?_
      refine lv_icmp_ge (tgt := 46) hx hb dX11_refuse_33 (by decide) (fun c_3 => ?_) (fun c_3 => ?_)
      ·
        exact absurd c_3 (by decide)
      ·
        refine lv_aload_n hx hb dX11_refuse_36 rfl (lv_at hl 1 rfl) ?_
        refine va_get (D := G.1) (ci := 11) (v := .ref a_rf) (C := RX11) (T := TX11) (N := 17) hx hb hts inG_X11 hown hK hP 0 rfl rfl 15 (by decide) (hts _ fl_X11_91) (fun _ h9 => h9) rfl dX11_refuse_37 ?_
        refine lv_iload_n hx hb dX11_refuse_40 rfl (lv_at hl 0 rfl) ?_
        refine lv_dup2_11 hx hb dX11_refuse_41 rfl rfl ?_
        refine va_iald hx hb hK hP 1 0 rfl rfl (i := 3) (by unfold vp_in; decide) dX11_refuse_42 ?_
        refine g5_ti (v := (f_rf 3)) rfl ?_
        refine lv_iconst (v := 1) hx hb dX11_refuse_43 (by decide) ?_
        refine lv_iadd hx hb dX11_refuse_44 ?_
        refine va_iast hx hb hK hP hD hS 1 0 rfl rfl (i := 3) (x := ((f_rf 3) + 1)) (by unfold vp_in; decide) dX11_refuse_45 (fun H locs hP hD hS => ?_)
        refine g5_rs [(a_o, (oc11 a_h a_im a_ke a_k a_wa a_th a_ha a_wk a_r a_x e_tl e_fd e_fpl a_wd e_wn a_rf (-5))), (a_rf, (arI G 5 (upd f_rf 3 ((f_rf 3) + 1))))] hP hD (fun hP hD => ?_)
        refine lv_iload_n hx hb dX11_refuse_46 rfl (lv_at hl 2 rfl) ?_
        exact W.iret (v := (-5)) hx hb hr (fun t ht hW => ⟨⟨(-5), [(a_o, (oc11 a_h a_im a_ke a_k a_wa a_th a_ha a_wk a_r a_x e_tl e_fd e_fpl a_wd e_wn a_rf (-5))), (a_rf, (arI G 5 (upd f_rf 3 ((f_rf 3) + 1))))], rfl, ⟨(upd f_rf 3 ((f_rf 3) + 1)), rfl, rfl⟩, by rw [ht]; exact hP.sub [0, 1] rfl, hD.sub [0, 1] (by decide) rfl⟩, hS.F ht⟩) hS.2.2 dX11_refuse_47
  ·
    exact absurd c_1 (by decide)
set_option maxHeartbeats 4000000 in
set_option maxRecDepth 100000 in
theorem x_refuse6 (l : Launch) (G : g5_G) (a_o a_rf a_h a_im a_ke a_k a_wa a_th a_ha a_wk a_r a_x a_wd : Nat) (sz : Nat) (e_tl : Int32) (e_fd : Int32) (e_fpl : Int32) (e_wn : Int32) (e_lr : Int32) (f_rf : Nat → Int32) (h_e_tl : 0 ≤ e_tl.toInt ∧ e_tl.toInt ≤ 400) (h_e_wn : 0 ≤ e_wn.toInt ∧ e_wn.toInt ≤ 1) : Met l yX11_refuse (wsG yX11_refuse cX11_refuse 3 (some .int)) ({ frames := 0, cells := 0, slots := 0, locals := 0 }) (va_Pc [.ref a_o, .int (-6)] (g5_P G [(a_o, (oc11 a_h a_im a_ke a_k a_wa a_th a_ha a_wk a_r a_x e_tl e_fd e_fpl a_wd e_wn a_rf e_lr)), (a_rf, (arI G 5 f_rf))] sz)) (va_Qi (fun (r : Int32) (u : va_W) => (∃ (o_rf : Nat → Int32), (r = (-6)) ∧ (u = [(a_o, (oc11 a_h a_im a_ke a_k a_wa a_th a_ha a_wk a_r a_x e_tl e_fd e_fpl a_wd e_wn a_rf (-6))), (a_rf, (arI G 5 o_rf))]))) (g5_B G (va_A [(a_o, (oc11 a_h a_im a_ke a_k a_wa a_th a_ha a_wk a_r a_x e_tl e_fd e_fpl a_wd e_wn a_rf e_lr)), (a_rf, (arI G 5 f_rf))] sz)) (va_A [(a_o, (oc11 a_h a_im a_ke a_k a_wa a_th a_ha a_wk a_r a_x e_tl e_fd e_fpl a_wd e_wn a_rf e_lr)), (a_rf, (arI G 5 f_rf))] sz)) 0 0 (va_A [(a_o, (oc11 a_h a_im a_ke a_k a_wa a_th a_ha a_wk a_r a_x e_tl e_fd e_fpl a_wd e_wn a_rf e_lr)), (a_rf, (arI G 5 f_rf))] sz) := by
  refine Met.ofW (cc := cX11_refuse) (maxL := 3) (ret := (some .int)) (by decide) rfl ?_
  intro p e s m args below meth c s₁ B hml hv
  obtain ⟨rfl, hsz, hP, hK, hD0, hN, hT⟩ := hv
  have hx := B.exec
  have hb := B.bytes
  have hr := B.returns
  have hts : ∀ w ∈ tblG, w.before _ s = true := fun w h => atoms_spec (ws := (wsG yX11_refuse cX11_refuse 3 (some .int))) B.pre w (List.mem_cons_of_mem _ h)
  have hown : s.vm.findClass RX11 = some m.cls := findClass_of_methodNamed B.named
  have hlocks := B.notSynchronized
  subst hsz
  have hD := hD0.self (sz := s.heap.size)
  generalize hAe : va_A [(a_o, (oc11 a_h a_im a_ke a_k a_wa a_th a_ha a_wk a_r a_x e_tl e_fd e_fpl a_wd e_wn a_rf e_lr)), (a_rf, (arI G 5 f_rf))] s.heap.size = A at hD hT ⊢
  have hA : ∀ q : Nat, s.heap.size ≤ q → A q := fun q h => by rw [← hAe]; exact Or.inr h
  have hS : va_S A s.heap s.heap [] := va_S.rf
  have hP : va_P G.1 vwCl [(a_o, (oc11 a_h a_im a_ke a_k a_wa a_th a_ha a_wk a_r a_x e_tl e_fd e_fpl a_wd e_wn a_rf e_lr)), (a_rf, (arI G 5 f_rf))] s.heap := hP
  have hl := lv_entry ([.ref a_o, .int (-6)]) (n := 3) (Nat.le_of_ble_eq_true rfl)
  rw [lg_entry_eq]
  generalize (lg_sl ([.ref a_o, .int (-6)]) ++ List.replicate (3 - (lg_sl ([.ref a_o, .int (-6)])).length) Slot.unset).toArray = ls at hl ⊢
  have hl : lv_has ls 3 [(0, .ref a_o), (1, .int (-6))] := hl
  refine lv_aload_n hx hb dX11_refuse_0 rfl (lv_at hl 0 rfl) ?_
  refine lv_iload_n hx hb dX11_refuse_1 rfl (lv_at hl 1 rfl) ?_
  refine va_put (D := G.1) (ci := 11) (v := .int (-6)) (ty := .int) (C := RX11) (T := TX11) (N := 17) hx hb hts inG_X11 tyX11 tyX11_ok nmX11 hown hK hP hD hS 0 rfl rfl 16 (by decide) (hts _ fl_X11_94) (fun _ h9 => h9) rfl (by decide +kernel) rfl rfl (Nat.le_of_ble_eq_true rfl) dX11_refuse_2 (fun H locs hP hD hS => ?_)
  refine g5_rs [(a_o, (oc11 a_h a_im a_ke a_k a_wa a_th a_ha a_wk a_r a_x e_tl e_fd e_fpl a_wd e_wn a_rf (-6))), (a_rf, (arI G 5 f_rf))] hP hD (fun hP hD => ?_)
  refine lv_iload_n hx hb dX11_refuse_5 rfl (lv_at hl 1 rfl) ?_
  refine lv_bipush (v := (-3)) hx hb dX11_refuse_6 (by decide) ?_
  refine lv_icmp_lt (tgt := 18) hx hb dX11_refuse_8 (by decide) (fun c_1 => ?_) (fun c_1 => ?_)
  ·
    refine lv_iload_n hx hb dX11_refuse_18 rfl (lv_at hl 1 rfl) ?_
    refine lv_ineg hx hb dX11_refuse_19 ?_
    refine g5_ti (v := 6) (by decide) ?_
    refine lv_iconst (v := 2) hx hb dX11_refuse_20 (by decide) ?_
    refine lv_isub hx hb dX11_refuse_21 ?_
    refine g5_ti (v := 4) (by decide) ?_
    refine lv_istore_n (lv' := [(2, .int 4), (0, .ref a_o), (1, .int (-6))]) hx hb dX11_refuse_22 rfl hl (by decide) rfl (fun ls hl => ?_)
    refine lv_iload_n hx hb dX11_refuse_23 rfl (lv_at hl 0 rfl) ?_
    refine lv_if_lt (tgt := 46) hx hb dX11_refuse_24 (by decide) (fun c_2 => ?_) (fun c_2 => ?_)
    ·
      exact absurd c_2 (by decide)
    ·
      refine lv_iload_n hx hb dX11_refuse_27 rfl (lv_at hl 0 rfl) ?_
      refine lv_aload_n hx hb dX11_refuse_28 rfl (lv_at hl 1 rfl) ?_
      refine va_get (D := G.1) (ci := 11) (v := .ref a_rf) (C := RX11) (T := TX11) (N := 17) hx hb hts inG_X11 hown hK hP 0 rfl rfl 15 (by decide) (hts _ fl_X11_91) (fun _ h9 => h9) rfl dX11_refuse_29 ?_
      refine va_alen hx hb hK hP 1 0 rfl rfl (v := 5) (by show Int32.ofNat 5 = 5; decide) dX11_refuse_32 ?_
      refine lv_icmp_ge (tgt := 46) hx hb dX11_refuse_33 (by decide) (fun c_3 => ?_) (fun c_3 => ?_)
      ·
        exact absurd c_3 (by decide)
      ·
        refine lv_aload_n hx hb dX11_refuse_36 rfl (lv_at hl 1 rfl) ?_
        refine va_get (D := G.1) (ci := 11) (v := .ref a_rf) (C := RX11) (T := TX11) (N := 17) hx hb hts inG_X11 hown hK hP 0 rfl rfl 15 (by decide) (hts _ fl_X11_91) (fun _ h9 => h9) rfl dX11_refuse_37 ?_
        refine lv_iload_n hx hb dX11_refuse_40 rfl (lv_at hl 0 rfl) ?_
        refine lv_dup2_11 hx hb dX11_refuse_41 rfl rfl ?_
        refine va_iald hx hb hK hP 1 0 rfl rfl (i := 4) (by unfold vp_in; decide) dX11_refuse_42 ?_
        refine g5_ti (v := (f_rf 4)) rfl ?_
        refine lv_iconst (v := 1) hx hb dX11_refuse_43 (by decide) ?_
        refine lv_iadd hx hb dX11_refuse_44 ?_
        refine va_iast hx hb hK hP hD hS 1 0 rfl rfl (i := 4) (x := ((f_rf 4) + 1)) (by unfold vp_in; decide) dX11_refuse_45 (fun H locs hP hD hS => ?_)
        refine g5_rs [(a_o, (oc11 a_h a_im a_ke a_k a_wa a_th a_ha a_wk a_r a_x e_tl e_fd e_fpl a_wd e_wn a_rf (-6))), (a_rf, (arI G 5 (upd f_rf 4 ((f_rf 4) + 1))))] hP hD (fun hP hD => ?_)
        refine lv_iload_n hx hb dX11_refuse_46 rfl (lv_at hl 2 rfl) ?_
        exact W.iret (v := (-6)) hx hb hr (fun t ht hW => ⟨⟨(-6), [(a_o, (oc11 a_h a_im a_ke a_k a_wa a_th a_ha a_wk a_r a_x e_tl e_fd e_fpl a_wd e_wn a_rf (-6))), (a_rf, (arI G 5 (upd f_rf 4 ((f_rf 4) + 1))))], rfl, ⟨(upd f_rf 4 ((f_rf 4) + 1)), rfl, rfl⟩, by rw [ht]; exact hP.sub [0, 1] rfl, hD.sub [0, 1] (by decide) rfl⟩, hS.F ht⟩) hS.2.2 dX11_refuse_47
  ·
    exact absurd c_1 (by decide)
theorem dgX11_done_0 : ∀ r ∈ ([(0, (.aload_n 0, 1)), (1, (.iconst 0, 1)), (2, (.putfield 94, 3)), (5, (.iload_n 1, 1)), (6, (.ireturn, 1))] : List (Nat × (Instr × Nat))), decode cX11_done r.1 = .ok r.2 := by decide +kernel
theorem dX11_done_0 : decode cX11_done 0 = .ok (.aload_n 0, 1) := dgX11_done_0 (0, (.aload_n 0, 1)) (List.mem_of_getElem? (i := 0) rfl)
theorem dX11_done_1 : decode cX11_done 1 = .ok (.iconst 0, 1) := dgX11_done_0 (1, (.iconst 0, 1)) (List.mem_of_getElem? (i := 1) rfl)
theorem dX11_done_2 : decode cX11_done 2 = .ok (.putfield 94, 3) := dgX11_done_0 (2, (.putfield 94, 3)) (List.mem_of_getElem? (i := 2) rfl)
theorem dX11_done_5 : decode cX11_done 5 = .ok (.iload_n 1, 1) := dgX11_done_0 (5, (.iload_n 1, 1)) (List.mem_of_getElem? (i := 3) rfl)
theorem dX11_done_6 : decode cX11_done 6 = .ok (.ireturn, 1) := dgX11_done_0 (6, (.ireturn, 1)) (List.mem_of_getElem? (i := 4) rfl)
set_option maxHeartbeats 4000000 in
set_option maxRecDepth 100000 in
theorem x_done (l : Launch) (G : g5_G) (a_o a_h a_im a_ke a_k a_wa a_th a_ha a_wk a_r a_x a_wd a_rf : Nat) (sz : Nat) (e_tl : Int32) (e_fd : Int32) (e_fpl : Int32) (e_wn : Int32) (e_lr : Int32) (p_a : Int32) (h_e_tl : 0 ≤ e_tl.toInt ∧ e_tl.toInt ≤ 400) (h_e_wn : 0 ≤ e_wn.toInt ∧ e_wn.toInt ≤ 1) : Met l yX11_done (wsG yX11_done cX11_done 2 (some .int)) ({ frames := 0, cells := 0, slots := 0, locals := 0 }) (va_Pc [.ref a_o, .int p_a] (g5_P G [(a_o, (oc11 a_h a_im a_ke a_k a_wa a_th a_ha a_wk a_r a_x e_tl e_fd e_fpl a_wd e_wn a_rf e_lr))] sz)) (va_Qi (fun (r : Int32) (u : va_W) => ((r = p_a) ∧ (u = [(a_o, (oc11 a_h a_im a_ke a_k a_wa a_th a_ha a_wk a_r a_x e_tl e_fd e_fpl a_wd e_wn a_rf 0))]))) (g5_B G (va_A [(a_o, (oc11 a_h a_im a_ke a_k a_wa a_th a_ha a_wk a_r a_x e_tl e_fd e_fpl a_wd e_wn a_rf e_lr))] sz)) (va_A [(a_o, (oc11 a_h a_im a_ke a_k a_wa a_th a_ha a_wk a_r a_x e_tl e_fd e_fpl a_wd e_wn a_rf e_lr))] sz)) 0 0 (va_A [(a_o, (oc11 a_h a_im a_ke a_k a_wa a_th a_ha a_wk a_r a_x e_tl e_fd e_fpl a_wd e_wn a_rf e_lr))] sz) := by
  refine Met.ofW (cc := cX11_done) (maxL := 2) (ret := (some .int)) (by decide) rfl ?_
  intro p e s m args below meth c s₁ B hml hv
  obtain ⟨rfl, hsz, hP, hK, hD0, hN, hT⟩ := hv
  have hx := B.exec
  have hb := B.bytes
  have hr := B.returns
  have hts : ∀ w ∈ tblG, w.before _ s = true := fun w h => atoms_spec (ws := (wsG yX11_done cX11_done 2 (some .int))) B.pre w (List.mem_cons_of_mem _ h)
  have hown : s.vm.findClass RX11 = some m.cls := findClass_of_methodNamed B.named
  have hlocks := B.notSynchronized
  subst hsz
  have hD := hD0.self (sz := s.heap.size)
  generalize hAe : va_A [(a_o, (oc11 a_h a_im a_ke a_k a_wa a_th a_ha a_wk a_r a_x e_tl e_fd e_fpl a_wd e_wn a_rf e_lr))] s.heap.size = A at hD hT ⊢
  have hA : ∀ q : Nat, s.heap.size ≤ q → A q := fun q h => by rw [← hAe]; exact Or.inr h
  have hS : va_S A s.heap s.heap [] := va_S.rf
  have hP : va_P G.1 vwCl [(a_o, (oc11 a_h a_im a_ke a_k a_wa a_th a_ha a_wk a_r a_x e_tl e_fd e_fpl a_wd e_wn a_rf e_lr))] s.heap := hP
  have hl := lv_entry ([.ref a_o, .int p_a]) (n := 2) (Nat.le_of_ble_eq_true rfl)
  rw [lg_entry_eq]
  generalize (lg_sl ([.ref a_o, .int p_a]) ++ List.replicate (2 - (lg_sl ([.ref a_o, .int p_a])).length) Slot.unset).toArray = ls at hl ⊢
  have hl : lv_has ls 2 [(0, .ref a_o), (1, .int p_a)] := hl
  refine lv_aload_n hx hb dX11_done_0 rfl (lv_at hl 0 rfl) ?_
  refine lv_iconst (v := 0) hx hb dX11_done_1 (by decide) ?_
  refine va_put (D := G.1) (ci := 11) (v := .int 0) (ty := .int) (C := RX11) (T := TX11) (N := 17) hx hb hts inG_X11 tyX11 tyX11_ok nmX11 hown hK hP hD hS 0 rfl rfl 16 (by decide) (hts _ fl_X11_94) (fun _ h9 => h9) rfl (by decide +kernel) rfl rfl (Nat.le_of_ble_eq_true rfl) dX11_done_2 (fun H locs hP hD hS => ?_)
  refine g5_rs [(a_o, (oc11 a_h a_im a_ke a_k a_wa a_th a_ha a_wk a_r a_x e_tl e_fd e_fpl a_wd e_wn a_rf 0))] hP hD (fun hP hD => ?_)
  refine lv_iload_n hx hb dX11_done_5 rfl (lv_at hl 1 rfl) ?_
  exact W.iret (v := p_a) hx hb hr (fun t ht hW => ⟨⟨p_a, [(a_o, (oc11 a_h a_im a_ke a_k a_wa a_th a_ha a_wk a_r a_x e_tl e_fd e_fpl a_wd e_wn a_rf 0))], rfl, ⟨rfl, rfl⟩, by rw [ht]; exact hP.sub [0] rfl, hD.sub [0] (by decide) rfl⟩, hS.F ht⟩) hS.2.2 dX11_done_6
