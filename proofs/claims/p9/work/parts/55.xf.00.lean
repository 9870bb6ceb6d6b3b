theorem g_inc2 (w : Int32) : (w + 1).toInt = w.toInt + 1 ∨ (w.toInt = 2147483647 ∧ (w + 1).toInt < 1) := by
  have h := g5_rg w
  by_cases q : w.toInt < 2147483647
  · exact Or.inl (g5_iadd (a := w.toInt) (b := 1) rfl (by decide) (by omega) (by omega))
  · have e : w = 2147483647 := g5_toc (n := 2147483647) (by decide) (by omega)
    refine Or.inr ⟨by omega, ?_⟩
    rw [e]; decide
set_option maxHeartbeats 4000000 in
set_option maxRecDepth 100000 in
theorem x_isCellX (l : Launch) (G : g5_G) (sz : Nat) (p_v : Int32) : Met l yX11_isCell (wsG yX11_isCell cX11_isCell 1 (some .boolean)) ({ frames := 0, cells := 0, slots := 0, locals := 0 }) (va_Pc [.int p_v] (g5_P G [] sz)) (va_Qi (fun (r : Int32) (u : va_W) => ((0 ≤ p_v.toInt ∧ p_v.toInt ≤ 63) ∧ (r = 1) ∧ (u = [])) ∨ ((p_v.toInt < 0 ∨ 63 < p_v.toInt) ∧ (r = 0) ∧ (u = []))) (g5_B G (va_A [] sz)) (va_A [] sz)) 0 0 (va_A [] sz) := by
  refine Met.ofW (cc := cX11_isCell) (maxL := 1) (ret := (some .boolean)) (by decide) rfl ?_
  intro p e s m args below meth c s₁ B hml hv
  obtain ⟨rfl, hsz, hP, hK, hD0, hN, hT⟩ := hv
  have hx := B.exec
  have hb := B.bytes
  have hr := B.returns
  have hts : ∀ w ∈ tblG, w.before _ s = true := fun w h => atoms_spec (ws := (wsG yX11_isCell cX11_isCell 1 (some .boolean))) B.pre w (List.mem_cons_of_mem _ h)
  have hown : s.vm.findClass RX11 = some m.cls := findClass_of_methodNamed B.named
  have hlocks := B.notSynchronized
  subst hsz
  have hD := hD0.self (sz := s.heap.size)
  generalize hAe : va_A [] s.heap.size = A at hD hT ⊢
  have hA : ∀ q : Nat, s.heap.size ≤ q → A q := fun q h => by rw [← hAe]; exact Or.inr h
  have hS : va_S A s.heap s.heap [] := va_S.rf
  have hP : va_P G.1 vwCl [] s.heap := hP
  have hl := lv_entry ([.int p_v]) (n := 1) (Nat.le_of_ble_eq_true rfl)
  rw [lg_entry_eq]
  generalize (lg_sl ([.int p_v]) ++ List.replicate (1 - (lg_sl ([.int p_v])).length) Slot.unset).toArray = ls at hl ⊢
  have hl : lv_has ls 1 [(0, .int p_v)] := hl
  refine lv_iload_n hx hb dX11_isCell_0 rfl (lv_at hl 0 rfl) ?_
  refine lv_if_lt (tgt := 14) hx hb dX11_isCell_1 (by decide) (fun c_1 => ?_) (fun c_1 => ?_)
  ·
    have i_1 : p_v.toInt < 0 := by have z := g5_lt (a := p_v.toInt) (b := 0) (by rfl) (by decide) c_1; omega
    refine lv_iconst (v := 0) hx hb dX11_isCell_14 (by decide) ?_
    exact W.zret (v := 0) hx hb hr rfl (fun t ht hW => ⟨⟨0, [], rfl, Or.inr (⟨by omega, rfl, rfl⟩), by rw [ht]; exact hP.sub [] rfl, hD.sub [] (by decide) rfl⟩, hS.F ht⟩) hS.2.2 dX11_isCell_15
  ·
    have i_1 : p_v.toInt ≥ 0 := by have z := g5_ltN (a := p_v.toInt) (b := 0) (by rfl) (by decide) c_1; omega
    refine lv_iload_n hx hb dX11_isCell_4 rfl (lv_at hl 0 rfl) ?_
    refine lv_bipush (v := 64) hx hb dX11_isCell_5 (by decide) ?_
    refine lv_icmp_ge (tgt := 14) hx hb dX11_isCell_7 (by decide) (fun c_2 => ?_) (fun c_2 => ?_)
    ·
      have i_2 : p_v.toInt ≥ 64 := by have z := g5_ge (a := p_v.toInt) (b := 64) (by rfl) (by decide) c_2; omega
      refine lv_iconst (v := 0) hx hb dX11_isCell_14 (by decide) ?_
      exact W.zret (v := 0) hx hb hr rfl (fun t ht hW => ⟨⟨0, [], rfl, Or.inr (⟨by omega, rfl, rfl⟩), by rw [ht]; exact hP.sub [] rfl, hD.sub [] (by decide) rfl⟩, hS.F ht⟩) hS.2.2 dX11_isCell_15
    ·
      have i_2 : p_v.toInt < 64 := by have z := g5_geN (a := p_v.toInt) (b := 64) (by rfl) (by decide) c_2; omega
      refine lv_iconst (v := 1) hx hb dX11_isCell_10 (by decide) ?_
      refine lv_goto (tgt := 15) hx hb dX11_isCell_11 (by decide) ?_
      exact W.zret (v := 1) hx hb hr rfl (fun t ht hW => ⟨⟨1, [], rfl, Or.inl (⟨by omega, rfl, rfl⟩), by rw [ht]; exact hP.sub [] rfl, hD.sub [] (by decide) rfl⟩, hS.F ht⟩) hS.2.2 dX11_isCell_15
set_option maxHeartbeats 4000000 in
set_option maxRecDepth 100000 in
theorem x_isCellOrNoneX (l : Launch) (G : g5_G) (sz : Nat) (p_v : Int32) : Met l yX11_isCellOrNone (wsG yX11_isCellOrNone cX11_isCellOrNone 1 (some .boolean)) ({ frames := 0, cells := 0, slots := 0, locals := 0 }) (va_Pc [.int p_v] (g5_P G [] sz)) (va_Qi (fun (r : Int32) (u : va_W) => (((-1) ≤ p_v.toInt ∧ p_v.toInt ≤ 63) ∧ (r = 1) ∧ (u = [])) ∨ ((p_v.toInt < (-1) ∨ 63 < p_v.toInt) ∧ (r = 0) ∧ (u = []))) (g5_B G (va_A [] sz)) (va_A [] sz)) 0 0 (va_A [] sz) := by
  refine Met.ofW (cc := cX11_isCellOrNone) (maxL := 1) (ret := (some .boolean)) (by decide) rfl ?_
  intro p e s m args below meth c s₁ B hml hv
  obtain ⟨rfl, hsz, hP, hK, hD0, hN, hT⟩ := hv
  have hx := B.exec
  have hb := B.bytes
  have hr := B.returns
  have hts : ∀ w ∈ tblG, w.before _ s = true := fun w h => atoms_spec (ws := (wsG yX11_isCellOrNone cX11_isCellOrNone 1 (some .boolean))) B.pre w (List.mem_cons_of_mem _ h)
  have hown : s.vm.findClass RX11 = some m.cls := findClass_of_methodNamed B.named
  have hlocks := B.notSynchronized
  subst hsz
  have hD := hD0.self (sz := s.heap.size)
  generalize hAe : va_A [] s.heap.size = A at hD hT ⊢
  have hA : ∀ q : Nat, s.heap.size ≤ q → A q := fun q h => by rw [← hAe]; exact Or.inr h
  have hS : va_S A s.heap s.heap [] := va_S.rf
  have hP : va_P G.1 vwCl [] s.heap := hP
  have hl := lv_entry ([.int p_v]) (n := 1) (Nat.le_of_ble_eq_true rfl)
  rw [lg_entry_eq]
  generalize (lg_sl ([.int p_v]) ++ List.replicate (1 - (lg_sl ([.int p_v])).length) Slot.unset).toArray = ls at hl ⊢
  have hl : lv_has ls 1 [(0, .int p_v)] := hl
  refine lv_iload_n hx hb dX11_isCellOrNone_0 rfl (lv_at hl 0 rfl) ?_
  refine lv_iconst (v := (-1)) hx hb dX11_isCellOrNone_1 (by decide) ?_
  refine lv_icmp_lt (tgt := 15) hx hb dX11_isCellOrNone_2 (by decide) (fun c_1 => ?_) (fun c_1 => ?_)
  ·
    have i_1 : p_v.toInt < (-1) := by have z := g5_lt (a := p_v.toInt) (b := (-1)) (by rfl) (by decide) c_1; omega
    refine lv_iconst (v := 0) hx hb dX11_isCellOrNone_15 (by decide) ?_
    exact W.zret (v := 0) hx hb hr rfl (fun t ht hW => ⟨⟨0, [], rfl, Or.inr (⟨by omega, rfl, rfl⟩), by rw [ht]; exact hP.sub [] rfl, hD.sub [] (by decide) rfl⟩, hS.F ht⟩) hS.2.2 dX11_isCellOrNone_16
  ·
    have i_1 : p_v.toInt ≥ (-1) := by have z := g5_ltN (a := p_v.toInt) (b := (-1)) (by rfl) (by decide) c_1; omega
    refine lv_iload_n hx hb dX11_isCellOrNone_5 rfl (lv_at hl 0 rfl) ?_
    refine lv_bipush (v := 64) hx hb dX11_isCellOrNone_6 (by decide) ?_
    refine lv_icmp_ge (tgt := 15) hx hb dX11_isCellOrNone_8 (by decide) (fun c_2 => ?_) (fun c_2 => ?_)
    ·
      have i_2 : p_v.toInt ≥ 64 := by have z := g5_ge (a := p_v.toInt) (b := 64) (by rfl) (by decide) c_2; omega
      refine lv_iconst (v := 0) hx hb dX11_isCellOrNone_15 (by decide) ?_
      exact W.zret (v := 0) hx hb hr rfl (fun t ht hW => ⟨⟨0, [], rfl, Or.inr (⟨by omega, rfl, rfl⟩), by rw [ht]; exact hP.sub [] rfl, hD.sub [] (by decide) rfl⟩, hS.F ht⟩) hS.2.2 dX11_isCellOrNone_16
    ·
      have i_2 : p_v.toInt < 64 := by have z := g5_geN (a := p_v.toInt) (b := 64) (by rfl) (by decide) c_2; omega
      refine lv_iconst (v := 1) hx hb dX11_isCellOrNone_11 (by decide) ?_
      refine lv_goto (tgt := 16) hx hb dX11_isCellOrNone_12 (by decide) ?_
      exact W.zret (v := 1) hx hb hr rfl (fun t ht hW => ⟨⟨1, [], rfl, Or.inl (⟨by omega, rfl, rfl⟩), by rw [ht]; exact hP.sub [] rfl, hD.sub [] (by decide) rfl⟩, hS.F ht⟩) hS.2.2 dX11_isCellOrNone_16
set_option maxHeartbeats 4000000 in
set_option maxRecDepth 100000 in
theorem x_isHourX (l : Launch) (G : g5_G) (sz : Nat) (p_v : Int32) : Met l yX11_isHour (wsG yX11_isHour cX11_isHour 1 (some .boolean)) ({ frames := 0, cells := 0, slots := 0, locals := 0 }) (va_Pc [.int p_v] (g5_P G [] sz)) (va_Qi (fun (r : Int32) (u : va_W) => ((0 ≤ p_v.toInt ∧ p_v.toInt ≤ 23) ∧ (r = 1) ∧ (u = [])) ∨ ((p_v.toInt < 0 ∨ 23 < p_v.toInt) ∧ (r = 0) ∧ (u = []))) (g5_B G (va_A [] sz)) (va_A [] sz)) 0 0 (va_A [] sz) := by
  refine Met.ofW (cc := cX11_isHour) (maxL := 1) (ret := (some .boolean)) (by decide) rfl ?_
  intro p e s m args below meth c s₁ B hml hv
  obtain ⟨rfl, hsz, hP, hK, hD0, hN, hT⟩ := hv
  have hx := B.exec
  have hb := B.bytes
  have hr := B.returns
  have hts : ∀ w ∈ tblG, w.before _ s = true := fun w h => atoms_spec (ws := (wsG yX11_isHour cX11_isHour 1 (some .boolean))) B.pre w (List.mem_cons_of_mem _ h)
  have hown : s.vm.findClass RX11 = some m.cls := findClass_of_methodNamed B.named
  have hlocks := B.notSynchronized
  subst hsz
  have hD := hD0.self (sz := s.heap.size)
  generalize hAe : va_A [] s.heap.size = A at hD hT ⊢
  have hA : ∀ q : Nat, s.heap.size ≤ q → A q := fun q h => by rw [← hAe]; exact Or.inr h
  have hS : va_S A s.heap s.heap [] := va_S.rf
  have hP : va_P G.1 vwCl [] s.heap := hP
  have hl := lv_entry ([.int p_v]) (n := 1) (Nat.le_of_ble_eq_true rfl)
  rw [lg_entry_eq]
  generalize (lg_sl ([.int p_v]) ++ List.replicate (1 - (lg_sl ([.int p_v])).length) Slot.unset).toArray = ls at hl ⊢
  have hl : lv_has ls 1 [(0, .int p_v)] := hl
  refine lv_iload_n hx hb dX11_isHour_0 rfl (lv_at hl 0 rfl) ?_
  refine lv_if_lt (tgt := 14) hx hb dX11_isHour_1 (by decide) (fun c_1 => ?_) (fun c_1 => ?_)
  ·
    have i_1 : p_v.toInt < 0 := by have z := g5_lt (a := p_v.toInt) (b := 0) (by rfl) (by decide) c_1; omega
    refine lv_iconst (v := 0) hx hb dX11_isHour_14 (by decide) ?_
    exact W.zret (v := 0) hx hb hr rfl (fun t ht hW => ⟨⟨0, [], rfl, Or.inr (⟨by omega, rfl, rfl⟩), by rw [ht]; exact hP.sub [] rfl, hD.sub [] (by decide) rfl⟩, hS.F ht⟩) hS.2.2 dX11_isHour_15
  ·
    have i_1 : p_v.toInt ≥ 0 := by have z := g5_ltN (a := p_v.toInt) (b := 0) (by rfl) (by decide) c_1; omega
    refine lv_iload_n hx hb dX11_isHour_4 rfl (lv_at hl 0 rfl) ?_
    refine lv_bipush (v := 24) hx hb dX11_isHour_5 (by decide) ?_
    refine lv_icmp_ge (tgt := 14) hx hb dX11_isHour_7 (by decide) (fun c_2 => ?_) (fun c_2 => ?_)
    ·
      have i_2 : p_v.toInt ≥ 24 := by have z := g5_ge (a := p_v.toInt) (b := 24) (by rfl) (by decide) c_2; omega
      refine lv_iconst (v := 0) hx hb dX11_isHour_14 (by decide) ?_
      exact W.zret (v := 0) hx hb hr rfl (fun t ht hW => ⟨⟨0, [], rfl, Or.inr (⟨by omega, rfl, rfl⟩), by rw [ht]; exact hP.sub [] rfl, hD.sub [] (by decide) rfl⟩, hS.F ht⟩) hS.2.2 dX11_isHour_15
    ·
      have i_2 : p_v.toInt < 24 := by have z := g5_geN (a := p_v.toInt) (b := 24) (by rfl) (by decide) c_2; omega
      refine lv_iconst (v := 1) hx hb dX11_isHour_10 (by decide) ?_
      refine lv_goto (tgt := 15) hx hb dX11_isHour_11 (by decide) ?_
      exact W.zret (v := 1) hx hb hr rfl (fun t ht hW => ⟨⟨1, [], rfl, Or.inl (⟨by omega, rfl, rfl⟩), by rw [ht]; exact hP.sub [] rfl, hD.sub [] (by decide) rfl⟩, hS.F ht⟩) hS.2.2 dX11_isHour_15
set_option maxHeartbeats 4000000 in
set_option maxRecDepth 100000 in
theorem x_isSortX (l : Launch) (G : g5_G) (sz : Nat) (p_v : Int32) : Met l yX11_isSort (wsG yX11_isSort cX11_isSort 1 (some .boolean)) ({ frames := 0, cells := 0, slots := 0, locals := 0 }) (va_Pc [.int p_v] (g5_P G [] sz)) (va_Qi (fun (r : Int32) (u : va_W) => ((0 ≤ p_v.toInt ∧ p_v.toInt ≤ 5) ∧ (r = 1) ∧ (u = [])) ∨ ((p_v.toInt < 0 ∨ 5 < p_v.toInt) ∧ (r = 0) ∧ (u = []))) (g5_B G (va_A [] sz)) (va_A [] sz)) 0 0 (va_A [] sz) := by
  refine Met.ofW (cc := cX11_isSort) (maxL := 1) (ret := (some .boolean)) (by decide) rfl ?_
  intro p e s m args below meth c s₁ B hml hv
  obtain ⟨rfl, hsz, hP, hK, hD0, hN, hT⟩ := hv
  have hx := B.exec
  have hb := B.bytes
  have hr := B.returns
  have hts : ∀ w ∈ tblG, w.before _ s = true := fun w h => atoms_spec (ws := (wsG yX11_isSort cX11_isSort 1 (some .boolean))) B.pre w (List.mem_cons_of_mem _ h)
  have hown : s.vm.findClass RX11 = some m.cls := findClass_of_methodNamed B.named
  have hlocks := B.notSynchronized
  subst hsz
  have hD := hD0.self (sz := s.heap.size)
  generalize hAe : va_A [] s.heap.size = A at hD hT ⊢
  have hA : ∀ q : Nat, s.heap.size ≤ q → A q := fun q h => by rw [← hAe]; exact Or.inr h
  have hS : va_S A s.heap s.heap [] := va_S.rf
  have hP : va_P G.1 vwCl [] s.heap := hP
  have hl := lv_entry ([.int p_v]) (n := 1) (Nat.le_of_ble_eq_true rfl)
  rw [lg_entry_eq]
  generalize (lg_sl ([.int p_v]) ++ List.replicate (1 - (lg_sl ([.int p_v])).length) Slot.unset).toArray = ls at hl ⊢
  have hl : lv_has ls 1 [(0, .int p_v)] := hl
  refine lv_iload_n hx hb dX11_isSort_0 rfl (lv_at hl 0 rfl) ?_
  refine lv_if_lt (tgt := 14) hx hb dX11_isSort_1 (by decide) (fun c_1 => ?_) (fun c_1 => ?_)
  ·
    have i_1 : p_v.toInt < 0 := by have z := g5_lt (a := p_v.toInt) (b := 0) (by rfl) (by decide) c_1; omega
    refine lv_iconst (v := 0) hx hb dX11_isSort_14 (by decide) ?_
    exact W.zret (v := 0) hx hb hr rfl (fun t ht hW => ⟨⟨0, [], rfl, Or.inr (⟨by omega, rfl, rfl⟩), by rw [ht]; exact hP.sub [] rfl, hD.sub [] (by decide) rfl⟩, hS.F ht⟩) hS.2.2 dX11_isSort_15
  ·
    have i_1 : p_v.toInt ≥ 0 := by have z := g5_ltN (a := p_v.toInt) (b := 0) (by rfl) (by decide) c_1; omega
    refine lv_iload_n hx hb dX11_isSort_4 rfl (lv_at hl 0 rfl) ?_
    refine lv_bipush (v := 6) hx hb dX11_isSort_5 (by decide) ?_
    refine lv_icmp_ge (tgt := 14) hx hb dX11_isSort_7 (by decide) (fun c_2 => ?_) (fun c_2 => ?_)
    ·
      have i_2 : p_v.toInt ≥ 6 := by have z := g5_ge (a := p_v.toInt) (b := 6) (by rfl) (by decide) c_2; omega
      refine lv_iconst (v := 0) hx hb dX11_isSort_14 (by decide) ?_
      exact W.zret (v := 0) hx hb hr rfl (fun t ht hW => ⟨⟨0, [], rfl, Or.inr (⟨by omega, rfl, rfl⟩), by rw [ht]; exact hP.sub [] rfl, hD.sub [] (by decide) rfl⟩, hS.F ht⟩) hS.2.2 dX11_isSort_15
    ·
      have i_2 : p_v.toInt < 6 := by have z := g5_geN (a := p_v.toInt) (b := 6) (by rfl) (by decide) c_2; omega
      refine lv_iconst (v := 1) hx hb dX11_isSort_10 (by decide) ?_
      refine lv_goto (tgt := 15) hx hb dX11_isSort_11 (by decide) ?_
      exact W.zret (v := 1) hx hb hr rfl (fun t ht hW => ⟨⟨1, [], rfl, Or.inl (⟨by omega, rfl, rfl⟩), by rw [ht]; exact hP.sub [] rfl, hD.sub [] (by decide) rfl⟩, hS.F ht⟩) hS.2.2 dX11_isSort_15
set_option maxHeartbeats 4000000 in
set_option maxRecDepth 100000 in
theorem x_isDustX (l : Launch) (G : g5_G) (sz : Nat) (p_v : Int32) : Met l yX11_isDust (wsG yX11_isDust cX11_isDust 1 (some .boolean)) ({ frames := 0, cells := 0, slots := 0, locals := 0 }) (va_Pc [.int p_v] (g5_P G [] sz)) (va_Qi (fun (r : Int32) (u : va_W) => ((0 ≤ p_v.toInt ∧ p_v.toInt ≤ 10) ∧ (r = 1) ∧ (u = [])) ∨ ((p_v.toInt < 0 ∨ 10 < p_v.toInt) ∧ (r = 0) ∧ (u = []))) (g5_B G (va_A [] sz)) (va_A [] sz)) 0 0 (va_A [] sz) := by
  refine Met.ofW (cc := cX11_isDust) (maxL := 1) (ret := (some .boolean)) (by decide) rfl ?_
  intro p e s m args below meth c s₁ B hml hv
  obtain ⟨rfl, hsz, hP, hK, hD0, hN, hT⟩ := hv
  have hx := B.exec
  have hb := B.bytes
  have hr := B.returns
  have hts : ∀ w ∈ tblG, w.before _ s = true := fun w h => atoms_spec (ws := (wsG yX11_isDust cX11_isDust 1 (some .boolean))) B.pre w (List.mem_cons_of_mem _ h)
  have hown : s.vm.findClass RX11 = some m.cls := findClass_of_methodNamed B.named
  have hlocks := B.notSynchronized
  subst hsz
  have hD := hD0.self (sz := s.heap.size)
  generalize hAe : va_A [] s.heap.size = A at hD hT ⊢
  have hA : ∀ q : Nat, s.heap.size ≤ q → A q := fun q h => by rw [← hAe]; exact Or.inr h
  have hS : va_S A s.heap s.heap [] := va_S.rf
  have hP : va_P G.1 vwCl [] s.heap := hP
  have hl := lv_entry ([.int p_v]) (n := 1) (Nat.le_of_ble_eq_true rfl)
  rw [lg_entry_eq]
  generalize (lg_sl ([.int p_v]) ++ List.replicate (1 - (lg_sl ([.int p_v])).length) Slot.unset).toArray = ls at hl ⊢
  have hl : lv_has ls 1 [(0, .int p_v)] := hl
  refine lv_iload_n hx hb dX11_isDust_0 rfl (lv_at hl 0 rfl) ?_
  refine lv_if_lt (tgt := 14) hx hb dX11_isDust_1 (by decide) (fun c_1 => ?_) (fun c_1 => ?_)
  ·
    have i_1 : p_v.toInt < 0 := by have z := g5_lt (a := p_v.toInt) (b := 0) (by rfl) (by decide) c_1; omega
    refine lv_iconst (v := 0) hx hb dX11_isDust_14 (by decide) ?_
    exact W.zret (v := 0) hx hb hr rfl (fun t ht hW => ⟨⟨0, [], rfl, Or.inr (⟨by omega, rfl, rfl⟩), by rw [ht]; exact hP.sub [] rfl, hD.sub [] (by decide) rfl⟩, hS.F ht⟩) hS.2.2 dX11_isDust_15
  ·
    have i_1 : p_v.toInt ≥ 0 := by have z := g5_ltN (a := p_v.toInt) (b := 0) (by rfl) (by decide) c_1; omega
    refine lv_iload_n hx hb dX11_isDust_4 rfl (lv_at hl 0 rfl) ?_
    refine lv_bipush (v := 10) hx hb dX11_isDust_5 (by decide) ?_
    refine lv_icmp_gt (tgt := 14) hx hb dX11_isDust_7 (by decide) (fun c_2 => ?_) (fun c_2 => ?_)
    ·
      have i_2 : p_v.toInt > 10 := by have z := g5_gt (a := p_v.toInt) (b := 10) (by rfl) (by decide) c_2; omega
      refine lv_iconst (v := 0) hx hb dX11_isDust_14 (by decide) ?_
      exact W.zret (v := 0) hx hb hr rfl (fun t ht hW => ⟨⟨0, [], rfl, Or.inr (⟨by omega, rfl, rfl⟩), by rw [ht]; exact hP.sub [] rfl, hD.sub [] (by decide) rfl⟩, hS.F ht⟩) hS.2.2 dX11_isDust_15
    ·
      have i_2 : p_v.toInt ≤ 10 := by have z := g5_gtN (a := p_v.toInt) (b := 10) (by rfl) (by decide) c_2; omega
      refine lv_iconst (v := 1) hx hb dX11_isDust_10 (by decide) ?_
      refine lv_goto (tgt := 15) hx hb dX11_isDust_11 (by decide) ?_
      exact W.zret (v := 1) hx hb hr rfl (fun t ht hW => ⟨⟨1, [], rfl, Or.inl (⟨by omega, rfl, rfl⟩), by rw [ht]; exact hP.sub [] rfl, hD.sub [] (by decide) rfl⟩, hS.F ht⟩) hS.2.2 dX11_isDust_15
set_option maxHeartbeats 4000000 in
set_option maxRecDepth 100000 in
theorem x_isFlagX (l : Launch) (G : g5_G) (sz : Nat) (p_v : Int32) : Met l yX11_isFlag (wsG yX11_isFlag cX11_isFlag 1 (some .boolean)) ({ frames := 0, cells := 0, slots := 0, locals := 0 }) (va_Pc [.int p_v] (g5_P G [] sz)) (va_Qi (fun (r : Int32) (u : va_W) => ((0 ≤ p_v.toInt ∧ p_v.toInt ≤ 1) ∧ (r = 1) ∧ (u = [])) ∨ ((p_v.toInt < 0 ∨ 1 < p_v.toInt) ∧ (r = 0) ∧ (u = []))) (g5_B G (va_A [] sz)) (va_A [] sz)) 0 0 (va_A [] sz) := by
  refine Met.ofW (cc := cX11_isFlag) (maxL := 1) (ret := (some .boolean)) (by decide) rfl ?_
  intro p e s m args below meth c s₁ B hml hv
  obtain ⟨rfl, hsz, hP, hK, hD0, hN, hT⟩ := hv
  have hx := B.exec
  have hb := B.bytes
  have hr := B.returns
  have hts : ∀ w ∈ tblG, w.before _ s = true := fun w h => atoms_spec (ws := (wsG yX11_isFlag cX11_isFlag 1 (some .boolean))) B.pre w (List.mem_cons_of_mem _ h)
  have hown : s.vm.findClass RX11 = some m.cls := findClass_of_methodNamed B.named
  have hlocks := B.notSynchronized
  subst hsz
  have hD := hD0.self (sz := s.heap.size)
  generalize hAe : va_A [] s.heap.size = A at hD hT ⊢
  have hA : ∀ q : Nat, s.heap.size ≤ q → A q := fun q h => by rw [← hAe]; exact Or.inr h
  have hS : va_S A s.heap s.heap [] := va_S.rf
  have hP : va_P G.1 vwCl [] s.heap := hP
  have hl := lv_entry ([.int p_v]) (n := 1) (Nat.le_of_ble_eq_true rfl)
  rw [lg_entry_eq]
  generalize (lg_sl ([.int p_v]) ++ List.replicate (1 - (lg_sl ([.int p_v])).length) Slot.unset).toArray = ls at hl ⊢
  have hl : lv_has ls 1 [(0, .int p_v)] := hl
  refine lv_iload_n hx hb dX11_isFlag_0 rfl (lv_at hl 0 rfl) ?_
  refine lv_if_eq (tgt := 9) hx hb dX11_isFlag_1 (by decide) (fun c_1 => ?_) (fun c_1 => ?_)
  ·
    have i_1 : p_v.toInt = 0 := by have z := g5_eq (a := p_v.toInt) (b := 0) (by rfl) (by decide) c_1; omega
    refine lv_iconst (v := 1) hx hb dX11_isFlag_9 (by decide) ?_
    refine lv_goto (tgt := 14) hx hb dX11_isFlag_10 (by decide) ?_
    exact W.zret (v := 1) hx hb hr rfl (fun t ht hW => ⟨⟨1, [], rfl, Or.inl (⟨by omega, rfl, rfl⟩), by rw [ht]; exact hP.sub [] rfl, hD.sub [] (by decide) rfl⟩, hS.F ht⟩) hS.2.2 dX11_isFlag_14
  ·
    have n_1 : gNe (p_v.toInt) (0) := by have z := g5_eqN (a := p_v.toInt) (b := 0) (by rfl) (by decide) c_1; unfold gNe; omega
    refine lv_iload_n hx hb dX11_isFlag_4 rfl (lv_at hl 0 rfl) ?_
    refine lv_iconst (v := 1) hx hb dX11_isFlag_5 (by decide) ?_
    refine lv_icmp_ne (tgt := 13) hx hb dX11_isFlag_6 (by decide) (fun c_2 => ?_) (fun c_2 => ?_)
    ·
      have n_2 : gNe (p_v.toInt) (1) := by have z := g5_ne (a := p_v.toInt) (b := 1) (by rfl) (by decide) c_2; unfold gNe; omega
      refine lv_iconst (v := 0) hx hb dX11_isFlag_13 (by decide) ?_
      exact W.zret (v := 0) hx hb hr rfl (fun t ht hW => ⟨⟨0, [], rfl, Or.inr (⟨by have q0_ : ¬ (p_v.toInt = 0) := n_1; have q1_ : ¬ (p_v.toInt = 1) := n_2; omega, rfl, rfl⟩), by rw [ht]; exact hP.sub [] rfl, hD.sub [] (by decide) rfl⟩, hS.F ht⟩) hS.2.2 dX11_isFlag_14
    ·
      have i_2 : p_v.toInt = 1 := by have z := g5_neN (a := p_v.toInt) (b := 1) (by rfl) (by decide) c_2; omega
      refine lv_iconst (v := 1) hx hb dX11_isFlag_9 (by decide) ?_
      refine lv_goto (tgt := 14) hx hb dX11_isFlag_10 (by decide) ?_
      exact W.zret (v := 1) hx hb hr rfl (fun t ht hW => ⟨⟨1, [], rfl, Or.inl (⟨by omega, rfl, rfl⟩), by rw [ht]; exact hP.sub [] rfl, hD.sub [] (by decide) rfl⟩, hS.F ht⟩) hS.2.2 dX11_isFlag_14
set_option maxHeartbeats 4000000 in
set_option maxRecDepth 100000 in
theorem x_isStayX (l : Launch) (G : g5_G) (sz : Nat) (p_f : Int32) (p_t : Int32) (p_c : Int32) : Met l yX11_isStay (wsG yX11_isStay cX11_isStay 3 (some .boolean)) ({ frames := 1, cells := 0, slots := 0, locals := 20 }) (va_Pc [.int p_f, .int p_t, .int p_c] (g5_P G [] sz)) (va_Qi (fun (r : Int32) (u : va_W) => ((0 ≤ p_f.toInt ∧ p_f.toInt ≤ 23) ∧ (0 ≤ p_t.toInt ∧ p_t.toInt ≤ 23) ∧ (-1 ≤ p_c.toInt ∧ p_c.toInt ≤ 63) ∧ (p_f.toInt ≤ p_t.toInt) ∧ (okS p_f p_t p_c) ∧ (r = 1) ∧ (u = [])) ∨ ((¬ okS p_f p_t p_c) ∧ (r = 0) ∧ (u = []))) (g5_B G (va_A [] sz)) (va_A [] sz)) 0 0 (va_A [] sz) := by
  refine Met.ofW (cc := cX11_isStay) (maxL := 3) (ret := (some .boolean)) (by decide) rfl ?_
  intro p e s m args below meth c s₁ B hml hv
  obtain ⟨rfl, hsz, hP, hK, hD0, hN, hT⟩ := hv
  have hx := B.exec
  have hb := B.bytes
  have hr := B.returns
  have hts : ∀ w ∈ tblG, w.before _ s = true := fun w h => atoms_spec (ws := (wsG yX11_isStay cX11_isStay 3 (some .boolean))) B.pre w (List.mem_cons_of_mem _ h)
  have hown : s.vm.findClass RX11 = some m.cls := findClass_of_methodNamed B.named
  have hlocks := B.notSynchronized
  subst hsz
  have hD := hD0.self (sz := s.heap.size)
  generalize hAe : va_A [] s.heap.size = A at hD hT ⊢
  have hA : ∀ q : Nat, s.heap.size ≤ q → A q := fun q h => by rw [← hAe]; exact Or.inr h
  have hS : va_S A s.heap s.heap [] := va_S.rf
  have hP : va_P G.1 vwCl [] s.heap := hP
  have hl := lv_entry ([.int p_f, .int p_t, .int p_c]) (n := 3) (Nat.le_of_ble_eq_true rfl)
  rw [lg_entry_eq]
  generalize (lg_sl ([.int p_f, .int p_t, .int p_c]) ++ List.replicate (3 - (lg_sl ([.int p_f, .int p_t, .int p_c])).length) Slot.unset).toArray = ls at hl ⊢
  have hl : lv_has ls 3 [(0, .int p_f), (1, .int p_t), (2, .int p_c)] := hl
  refine lv_iload_n hx hb dX11_isStay_0 rfl (lv_at hl 0 rfl) ?_
  obtain ⟨hPc, hDc, hFc⟩ := g5_sub3 (wc := []) hP hD hS hA [] (by decide) rfl
  refine va_calli (va_runS (As := [.int p_f]) (rest := []) ⟨hx, hb, hml, hown, hts⟩ (x_isHourX l G s.heap.size p_f) (va_cwS 1 hts gS_X11_127 rfl rfl rfl hs_X11_isHour ⟨Nat.le_of_ble_eq_true rfl, Nat.le_of_ble_eq_true rfl⟩) (g5_preS hPc hK hDc hN hT hS hFc) rfl rfl hl.1 rfl (lv_room (Nat.le_of_ble_eq_true rfl)) dX11_isStay_1 ⟨Nat.le_of_ble_eq_true rfl, Nat.le_of_ble_eq_true rfl⟩) hS (fun q _ h => hFc q h) hFc (fun r u t H1 locs ht hvm hw hB hz1 hk1 hS => ?_)
  obtain ⟨hP1, hD1⟩ := hB
  rw [ht] at hP1
  rcases hw with ⟨i_1, rfl, rfl⟩ | ⟨i_2, rfl, rfl⟩
  ·
    have i_1 : 0 ≤ p_f.toInt ∧ p_f.toInt ≤ 23 := i_1
    have hP := g5_same hP hk1
    generalize H1 = H at hP hS ⊢
    refine lv_if_eq (tgt := 30) hx hb dX11_isStay_4 (by decide) (fun c_3 => ?_) (fun c_3 => ?_)
    ·
      exact absurd c_3 (by decide)
    ·
      refine lv_iload_n hx hb dX11_isStay_7 rfl (lv_at hl 1 rfl) ?_
      obtain ⟨hPc, hDc, hFc⟩ := g5_sub3 (wc := []) hP hD hS hA [] (by decide) rfl
      refine va_calli (va_runS (As := [.int p_t]) (rest := []) ⟨hx, hb, hml, hown, hts⟩ (x_isHourX l G H.size p_t) (va_cwS 1 hts gS_X11_127 rfl rfl rfl hs_X11_isHour ⟨Nat.le_of_ble_eq_true rfl, Nat.le_of_ble_eq_true rfl⟩) (g5_preS hPc hK hDc hN hT hS hFc) rfl rfl hl.1 rfl (lv_room (Nat.le_of_ble_eq_true rfl)) dX11_isStay_8 ⟨Nat.le_of_ble_eq_true rfl, Nat.le_of_ble_eq_true rfl⟩) hS (fun q _ h => hFc q h) hFc (fun r u t H1 locs ht hvm hw hB hz1 hk1 hS => ?_)
      obtain ⟨hP1, hD1⟩ := hB
      rw [ht] at hP1
      rcases hw with ⟨i_4, rfl, rfl⟩ | ⟨i_5, rfl, rfl⟩
      ·
        have i_4 : 0 ≤ p_t.toInt ∧ p_t.toInt ≤ 23 := i_4
        have hP := g5_same hP hk1
        generalize H1 = H at hP hS ⊢
        refine lv_if_eq (tgt := 30) hx hb dX11_isStay_11 (by decide) (fun c_6 => ?_) (fun c_6 => ?_)
        ·
          exact absurd c_6 (by decide)
        ·
          refine lv_iload_n hx hb dX11_isStay_14 rfl (lv_at hl 1 rfl) ?_
          refine lv_iload_n hx hb dX11_isStay_15 rfl (lv_at hl 0 rfl) ?_
          refine lv_icmp_lt (tgt := 30) hx hb dX11_isStay_16 (by decide) (fun c_7 => ?_) (fun c_7 => ?_)
          ·
            have i_7 : p_t.toInt < p_f.toInt := by have z := g5_lt (a := p_t.toInt) (b := p_f.toInt) (by rfl) (by rfl) c_7; omega
            refine lv_iconst (v := 0) hx hb dX11_isStay_30 (by decide) ?_
            exact W.zret (v := 0) hx hb hr rfl (fun t ht hW => ⟨⟨0, [], rfl, Or.inr (⟨by unfold okS; omega, rfl, rfl⟩), by rw [ht]; exact hP.sub [] rfl, hD.sub [] (by decide) rfl⟩, hS.F ht⟩) hS.2.2 dX11_isStay_31
          ·
            have i_7 : p_t.toInt ≥ p_f.toInt := by have z := g5_ltN (a := p_t.toInt) (b := p_f.toInt) (by rfl) (by rfl) c_7; omega
            refine lv_iload_n hx hb dX11_isStay_19 rfl (lv_at hl 2 rfl) ?_
            obtain ⟨hPc, hDc, hFc⟩ := g5_sub3 (wc := []) hP hD hS hA [] (by decide) rfl
            refine va_calli (va_runS (As := [.int p_c]) (rest := []) ⟨hx, hb, hml, hown, hts⟩ (x_isCellOrNoneX l G H.size p_c) (va_cwS 1 hts gS_X11_241 rfl rfl rfl hs_X11_isCellOrNone ⟨Nat.le_of_ble_eq_true rfl, Nat.le_of_ble_eq_true rfl⟩) (g5_preS hPc hK hDc hN hT hS hFc) rfl rfl hl.1 rfl (lv_room (Nat.le_of_ble_eq_true rfl)) dX11_isStay_20 ⟨Nat.le_of_ble_eq_true rfl, Nat.le_of_ble_eq_true rfl⟩) hS (fun q _ h => hFc q h) hFc (fun r u t H1 locs ht hvm hw hB hz1 hk1 hS => ?_)
            obtain ⟨hP1, hD1⟩ := hB
            rw [ht] at hP1
            rcases hw with ⟨i_8, rfl, rfl⟩ | ⟨i_9, rfl, rfl⟩
            ·
              have i_8 : (-1) ≤ p_c.toInt ∧ p_c.toInt ≤ 63 := i_8
              have hP := g5_same hP hk1
              generalize H1 = H at hP hS ⊢
              refine lv_if_eq (tgt := 30) hx hb dX11_isStay_23 (by decide) (fun c_10 => ?_) (fun c_10 => ?_)
              ·
                exact absurd c_10 (by decide)
              ·
                refine lv_iconst (v := 1) hx hb dX11_isStay_26 (by decide) ?_
                refine lv_goto (tgt := 31) hx hb dX11_isStay_27 (by decide) ?_
                exact W.zret (v := 1) hx hb hr rfl (fun t ht hW => ⟨⟨1, [], rfl, Or.inl (⟨i_1, i_4, by omega, by omega, by unfold okS; omega, rfl, rfl⟩), by rw [ht]; exact hP.sub [] rfl, hD.sub [] (by decide) rfl⟩, hS.F ht⟩) hS.2.2 dX11_isStay_31
            ·
              have i_9 : p_c.toInt < (-1) ∨ 63 < p_c.toInt := i_9
              have hP := g5_same hP hk1
              generalize H1 = H at hP hS ⊢
              refine lv_if_eq (tgt := 30) hx hb dX11_isStay_23 (by decide) (fun c_11 => ?_) (fun c_11 => ?_)
              ·
                refine lv_iconst (v := 0) hx hb dX11_isStay_30 (by decide) ?_
                exact W.zret (v := 0) hx hb hr rfl (fun t ht hW => ⟨⟨0, [], rfl, Or.inr (⟨by unfold okS; omega, rfl, rfl⟩), by rw [ht]; exact hP.sub [] rfl, hD.sub [] (by decide) rfl⟩, hS.F ht⟩) hS.2.2 dX11_isStay_31
              ·
                exact absurd c_11 (by decide)
      ·
        have i_5 : p_t.toInt < 0 ∨ 23 < p_t.toInt := i_5
        have hP := g5_same hP hk1
        generalize H1 = H at hP hS ⊢
        refine lv_if_eq (tgt := 30) hx hb dX11_isStay_11 (by decide) (fun c_12 => ?_) (fun c_12 => ?_)
        ·
          refine lv_iconst (v := 0) hx hb dX11_isStay_30 (by decide) ?_
          exact W.zret (v := 0) hx hb hr rfl (fun t ht hW => ⟨⟨0, [], rfl, Or.inr (⟨by unfold okS; omega, rfl, rfl⟩), by rw [ht]; exact hP.sub [] rfl, hD.sub [] (by decide) rfl⟩, hS.F ht⟩) hS.2.2 dX11_isStay_31
        ·
          exact absurd c_12 (by decide)
  ·
    have i_2 : p_f.toInt < 0 ∨ 23 < p_f.toInt := i_2
    have hP := g5_same hP hk1
    generalize H1 = H at hP hS ⊢
    refine lv_if_eq (tgt := 30) hx hb dX11_isStay_4 (by decide) (fun c_13 => ?_) (fun c_13 => ?_)
    ·
      refine lv_iconst (v := 0) hx hb dX11_isStay_30 (by decide) ?_
      exact W.zret (v := 0) hx hb hr rfl (fun t ht hW => ⟨⟨0, [], rfl, Or.inr (⟨by unfold okS; omega, rfl, rfl⟩), by rw [ht]; exact hP.sub [] rfl, hD.sub [] (by decide) rfl⟩, hS.F ht⟩) hS.2.2 dX11_isStay_31
    ·
      exact absurd c_13 (by decide)
set_option maxHeartbeats 4000000 in
set_option maxRecDepth 100000 in
theorem x_isTurnX (l : Launch) (G : g5_G) (sz : Nat) (p_w : Int32) (p_v : Int32) : Met l yX11_isTurn (wsG yX11_isTurn cX11_isTurn 2 (some .boolean)) ({ frames := 1, cells := 0, slots := 0, locals := 20 }) (va_Pc [.int p_w, .int p_v] (g5_P G [] sz)) (va_Qi (fun (r : Int32) (u : va_W) => ((okT p_w p_v) ∧ (0 ≤ p_w.toInt ∧ p_w.toInt ≤ 3) ∧ (r = 1) ∧ (u = [])) ∨ ((¬ okT p_w p_v) ∧ (r = 0) ∧ (u = []))) (g5_B G (va_A [] sz)) (va_A [] sz)) 0 0 (va_A [] sz) := by
  refine Met.ofW (cc := cX11_isTurn) (maxL := 2) (ret := (some .boolean)) (by decide) rfl ?_
  intro p e s m args below meth c s₁ B hml hv
  obtain ⟨rfl, hsz, hP, hK, hD0, hN, hT⟩ := hv
  have hx := B.exec
  have hb := B.bytes
  have hr := B.returns
  have hts : ∀ w ∈ tblG, w.before _ s = true := fun w h => atoms_spec (ws := (wsG yX11_isTurn cX11_isTurn 2 (some .boolean))) B.pre w (List.mem_cons_of_mem _ h)
  have hown : s.vm.findClass RX11 = some m.cls := findClass_of_methodNamed B.named
  have hlocks := B.notSynchronized
  subst hsz
  have hD := hD0.self (sz := s.heap.size)
  generalize hAe : va_A [] s.heap.size = A at hD hT ⊢
  have hA : ∀ q : Nat, s.heap.size ≤ q → A q := fun q h => by rw [← hAe]; exact Or.inr h
  have hS : va_S A s.heap s.heap [] := va_S.rf
  have hP : va_P G.1 vwCl [] s.heap := hP
  have hl := lv_entry ([.int p_w, .int p_v]) (n := 2) (Nat.le_of_ble_eq_true rfl)
  rw [lg_entry_eq]
  generalize (lg_sl ([.int p_w, .int p_v]) ++ List.replicate (2 - (lg_sl ([.int p_w, .int p_v])).length) Slot.unset).toArray = ls at hl ⊢
  have hl : lv_has ls 2 [(0, .int p_w), (1, .int p_v)] := hl
  refine lv_iload_n hx hb dX11_isTurn_0 rfl (lv_at hl 0 rfl) ?_
  refine lv_iconst (v := 1) hx hb dX11_isTurn_1 (by decide) ?_
  refine lv_iadd hx hb dX11_isTurn_2 ?_
  have hw_1 := g_inc2 p_w
  rcases (show (p_w + 1).toInt = 1 ∨ (p_w + 1).toInt = 2 ∨ (p_w + 1).toInt = 3 ∨ (p_w + 1).toInt = 4 ∨ (p_w + 1).toInt < 1 ∨ (p_w + 1).toInt > 4 by omega) with s_2 | s_2 | s_2 | s_2 | s_2 | s_2
  ·
    have i_2 : (p_w + 1).toInt = 1 := by omega
    refine lv_tableIn (tgt := 32) hx hb dX11_isTurn_3 (by omega) (by omega) (by rw [s_2]; rfl) (by decide) ?_
    refine lv_iload_n hx hb dX11_isTurn_32 rfl (lv_at hl 1 rfl) ?_
    obtain ⟨hPc, hDc, hFc⟩ := g5_sub3 (wc := []) hP hD hS hA [] (by decide) rfl
    refine va_calli (va_runS (As := [.int p_v]) (rest := []) ⟨hx, hb, hml, hown, hts⟩ (x_isSortX l G s.heap.size p_v) (va_cwS 1 hts gS_X11_124 rfl rfl rfl hs_X11_isSort ⟨Nat.le_of_ble_eq_true rfl, Nat.le_of_ble_eq_true rfl⟩) (g5_preS hPc hK hDc hN hT hS hFc) rfl rfl hl.1 rfl (lv_room (Nat.le_of_ble_eq_true rfl)) dX11_isTurn_33 ⟨Nat.le_of_ble_eq_true rfl, Nat.le_of_ble_eq_true rfl⟩) hS (fun q _ h => hFc q h) hFc (fun r u t H1 locs ht hvm hw hB hz1 hk1 hS => ?_)
    obtain ⟨hP1, hD1⟩ := hB
    rw [ht] at hP1
    rcases hw with ⟨i_3, rfl, rfl⟩ | ⟨i_4, rfl, rfl⟩
    ·
      have i_3 : 0 ≤ p_v.toInt ∧ p_v.toInt ≤ 5 := i_3
      have hP := g5_same hP hk1
      generalize H1 = H at hP hS ⊢
      exact W.zret (v := 1) hx hb hr rfl (fun t ht hW => ⟨⟨1, [], rfl, Or.inl (⟨by unfold okT; omega, by omega, rfl, rfl⟩), by rw [ht]; exact hP.sub [] rfl, hD.sub [] (by decide) rfl⟩, hS.F ht⟩) hS.2.2 dX11_isTurn_36
    ·
      have i_4 : p_v.toInt < 0 ∨ 5 < p_v.toInt := i_4
      have hP := g5_same hP hk1
      generalize H1 = H at hP hS ⊢
      exact W.zret (v := 0) hx hb hr rfl (fun t ht hW => ⟨⟨0, [], rfl, Or.inr (⟨by unfold okT; omega, rfl, rfl⟩), by rw [ht]; exact hP.sub [] rfl, hD.sub [] (by decide) rfl⟩, hS.F ht⟩) hS.2.2 dX11_isTurn_36
  ·
    have i_2 : (p_w + 1).toInt = 2 := by omega
    refine lv_tableIn (tgt := 37) hx hb dX11_isTurn_3 (by omega) (by omega) (by rw [s_2]; rfl) (by decide) ?_
    refine lv_iload_n hx hb dX11_isTurn_37 rfl (lv_at hl 1 rfl) ?_
    obtain ⟨hPc, hDc, hFc⟩ := g5_sub3 (wc := []) hP hD hS hA [] (by decide) rfl
    refine va_calli (va_runS (As := [.int p_v]) (rest := []) ⟨hx, hb, hml, hown, hts⟩ (x_isHourX l G s.heap.size p_v) (va_cwS 1 hts gS_X11_127 rfl rfl rfl hs_X11_isHour ⟨Nat.le_of_ble_eq_true rfl, Nat.le_of_ble_eq_true rfl⟩) (g5_preS hPc hK hDc hN hT hS hFc) rfl rfl hl.1 rfl (lv_room (Nat.le_of_ble_eq_true rfl)) dX11_isTurn_38 ⟨Nat.le_of_ble_eq_true rfl, Nat.le_of_ble_eq_true rfl⟩) hS (fun q _ h => hFc q h) hFc (fun r u t H1 locs ht hvm hw hB hz1 hk1 hS => ?_)
    obtain ⟨hP1, hD1⟩ := hB
    rw [ht] at hP1
    rcases hw with ⟨i_5, rfl, rfl⟩ | ⟨i_6, rfl, rfl⟩
    ·
      have i_5 : 0 ≤ p_v.toInt ∧ p_v.toInt ≤ 23 := i_5
      have hP := g5_same hP hk1
      generalize H1 = H at hP hS ⊢
      exact W.zret (v := 1) hx hb hr rfl (fun t ht hW => ⟨⟨1, [], rfl, Or.inl (⟨by unfold okT; omega, by omega, rfl, rfl⟩), by rw [ht]; exact hP.sub [] rfl, hD.sub [] (by decide) rfl⟩, hS.F ht⟩) hS.2.2 dX11_isTurn_41
    ·
      have i_6 : p_v.toInt < 0 ∨ 23 < p_v.toInt := i_6
      have hP := g5_same hP hk1
      generalize H1 = H at hP hS ⊢
      exact W.zret (v := 0) hx hb hr rfl (fun t ht hW => ⟨⟨0, [], rfl, Or.inr (⟨by unfold okT; omega, rfl, rfl⟩), by rw [ht]; exact hP.sub [] rfl, hD.sub [] (by decide) rfl⟩, hS.F ht⟩) hS.2.2 dX11_isTurn_41
  ·
    have i_2 : (p_w + 1).toInt = 3 := by omega
    refine lv_tableIn (tgt := 42) hx hb dX11_isTurn_3 (by omega) (by omega) (by rw [s_2]; rfl) (by decide) ?_
    refine lv_iload_n hx hb dX11_isTurn_42 rfl (lv_at hl 1 rfl) ?_
    obtain ⟨hPc, hDc, hFc⟩ := g5_sub3 (wc := []) hP hD hS hA [] (by decide) rfl
    refine va_calli (va_runS (As := [.int p_v]) (rest := []) ⟨hx, hb, hml, hown, hts⟩ (x_isDustX l G s.heap.size p_v) (va_cwS 1 hts gS_X11_130 rfl rfl rfl hs_X11_isDust ⟨Nat.le_of_ble_eq_true rfl, Nat.le_of_ble_eq_true rfl⟩) (g5_preS hPc hK hDc hN hT hS hFc) rfl rfl hl.1 rfl (lv_room (Nat.le_of_ble_eq_true rfl)) dX11_isTurn_43 ⟨Nat.le_of_ble_eq_true rfl, Nat.le_of_ble_eq_true rfl⟩) hS (fun q _ h => hFc q h) hFc (fun r u t H1 locs ht hvm hw hB hz1 hk1 hS => ?_)
    obtain ⟨hP1, hD1⟩ := hB
    rw [ht] at hP1
    rcases hw with ⟨i_7, rfl, rfl⟩ | ⟨i_8, rfl, rfl⟩
    ·
      have i_7 : 0 ≤ p_v.toInt ∧ p_v.toInt ≤ 10 := i_7
      have hP := g5_same hP hk1
      generalize H1 = H at hP hS ⊢
      exact W.zret (v := 1) hx hb hr rfl (fun t ht hW => ⟨⟨1, [], rfl, Or.inl (⟨by unfold okT; omega, by omega, rfl, rfl⟩), by rw [ht]; exact hP.sub [] rfl, hD.sub [] (by decide) rfl⟩, hS.F ht⟩) hS.2.2 dX11_isTurn_46
    ·
      have i_8 : p_v.toInt < 0 ∨ 10 < p_v.toInt := i_8
      have hP := g5_same hP hk1
      generalize H1 = H at hP hS ⊢
      exact W.zret (v := 0) hx hb hr rfl (fun t ht hW => ⟨⟨0, [], rfl, Or.inr (⟨by unfold okT; omega, rfl, rfl⟩), by rw [ht]; exact hP.sub [] rfl, hD.sub [] (by decide) rfl⟩, hS.F ht⟩) hS.2.2 dX11_isTurn_46
  ·
    have i_2 : (p_w + 1).toInt = 4 := by omega
    refine lv_tableIn (tgt := 47) hx hb dX11_isTurn_3 (by omega) (by omega) (by rw [s_2]; rfl) (by decide) ?_
    refine lv_iload_n hx hb dX11_isTurn_47 rfl (lv_at hl 1 rfl) ?_
    refine lv_if_lt (tgt := 62) hx hb dX11_isTurn_48 (by decide) (fun c_9 => ?_) (fun c_9 => ?_)
    ·
      have i_9 : p_v.toInt < 0 := by have z := g5_lt (a := p_v.toInt) (b := 0) (by rfl) (by decide) c_9; omega
      refine lv_iconst (v := 0) hx hb dX11_isTurn_62 (by decide) ?_
      exact W.zret (v := 0) hx hb hr rfl (fun t ht hW => ⟨⟨0, [], rfl, Or.inr (⟨by unfold okT; omega, rfl, rfl⟩), by rw [ht]; exact hP.sub [] rfl, hD.sub [] (by decide) rfl⟩, hS.F ht⟩) hS.2.2 dX11_isTurn_63
    ·
      have i_9 : p_v.toInt ≥ 0 := by have z := g5_ltN (a := p_v.toInt) (b := 0) (by rfl) (by decide) c_9; omega
      refine lv_iload_n hx hb dX11_isTurn_51 rfl (lv_at hl 1 rfl) ?_
      refine lv_ldcw (v := 16777216) hx hb hown (hts _ ki_X11_357) dX11_isTurn_52 ?_
      refine lv_icmp_ge (tgt := 62) hx hb dX11_isTurn_55 (by decide) (fun c_10 => ?_) (fun c_10 => ?_)
      ·
        have i_10 : p_v.toInt ≥ 16777216 := by have z := g5_ge (a := p_v.toInt) (b := 16777216) (by rfl) (by decide) c_10; omega
        refine lv_iconst (v := 0) hx hb dX11_isTurn_62 (by decide) ?_
        exact W.zret (v := 0) hx hb hr rfl (fun t ht hW => ⟨⟨0, [], rfl, Or.inr (⟨by unfold okT; omega, rfl, rfl⟩), by rw [ht]; exact hP.sub [] rfl, hD.sub [] (by decide) rfl⟩, hS.F ht⟩) hS.2.2 dX11_isTurn_63
      ·
        have i_10 : p_v.toInt < 16777216 := by have z := g5_geN (a := p_v.toInt) (b := 16777216) (by rfl) (by decide) c_10; omega
        refine lv_iconst (v := 1) hx hb dX11_isTurn_58 (by decide) ?_
        refine lv_goto (tgt := 63) hx hb dX11_isTurn_59 (by decide) ?_
        exact W.zret (v := 1) hx hb hr rfl (fun t ht hW => ⟨⟨1, [], rfl, Or.inl (⟨by unfold okT; omega, by omega, rfl, rfl⟩), by rw [ht]; exact hP.sub [] rfl, hD.sub [] (by decide) rfl⟩, hS.F ht⟩) hS.2.2 dX11_isTurn_63
  ·
    have i_2 : (p_w + 1).toInt < 1 := by omega
    refine lv_tableOut (tgt := 64) hx hb dX11_isTurn_3 (by omega) (by decide) ?_
    refine lv_iconst (v := 0) hx hb dX11_isTurn_64 (by decide) ?_
    exact W.zret (v := 0) hx hb hr rfl (fun t ht hW => ⟨⟨0, [], rfl, Or.inr (⟨by unfold okT; omega, rfl, rfl⟩), by rw [ht]; exact hP.sub [] rfl, hD.sub [] (by decide) rfl⟩, hS.F ht⟩) hS.2.2 dX11_isTurn_65
  ·
    have i_2 : (p_w + 1).toInt > 4 := by omega
    refine lv_tableOut (tgt := 64) hx hb dX11_isTurn_3 (by omega) (by decide) ?_
    refine lv_iconst (v := 0) hx hb dX11_isTurn_64 (by decide) ?_
    exact W.zret (v := 0) hx hb hr rfl (fun t ht hW => ⟨⟨0, [], rfl, Or.inr (⟨by unfold okT; omega, rfl, rfl⟩), by rw [ht]; exact hP.sub [] rfl, hD.sub [] (by decide) rfl⟩, hS.F ht⟩) hS.2.2 dX11_isTurn_65
set_option maxHeartbeats 4000000 in
set_option maxRecDepth 100000 in
theorem x_isLookX (l : Launch) (G : g5_G) (sz : Nat) (p_c : Int32) (p_w : Int32) (p_h : Int32) : Met l yX11_isLook (wsG yX11_isLook cX11_isLook 3 (some .boolean)) ({ frames := 1, cells := 0, slots := 0, locals := 20 }) (va_Pc [.int p_c, .int p_w, .int p_h] (g5_P G [] sz)) (va_Qi (fun (r : Int32) (u : va_W) => ((okL p_c p_w p_h) ∧ (0 ≤ p_c.toInt ∧ p_c.toInt ≤ 63) ∧ (0 ≤ p_w.toInt ∧ p_w.toInt ≤ 3) ∧ (0 ≤ p_h.toInt ∧ p_h.toInt ≤ 23) ∧ (r = 1) ∧ (u = [])) ∨ ((¬ okL p_c p_w p_h) ∧ (r = 0) ∧ (u = []))) (g5_B G (va_A [] sz)) (va_A [] sz)) 0 0 (va_A [] sz) := by
  refine Met.ofW (cc := cX11_isLook) (maxL := 3) (ret := (some .boolean)) (by decide) rfl ?_
  intro p e s m args below meth c s₁ B hml hv
  obtain ⟨rfl, hsz, hP, hK, hD0, hN, hT⟩ := hv
  have hx := B.exec
  have hb := B.bytes
  have hr := B.returns
  have hts : ∀ w ∈ tblG, w.before _ s = true := fun w h => atoms_spec (ws := (wsG yX11_isLook cX11_isLook 3 (some .boolean))) B.pre w (List.mem_cons_of_mem _ h)
  have hown : s.vm.findClass RX11 = some m.cls := findClass_of_methodNamed B.named
  have hlocks := B.notSynchronized
  subst hsz
  have hD := hD0.self (sz := s.heap.size)
  generalize hAe : va_A [] s.heap.size = A at hD hT ⊢
  have hA : ∀ q : Nat, s.heap.size ≤ q → A q := fun q h => by rw [← hAe]; exact Or.inr h
  have hS : va_S A s.heap s.heap [] := va_S.rf
  have hP : va_P G.1 vwCl [] s.heap := hP
  have hl := lv_entry ([.int p_c, .int p_w, .int p_h]) (n := 3) (Nat.le_of_ble_eq_true rfl)
  rw [lg_entry_eq]
  generalize (lg_sl ([.int p_c, .int p_w, .int p_h]) ++ List.replicate (3 - (lg_sl ([.int p_c, .int p_w, .int p_h])).length) Slot.unset).toArray = ls at hl ⊢
  have hl : lv_has ls 3 [(0, .int p_c), (1, .int p_w), (2, .int p_h)] := hl
  refine lv_iload_n hx hb dX11_isLook_0 rfl (lv_at hl 0 rfl) ?_
  obtain ⟨hPc, hDc, hFc⟩ := g5_sub3 (wc := []) hP hD hS hA [] (by decide) rfl
  refine va_calli (va_runS (As := [.int p_c]) (rest := []) ⟨hx, hb, hml, hown, hts⟩ (x_isCellX l G s.heap.size p_c) (va_cwS 1 hts gS_X11_97 rfl rfl rfl hs_X11_isCell ⟨Nat.le_of_ble_eq_true rfl, Nat.le_of_ble_eq_true rfl⟩) (g5_preS hPc hK hDc hN hT hS hFc) rfl rfl hl.1 rfl (lv_room (Nat.le_of_ble_eq_true rfl)) dX11_isLook_1 ⟨Nat.le_of_ble_eq_true rfl, Nat.le_of_ble_eq_true rfl⟩) hS (fun q _ h => hFc q h) hFc (fun r u t H1 locs ht hvm hw hB hz1 hk1 hS => ?_)
  obtain ⟨hP1, hD1⟩ := hB
  rw [ht] at hP1
  rcases hw with ⟨i_1, rfl, rfl⟩ | ⟨i_2, rfl, rfl⟩
  ·
    have i_1 : 0 ≤ p_c.toInt ∧ p_c.toInt ≤ 63 := i_1
    have hP := g5_same hP hk1
    generalize H1 = H at hP hS ⊢
    refine lv_if_eq (tgt := 27) hx hb dX11_isLook_4 (by decide) (fun c_3 => ?_) (fun c_3 => ?_)
    ·
      exact absurd c_3 (by decide)
    ·
      refine lv_iload_n hx hb dX11_isLook_7 rfl (lv_at hl 1 rfl) ?_
      refine lv_if_lt (tgt := 27) hx hb dX11_isLook_8 (by decide) (fun c_4 => ?_) (fun c_4 => ?_)
      ·
        have i_4 : p_w.toInt < 0 := by have z := g5_lt (a := p_w.toInt) (b := 0) (by rfl) (by decide) c_4; omega
        refine lv_iconst (v := 0) hx hb dX11_isLook_27 (by decide) ?_
        exact W.zret (v := 0) hx hb hr rfl (fun t ht hW => ⟨⟨0, [], rfl, Or.inr (⟨by unfold okL; omega, rfl, rfl⟩), by rw [ht]; exact hP.sub [] rfl, hD.sub [] (by decide) rfl⟩, hS.F ht⟩) hS.2.2 dX11_isLook_28
      ·
        have i_4 : p_w.toInt ≥ 0 := by have z := g5_ltN (a := p_w.toInt) (b := 0) (by rfl) (by decide) c_4; omega
        refine lv_iload_n hx hb dX11_isLook_11 rfl (lv_at hl 1 rfl) ?_
        refine lv_iconst (v := 4) hx hb dX11_isLook_12 (by decide) ?_
        refine lv_icmp_ge (tgt := 27) hx hb dX11_isLook_13 (by decide) (fun c_5 => ?_) (fun c_5 => ?_)
        ·
          have i_5 : p_w.toInt ≥ 4 := by have z := g5_ge (a := p_w.toInt) (b := 4) (by rfl) (by decide) c_5; omega
          refine lv_iconst (v := 0) hx hb dX11_isLook_27 (by decide) ?_
          exact W.zret (v := 0) hx hb hr rfl (fun t ht hW => ⟨⟨0, [], rfl, Or.inr (⟨by unfold okL; omega, rfl, rfl⟩), by rw [ht]; exact hP.sub [] rfl, hD.sub [] (by decide) rfl⟩, hS.F ht⟩) hS.2.2 dX11_isLook_28
        ·
          have i_5 : p_w.toInt < 4 := by have z := g5_geN (a := p_w.toInt) (b := 4) (by rfl) (by decide) c_5; omega
          refine lv_iload_n hx hb dX11_isLook_16 rfl (lv_at hl 2 rfl) ?_
          obtain ⟨hPc, hDc, hFc⟩ := g5_sub3 (wc := []) hP hD hS hA [] (by decide) rfl
          refine va_calli (va_runS (As := [.int p_h]) (rest := []) ⟨hx, hb, hml, hown, hts⟩ (x_isHourX l G H.size p_h) (va_cwS 1 hts gS_X11_127 rfl rfl rfl hs_X11_isHour ⟨Nat.le_of_ble_eq_true rfl, Nat.le_of_ble_eq_true rfl⟩) (g5_preS hPc hK hDc hN hT hS hFc) rfl rfl hl.1 rfl (lv_room (Nat.le_of_ble_eq_true rfl)) dX11_isLook_17 ⟨Nat.le_of_ble_eq_true rfl, Nat.le_of_ble_eq_true rfl⟩) hS (fun q _ h => hFc q h) hFc (fun r u t H1 locs ht hvm hw hB hz1 hk1 hS => ?_)
          obtain ⟨hP1, hD1⟩ := hB
          rw [ht] at hP1
          rcases hw with ⟨i_6, rfl, rfl⟩ | ⟨i_7, rfl, rfl⟩
          ·
            have i_6 : 0 ≤ p_h.toInt ∧ p_h.toInt ≤ 23 := i_6
            have hP := g5_same hP hk1
            generalize H1 = H at hP hS ⊢
            refine lv_if_eq (tgt := 27) hx hb dX11_isLook_20 (by decide) (fun c_8 => ?_) (fun c_8 => ?_)
            ·
              exact absurd c_8 (by decide)
            ·
              refine lv_iconst (v := 1) hx hb dX11_isLook_23 (by decide) ?_
              refine lv_goto (tgt := 28) hx hb dX11_isLook_24 (by decide) ?_
              exact W.zret (v := 1) hx hb hr rfl (fun t ht hW => ⟨⟨1, [], rfl, Or.inl (⟨by unfold okL; omega, i_1, by omega, i_6, rfl, rfl⟩), by rw [ht]; exact hP.sub [] rfl, hD.sub [] (by decide) rfl⟩, hS.F ht⟩) hS.2.2 dX11_isLook_28
          ·
            have i_7 : p_h.toInt < 0 ∨ 23 < p_h.toInt := i_7
            have hP := g5_same hP hk1
            generalize H1 = H at hP hS ⊢
            refine lv_if_eq (tgt := 27) hx hb dX11_isLook_20 (by decide) (fun c_9 => ?_) (fun c_9 => ?_)
            ·
              refine lv_iconst (v := 0) hx hb dX11_isLook_27 (by decide) ?_
              exact W.zret (v := 0) hx hb hr rfl (fun t ht hW => ⟨⟨0, [], rfl, Or.inr (⟨by unfold okL; omega, rfl, rfl⟩), by rw [ht]; exact hP.sub [] rfl, hD.sub [] (by decide) rfl⟩, hS.F ht⟩) hS.2.2 dX11_isLook_28
            ·
              exact absurd c_9 (by decide)
  ·
    have i_2 : p_c.toInt < 0 ∨ 63 < p_c.toInt := i_2
    have hP := g5_same hP hk1
    generalize H1 = H at hP hS ⊢
    refine lv_if_eq (tgt := 27) hx hb dX11_isLook_4 (by decide) (fun c_10 => ?_) (fun c_10 => ?_)
    ·
      refine lv_iconst (v := 0) hx hb dX11_isLook_27 (by decide) ?_
      exact W.zret (v := 0) hx hb hr rfl (fun t ht hW => ⟨⟨0, [], rfl, Or.inr (⟨by unfold okL; omega, rfl, rfl⟩), by rw [ht]; exact hP.sub [] rfl, hD.sub [] (by decide) rfl⟩, hS.F ht⟩) hS.2.2 dX11_isLook_28
    ·
      exact absurd c_10 (by decide)
set_option maxHeartbeats 4000000 in
set_option maxRecDepth 100000 in
theorem x_wallX (l : Launch) (G : g5_G) (a_o a_rf a_h a_p a_pn a_bb a_im a_ke a_k a_wa a_th a_ha a_wk a_r a_x a_wd a_l a_g a_b a_s a_w : Nat) (sz : Nat) (e_tl : Int32) (e_fd : Int32) (e_fpl : Int32) (e_wn : Int32) (e_lr : Int32) (e_le : Int32) (e_st : Int32) (e_fo : Int32) (e_lc : Int32) (e_p : Int32) (p_c : Int32) (p_i : Int32) (e_g : Int32) (e_b : Int32) (e_wa : Int64) (e_gb : Int64) (f_rf : Nat → Int32) (f_p : Nat → Int32) (f_bb : Nat → Int64) (f_ro : Nat → Int32) (f_g : Nat → Int32) (f_b : Nat → Int32) (h_e_tl : 0 ≤ e_tl.toInt ∧ e_tl.toInt ≤ 400) (h_e_wn : 0 ≤ e_wn.toInt ∧ e_wn.toInt ≤ 1) (h_e_p : 0 ≤ e_p.toInt ∧ e_p.toInt ≤ 8) (e_hh : QH e_wa e_le e_st f_ro) (e_hg : QG e_g f_g e_gb f_ro) (e_hb : QB e_b f_b f_bb f_ro) (e_hp : QP e_p f_p f_ro) (e_nw : NW f_ro) : Met l yX11_wall (wsG yX11_wall cX11_wall 4 (some .int)) ({ frames := 3, cells := 0, slots := 0, locals := 67 }) (va_Pc [.ref a_o, .int p_c, .int p_i] (g5_P G [(a_o, (oc11 a_h a_im a_ke a_k a_wa a_th a_ha a_wk a_r a_x e_tl e_fd e_fpl a_wd e_wn a_rf e_lr)), (a_rf, (arI G 5 f_rf)), (a_h, (oc1 e_wa e_le e_st e_fo e_lc a_l a_g a_b a_s a_p a_w e_gb a_bb)), (a_p, (oc6 8 5 a_pn e_p)), (a_pn, (arI G 40 f_p)), (a_bb, (arJ G 24 f_bb))] sz)) (va_Qi (fun (r : Int32) (u : va_W) => (∃ (o_r : Int32) (o_lr : Int32) (o_rf : Nat → Int32) (o_wa : Int64), (QH o_wa e_le e_st (swall f_ro p_c p_i)) ∧ (r = o_r) ∧ (u = [(a_o, (oc11 a_h a_im a_ke a_k a_wa a_th a_ha a_wk a_r a_x e_tl e_fd e_fpl a_wd e_wn a_rf o_lr)), (a_rf, (arI G 5 o_rf)), (a_h, (oc1 o_wa e_le e_st e_fo e_lc a_l a_g a_b a_s a_p a_w e_gb a_bb)), (a_p, (oc6 8 5 a_pn e_p)), (a_pn, (arI G 40 f_p)), (a_bb, (arJ G 24 f_bb))]))) (g5_B G (va_A [(a_o, (oc11 a_h a_im a_ke a_k a_wa a_th a_ha a_wk a_r a_x e_tl e_fd e_fpl a_wd e_wn a_rf e_lr)), (a_rf, (arI G 5 f_rf)), (a_h, (oc1 e_wa e_le e_st e_fo e_lc a_l a_g a_b a_s a_p a_w e_gb a_bb)), (a_p, (oc6 8 5 a_pn e_p)), (a_pn, (arI G 40 f_p)), (a_bb, (arJ G 24 f_bb))] sz)) (va_A [(a_o, (oc11 a_h a_im a_ke a_k a_wa a_th a_ha a_wk a_r a_x e_tl e_fd e_fpl a_wd e_wn a_rf e_lr)), (a_rf, (arI G 5 f_rf)), (a_h, (oc1 e_wa e_le e_st e_fo e_lc a_l a_g a_b a_s a_p a_w e_gb a_bb)), (a_p, (oc6 8 5 a_pn e_p)), (a_pn, (arI G 40 f_p)), (a_bb, (arJ G 24 f_bb))] sz)) 0 0 (va_A [(a_o, (oc11 a_h a_im a_ke a_k a_wa a_th a_ha a_wk a_r a_x e_tl e_fd e_fpl a_wd e_wn a_rf e_lr)), (a_rf, (arI G 5 f_rf)), (a_h, (oc1 e_wa e_le e_st e_fo e_lc a_l a_g a_b a_s a_p a_w e_gb a_bb)), (a_p, (oc6 8 5 a_pn e_p)), (a_pn, (arI G 40 f_p)), (a_bb, (arJ G 24 f_bb))] sz) := by
  refine Met.ofW (cc := cX11_wall) (maxL := 4) (ret := (some .int)) (by decide) rfl ?_
  intro p e s m args below meth c s₁ B hml hv
  obtain ⟨rfl, hsz, hP, hK, hD0, hN, hT⟩ := hv
  have hx := B.exec
  have hb := B.bytes
  have hr := B.returns
  have hts : ∀ w ∈ tblG, w.before _ s = true := fun w h => atoms_spec (ws := (wsG yX11_wall cX11_wall 4 (some .int))) B.pre w (List.mem_cons_of_mem _ h)
  have hown : s.vm.findClass RX11 = some m.cls := findClass_of_methodNamed B.named
  have hlocks := B.notSynchronized
  subst hsz
  have hD := hD0.self (sz := s.heap.size)
  generalize hAe : va_A [(a_o, (oc11 a_h a_im a_ke a_k a_wa a_th a_ha a_wk a_r a_x e_tl e_fd e_fpl a_wd e_wn a_rf e_lr)), (a_rf, (arI G 5 f_rf)), (a_h, (oc1 e_wa e_le e_st e_fo e_lc a_l a_g a_b a_s a_p a_w e_gb a_bb)), (a_p, (oc6 8 5 a_pn e_p)), (a_pn, (arI G 40 f_p)), (a_bb, (arJ G 24 f_bb))] s.heap.size = A at hD hT ⊢
  have hA : ∀ q : Nat, s.heap.size ≤ q → A q := fun q h => by rw [← hAe]; exact Or.inr h
  have hS : va_S A s.heap s.heap [] := va_S.rf
  have hP : va_P G.1 vwCl [(a_o, (oc11 a_h a_im a_ke a_k a_wa a_th a_ha a_wk a_r a_x e_tl e_fd e_fpl a_wd e_wn a_rf e_lr)), (a_rf, (arI G 5 f_rf)), (a_h, (oc1 e_wa e_le e_st e_fo e_lc a_l a_g a_b a_s a_p a_w e_gb a_bb)), (a_p, (oc6 8 5 a_pn e_p)), (a_pn, (arI G 40 f_p)), (a_bb, (arJ G 24 f_bb))] s.heap := hP
  have hl := lv_entry ([.ref a_o, .int p_c, .int p_i]) (n := 4) (Nat.le_of_ble_eq_true rfl)
  rw [lg_entry_eq]
  generalize (lg_sl ([.ref a_o, .int p_c, .int p_i]) ++ List.replicate (4 - (lg_sl ([.ref a_o, .int p_c, .int p_i])).length) Slot.unset).toArray = ls at hl ⊢
  have hl : lv_has ls 4 [(0, .ref a_o), (1, .int p_c), (2, .int p_i)] := hl
  refine lv_iload_n hx hb dX11_wall_0 rfl (lv_at hl 1 rfl) ?_
  obtain ⟨hPc, hDc, hFc⟩ := g5_sub3 (wc := []) hP hD hS hA [] (by decide) rfl
  refine va_calli (va_runS (As := [.int p_c]) (rest := []) ⟨hx, hb, hml, hown, hts⟩ (x_isCellX l G s.heap.size p_c) (va_cwS 1 hts gS_X11_97 rfl rfl rfl hs_X11_isCell ⟨Nat.le_of_ble_eq_true rfl, Nat.le_of_ble_eq_true rfl⟩) (g5_preS hPc hK hDc hN hT hS hFc) rfl rfl hl.1 rfl (lv_room (Nat.le_of_ble_eq_true rfl)) dX11_wall_1 ⟨Nat.le_of_ble_eq_true rfl, Nat.le_of_ble_eq_true rfl⟩) hS (fun q _ h => hFc q h) hFc (fun r u t H1 locs ht hvm hw hB hz1 hk1 hS => ?_)
  obtain ⟨hP1, hD1⟩ := hB
  rw [ht] at hP1
  rcases hw with ⟨i_1, rfl, rfl⟩ | ⟨i_2, rfl, rfl⟩
  ·
    have i_1 : 0 ≤ p_c.toInt ∧ p_c.toInt ≤ 63 := i_1
    have hP := g5_same hP hk1
    generalize H1 = H at hP hS ⊢
    refine lv_if_eq (tgt := 14) hx hb dX11_wall_4 (by decide) (fun c_3 => ?_) (fun c_3 => ?_)
    ·
      exact absurd c_3 (by decide)
    ·
      refine lv_iload_n hx hb dX11_wall_7 rfl (lv_at hl 2 rfl) ?_
      obtain ⟨hPc, hDc, hFc⟩ := g5_sub3 (wc := []) hP hD hS hA [] (by decide) rfl
      refine va_calli (va_runS (As := [.int p_i]) (rest := []) ⟨hx, hb, hml, hown, hts⟩ (x_isFlagX l G H.size p_i) (va_cwS 1 hts gS_X11_101 rfl rfl rfl hs_X11_isFlag ⟨Nat.le_of_ble_eq_true rfl, Nat.le_of_ble_eq_true rfl⟩) (g5_preS hPc hK hDc hN hT hS hFc) rfl rfl hl.1 rfl (lv_room (Nat.le_of_ble_eq_true rfl)) dX11_wall_8 ⟨Nat.le_of_ble_eq_true rfl, Nat.le_of_ble_eq_true rfl⟩) hS (fun q _ h => hFc q h) hFc (fun r u t H1 locs ht hvm hw hB hz1 hk1 hS => ?_)
      obtain ⟨hP1, hD1⟩ := hB
      rw [ht] at hP1
      rcases hw with ⟨i_4, rfl, rfl⟩ | ⟨i_5, rfl, rfl⟩
      ·
        have i_4 : 0 ≤ p_i.toInt ∧ p_i.toInt ≤ 1 := i_4
        have hP := g5_same hP hk1
        generalize H1 = H at hP hS ⊢
        refine lv_if_ne (tgt := 20) hx hb dX11_wall_11 (by decide) (fun c_6 => ?_) (fun c_6 => ?_)
        ·
          refine lv_aload_n hx hb dX11_wall_20 rfl (lv_at hl 0 rfl) ?_
          refine va_get (D := G.1) (ci := 11) (v := .ref a_h) (C := RX11) (T := TX11) (N := 17) hx hb hts inG_X11 hown hK hP 0 rfl rfl 0 (by decide) (hts _ fl_X11_12) (fun _ h9 => h9) rfl dX11_wall_21 ?_
          refine lv_iload_n hx hb dX11_wall_24 rfl (lv_at hl 1 rfl) ?_
          obtain ⟨hPc, hDc, hFc⟩ := g5_sub3 (wc := [(a_h, (oc1 e_wa e_le e_st e_fo e_lc a_l a_g a_b a_s a_p a_w e_gb a_bb)), (a_p, (oc6 8 5 a_pn e_p)), (a_pn, (arI G 40 f_p)), (a_bb, (arJ G 24 f_bb))]) hP hD hS hA [2, 3, 4, 5] (by decide) rfl
          refine va_calli (va_runV (As := [.int p_c]) (rest := []) ⟨hx, hb, hml, hown, hts⟩ (h_isTaken l G a_h a_p a_pn a_bb a_l a_g a_b a_s a_w H.size e_le e_st e_fo e_lc e_p p_c e_wa e_gb f_p f_bb h_e_p i_1) (cwV 1 hts gV_X11_108 rfl rfl rfl hv_X1_isTaken ⟨Nat.le_of_ble_eq_true rfl, Nat.le_of_ble_eq_true rfl⟩) (g5_preV hPc hK hDc hN hT hS hFc (ci := 1) (q0 := 0) rfl rfl) rfl rfl hl.1 rfl (lv_room (Nat.le_of_ble_eq_true rfl)) dX11_wall_25 ⟨Nat.le_of_ble_eq_true rfl, Nat.le_of_ble_eq_true rfl⟩) hS (fun q _ h => hFc q h) hFc (fun r u t H1 locs ht hvm hw hB hz1 hk1 hS => ?_)
          obtain ⟨hP1, hD1⟩ := hB
          rw [ht] at hP1
          rcases hw with ⟨i_7, rfl, rfl⟩ | ⟨i_8, rfl, rfl⟩
          ·
            have i_7 : (∃ h : Nat, h < 24 ∧ onB (f_bb h) p_c.toInt = true) ∨ onB e_gb p_c.toInt = true ∨ (∃ r : Int, 0 ≤ r ∧ r < e_p.toInt ∧ tget f_p e_p.toInt 5 r (0 : Int32).toInt = p_c) ∨ e_st = p_c := i_7
            obtain ⟨hP, hD⟩ := va_join (wr := [(a_o, (oc11 a_h a_im a_ke a_k a_wa a_th a_ha a_wk a_r a_x e_tl e_fd e_fpl a_wd e_wn a_rf e_lr)), (a_rf, (arI G 5 f_rf))]) hP hD [2, 3, 4, 5] [0, 1] rfl rfl (by decide) (by decide) hk1 hFc hP1 hD1
            generalize H1 = H at hP hS ⊢
            refine g5_rs [(a_o, (oc11 a_h a_im a_ke a_k a_wa a_th a_ha a_wk a_r a_x e_tl e_fd e_fpl a_wd e_wn a_rf e_lr)), (a_rf, (arI G 5 f_rf)), (a_h, (oc1 e_wa e_le e_st e_fo e_lc a_l a_g a_b a_s a_p a_w e_gb a_bb)), (a_p, (oc6 8 5 a_pn e_p)), (a_pn, (arI G 40 f_p)), (a_bb, (arJ G 24 f_bb))] hP hD (fun hP hD => ?_)
            refine lv_if_eq (tgt := 38) hx hb dX11_wall_28 (by decide) (fun c_9 => ?_) (fun c_9 => ?_)
            ·
              exact absurd c_9 (by decide)
            ·
              refine lv_aload_n hx hb dX11_wall_31 rfl (lv_at hl 0 rfl) ?_
              refine lv_bipush (v := (-3)) hx hb dX11_wall_32 (by decide) ?_
              obtain ⟨hPc, hDc, hFc⟩ := g5_sub3 (wc := [(a_o, (oc11 a_h a_im a_ke a_k a_wa a_th a_ha a_wk a_r a_x e_tl e_fd e_fpl a_wd e_wn a_rf e_lr)), (a_rf, (arI G 5 f_rf))]) hP hD hS hA [0, 1] (by decide) rfl
              refine va_calli (va_runV (As := [.int (-3)]) (rest := []) ⟨hx, hb, hml, hown, hts⟩ (x_refuse3 l G a_o a_rf a_h a_im a_ke a_k a_wa a_th a_ha a_wk a_r a_x a_wd H.size e_tl e_fd e_fpl e_wn e_lr f_rf h_e_tl h_e_wn) (cwV 1 hts gV_X11_104 rfl rfl rfl hv_X11_refuse ⟨Nat.le_of_ble_eq_true rfl, Nat.le_of_ble_eq_true rfl⟩) (g5_preV hPc hK hDc hN hT hS hFc (ci := 11) (q0 := 0) rfl rfl) rfl rfl hl.1 rfl (lv_room (Nat.le_of_ble_eq_true rfl)) dX11_wall_34 ⟨Nat.le_of_ble_eq_true rfl, Nat.le_of_ble_eq_true rfl⟩) hS (fun q _ h => hFc q h) hFc (fun r u t H1 locs ht hvm hw hB hz1 hk1 hS => ?_)
              obtain ⟨hP1, hD1⟩ := hB
              rw [ht] at hP1
              obtain ⟨z10, rfl, rfl⟩ := hw
              obtain ⟨hP, hD⟩ := va_join (wr := [(a_h, (oc1 e_wa e_le e_st e_fo e_lc a_l a_g a_b a_s a_p a_w e_gb a_bb)), (a_p, (oc6 8 5 a_pn e_p)), (a_pn, (arI G 40 f_p)), (a_bb, (arJ G 24 f_bb))]) hP hD [0, 1] [2, 3, 4, 5] rfl rfl (by decide) (by decide) hk1 hFc hP1 hD1
              generalize H1 = H at hP hS ⊢
              refine g5_rs [(a_h, (oc1 e_wa e_le e_st e_fo e_lc a_l a_g a_b a_s a_p a_w e_gb a_bb)), (a_p, (oc6 8 5 a_pn e_p)), (a_pn, (arI G 40 f_p)), (a_bb, (arJ G 24 f_bb)), (a_o, (oc11 a_h a_im a_ke a_k a_wa a_th a_ha a_wk a_r a_x e_tl e_fd e_fpl a_wd e_wn a_rf (-3))), (a_rf, (arI G 5 z10))] hP hD (fun hP hD => ?_)
              exact W.iret (v := (-3)) hx hb hr (fun t ht hW => ⟨⟨(-3), [(a_o, (oc11 a_h a_im a_ke a_k a_wa a_th a_ha a_wk a_r a_x e_tl e_fd e_fpl a_wd e_wn a_rf (-3))), (a_rf, (arI G 5 z10)), (a_h, (oc1 e_wa e_le e_st e_fo e_lc a_l a_g a_b a_s a_p a_w e_gb a_bb)), (a_p, (oc6 8 5 a_pn e_p)), (a_pn, (arI G 40 f_p)), (a_bb, (arJ G 24 f_bb))], rfl, ⟨(-3), (-3), z10, e_wa, by rw [wall_3 (f := f_ro) (c := p_c) (i := p_i) e_hh e_nw ⟨by omega, by omega⟩ ⟨by omega, by omega⟩ (tk_y e_hh e_hg e_hb e_hp ⟨by omega, by omega⟩ i_7)]; exact e_hh, rfl, rfl⟩, by rw [ht]; exact hP.sub [4, 5, 0, 1, 2, 3] rfl, hD.sub [4, 5, 0, 1, 2, 3] (by decide) rfl⟩, hS.F ht⟩) hS.2.2 dX11_wall_37
          ·
            have i_8 : (∀ h : Nat, h < 24 → onB (f_bb h) p_c.toInt = false) ∧ onB e_gb p_c.toInt = false ∧ (∀ r : Int, 0 ≤ r → r < e_p.toInt → tget f_p e_p.toInt 5 r (0 : Int32).toInt ≠ p_c) ∧ e_st ≠ p_c := i_8
            obtain ⟨hP, hD⟩ := va_join (wr := [(a_o, (oc11 a_h a_im a_ke a_k a_wa a_th a_ha a_wk a_r a_x e_tl e_fd e_fpl a_wd e_wn a_rf e_lr)), (a_rf, (arI G 5 f_rf))]) hP hD [2, 3, 4, 5] [0, 1] rfl rfl (by decide) (by decide) hk1 hFc hP1 hD1
            generalize H1 = H at hP hS ⊢
            refine g5_rs [(a_o, (oc11 a_h a_im a_ke a_k a_wa a_th a_ha a_wk a_r a_x e_tl e_fd e_fpl a_wd e_wn a_rf e_lr)), (a_rf, (arI G 5 f_rf)), (a_h, (oc1 e_wa e_le e_st e_fo e_lc a_l a_g a_b a_s a_p a_w e_gb a_bb)), (a_p, (oc6 8 5 a_pn e_p)), (a_pn, (arI G 40 f_p)), (a_bb, (arJ G 24 f_bb))] hP hD (fun hP hD => ?_)
            refine lv_if_eq (tgt := 38) hx hb dX11_wall_28 (by decide) (fun c_11 => ?_) (fun c_11 => ?_)
            ·
              refine lv_aload_n hx hb dX11_wall_38 rfl (lv_at hl 0 rfl) ?_
              refine va_get (D := G.1) (ci := 11) (v := .ref a_h) (C := RX11) (T := TX11) (N := 17) hx hb hts inG_X11 hown hK hP 0 rfl rfl 0 (by decide) (hts _ fl_X11_12) (fun _ h9 => h9) rfl dX11_wall_39 ?_
              refine va_get (D := G.1) (ci := 1) (v := .long e_wa) (C := RX1) (T := TX1) (N := 13) hx hb hts inG_X1 hown hK hP 2 rfl rfl 0 (by decide) (hts _ fl_X11_111) (fun _ h9 => h9) rfl dX11_wall_42 ?_
              refine lv_iload_n hx hb dX11_wall_45 rfl (lv_at hl 1 rfl) ?_
              obtain ⟨hPc, hDc, hFc⟩ := g5_sub3 (wc := []) hP hD hS hA [] (by decide) rfl
              refine va_calli (va_runS (As := [.long e_wa, .int p_c]) (rest := []) ⟨hx, hb, hml, hown, hts⟩ (k_isOn l G H.size p_c e_wa i_1) (va_cwS 2 hts gS_X11_115 rfl rfl rfl hs_X11_isOn ⟨Nat.le_of_ble_eq_true rfl, Nat.le_of_ble_eq_true rfl⟩) (g5_preS hPc hK hDc hN hT hS hFc) rfl rfl hl.1 rfl (lv_room (Nat.le_of_ble_eq_true rfl)) dX11_wall_46 ⟨Nat.le_of_ble_eq_true rfl, Nat.le_of_ble_eq_true rfl⟩) hS (fun q _ h => hFc q h) hFc (fun r u t H1 locs ht hvm hw hB hz1 hk1 hS => ?_)
              obtain ⟨hP1, hD1⟩ := hB
              rw [ht] at hP1
              rcases hw with ⟨i_12, rfl, rfl⟩ | ⟨i_13, rfl, rfl⟩
              ·
                have i_12 : onB e_wa p_c.toInt = false := i_12
                have hP := g5_same hP hk1
                generalize H1 = H at hP hS ⊢
                refine lv_if_eq (tgt := 56) hx hb dX11_wall_49 (by decide) (fun c_14 => ?_) (fun c_14 => ?_)
                ·
                  refine lv_iconst (v := 0) hx hb dX11_wall_56 (by decide) ?_
                  refine lv_istore_n (lv' := [(3, .int 0), (0, .ref a_o), (1, .int p_c), (2, .int p_i)]) hx hb dX11_wall_57 rfl hl (by decide) rfl (fun ls hl => ?_)
                  refine lv_aload_n hx hb dX11_wall_58 rfl (lv_at hl 1 rfl) ?_
                  refine va_get (D := G.1) (ci := 11) (v := .ref a_h) (C := RX11) (T := TX11) (N := 17) hx hb hts inG_X11 hown hK hP 0 rfl rfl 0 (by decide) (hts _ fl_X11_12) (fun _ h9 => h9) rfl dX11_wall_59 ?_
                  refine lv_iload_n hx hb dX11_wall_62 rfl (lv_at hl 3 rfl) ?_
                  refine lv_iconst (v := 1) hx hb dX11_wall_63 (by decide) ?_
                  refine lv_icmp_ne (tgt := 81) hx hb dX11_wall_64 (by decide) (fun c_15 => ?_) (fun c_15 => ?_)
                  ·
                    have n_15 : gNe (p_i.toInt) (1) := by have z := g5_ne (a := p_i.toInt) (b := 1) (by rfl) (by decide) c_15; unfold gNe; omega
                    have i_15 : p_i.toInt ≤ 0 := by have z := g5_ne (a := p_i.toInt) (b := 1) (by rfl) (by decide) c_15; omega
                    refine lv_aload_n hx hb dX11_wall_81 rfl (lv_at hl 1 rfl) ?_
                    refine va_get (D := G.1) (ci := 11) (v := .ref a_h) (C := RX11) (T := TX11) (N := 17) hx hb hts inG_X11 hown hK hP 0 rfl rfl 0 (by decide) (hts _ fl_X11_12) (fun _ h9 => h9) rfl dX11_wall_82 ?_
                    refine va_get (D := G.1) (ci := 1) (v := .long e_wa) (C := RX1) (T := TX1) (N := 13) hx hb hts inG_X1 hown hK hP 2 rfl rfl 0 (by decide) (hts _ fl_X11_111) (fun _ h9 => h9) rfl dX11_wall_85 ?_
                    refine lv_lconst (v := 1) hx hb dX11_wall_88 (by decide) ?_
                    refine lv_iload_n hx hb dX11_wall_89 rfl (lv_at hl 2 rfl) ?_
                    refine lv_lshl (v := ((1 : Int64) <<< (p_c.toInt64 &&& 63))) hx hb dX11_wall_90 rfl ?_
                    refine lv_ldc2 (v := (-1)) hx hb hown (hts _ kl_X11_119) dX11_wall_91 ?_
                    refine lv_lxor hx hb dX11_wall_94 ?_
                    refine lv_land hx hb dX11_wall_95 ?_
                    refine va_put (D := G.1) (ci := 1) (v := .long (e_wa &&& (((1 : Int64) <<< (p_c.toInt64 &&& 63)) ^^^ (-1)))) (ty := .long) (C := RX1) (T := TX1) (N := 13) hx hb hts inG_X1 tyX1 tyX1_ok nmX1 hown hK hP hD hS 2 rfl rfl 0 (by decide) (hts _ fl_X11_111) (fun _ h9 => h9) rfl (by decide +kernel) rfl rfl (Nat.le_of_ble_eq_true rfl) dX11_wall_96 (fun H locs hP hD hS => ?_)
                    refine g5_rs [(a_o, (oc11 a_h a_im a_ke a_k a_wa a_th a_ha a_wk a_r a_x e_tl e_fd e_fpl a_wd e_wn a_rf e_lr)), (a_rf, (arI G 5 f_rf)), (a_h, (oc1 (e_wa &&& (((1 : Int64) <<< (p_c.toInt64 &&& 63)) ^^^ (-1))) e_le e_st e_fo e_lc a_l a_g a_b a_s a_p a_w e_gb a_bb)), (a_p, (oc6 8 5 a_pn e_p)), (a_pn, (arI G 40 f_p)), (a_bb, (arJ G 24 f_bb))] hP hD (fun hP hD => ?_)
                    refine lv_aload_n hx hb dX11_wall_99 rfl (lv_at hl 1 rfl) ?_
                    refine lv_iload_n hx hb dX11_wall_100 rfl (lv_at hl 0 rfl) ?_
                    obtain ⟨hPc, hDc, hFc⟩ := g5_sub3 (wc := [(a_o, (oc11 a_h a_im a_ke a_k a_wa a_th a_ha a_wk a_r a_x e_tl e_fd e_fpl a_wd e_wn a_rf e_lr))]) hP hD hS hA [0] (by decide) rfl
                    refine va_calli (va_runV (As := [.int 0]) (rest := []) ⟨hx, hb, hml, hown, hts⟩ (x_done l G a_o a_h a_im a_ke a_k a_wa a_th a_ha a_wk a_r a_x a_wd a_rf H.size e_tl e_fd e_fpl e_wn e_lr 0 h_e_tl h_e_wn) (cwV 1 hts gV_X11_121 rfl rfl rfl hv_X11_done ⟨Nat.le_of_ble_eq_true rfl, Nat.le_of_ble_eq_true rfl⟩) (g5_preV hPc hK hDc hN hT hS hFc (ci := 11) (q0 := 0) rfl rfl) rfl rfl hl.1 rfl (lv_room (Nat.le_of_ble_eq_true rfl)) dX11_wall_101 ⟨Nat.le_of_ble_eq_true rfl, Nat.le_of_ble_eq_true rfl⟩) hS (fun q _ h => hFc q h) hFc (fun r u t H1 locs ht hvm hw hB hz1 hk1 hS => ?_)
                    obtain ⟨hP1, hD1⟩ := hB
                    rw [ht] at hP1
                    obtain ⟨rfl, rfl⟩ := hw
                    obtain ⟨hP, hD⟩ := va_join (wr := [(a_rf, (arI G 5 f_rf)), (a_h, (oc1 (e_wa &&& (((1 : Int64) <<< (p_c.toInt64 &&& 63)) ^^^ (-1))) e_le e_st e_fo e_lc a_l a_g a_b a_s a_p a_w e_gb a_bb)), (a_p, (oc6 8 5 a_pn e_p)), (a_pn, (arI G 40 f_p)), (a_bb, (arJ G 24 f_bb))]) hP hD [0] [1, 2, 3, 4, 5] rfl rfl (by decide) (by decide) hk1 hFc hP1 hD1
                    generalize H1 = H at hP hS ⊢
                    refine g5_rs [(a_rf, (arI G 5 f_rf)), (a_h, (oc1 (e_wa &&& (((1 : Int64) <<< (p_c.toInt64 &&& 63)) ^^^ (-1))) e_le e_st e_fo e_lc a_l a_g a_b a_s a_p a_w e_gb a_bb)), (a_p, (oc6 8 5 a_pn e_p)), (a_pn, (arI G 40 f_p)), (a_bb, (arJ G 24 f_bb)), (a_o, (oc11 a_h a_im a_ke a_k a_wa a_th a_ha a_wk a_r a_x e_tl e_fd e_fpl a_wd e_wn a_rf 0))] hP hD (fun hP hD => ?_)
                    exact W.iret (v := 0) hx hb hr (fun t ht hW => ⟨⟨0, [(a_o, (oc11 a_h a_im a_ke a_k a_wa a_th a_ha a_wk a_r a_x e_tl e_fd e_fpl a_wd e_wn a_rf 0)), (a_rf, (arI G 5 f_rf)), (a_h, (oc1 (e_wa &&& (((1 : Int64) <<< (p_c.toInt64 &&& 63)) ^^^ (-1))) e_le e_st e_fo e_lc a_l a_g a_b a_s a_p a_w e_gb a_bb)), (a_p, (oc6 8 5 a_pn e_p)), (a_pn, (arI G 40 f_p)), (a_bb, (arJ G 24 f_bb))], rfl, ⟨0, 0, f_rf, (e_wa &&& (((1 : Int64) <<< (p_c.toInt64 &&& 63)) ^^^ (-1))), hh_wall0 e_hh ⟨by omega, by omega⟩ (by omega), rfl, rfl⟩, by rw [ht]; exact hP.sub [5, 0, 1, 2, 3, 4] rfl, hD.sub [5, 0, 1, 2, 3, 4] (by decide) rfl⟩, hS.F ht⟩) hS.2.2 dX11_wall_104
                  ·
                    have i_15 : p_i.toInt = 1 := by have z := g5_neN (a := p_i.toInt) (b := 1) (by rfl) (by decide) c_15; omega
                    refine lv_aload_n hx hb dX11_wall_67 rfl (lv_at hl 1 rfl) ?_
                    refine va_get (D := G.1) (ci := 11) (v := .ref a_h) (C := RX11) (T := TX11) (N := 17) hx hb hts inG_X11 hown hK hP 0 rfl rfl 0 (by decide) (hts _ fl_X11_12) (fun _ h9 => h9) rfl dX11_wall_68 ?_
                    refine va_get (D := G.1) (ci := 1) (v := .long e_wa) (C := RX1) (T := TX1) (N := 13) hx hb hts inG_X1 hown hK hP 2 rfl rfl 0 (by decide) (hts _ fl_X11_111) (fun _ h9 => h9) rfl dX11_wall_71 ?_
                    refine lv_lconst (v := 1) hx hb dX11_wall_74 (by decide) ?_
                    refine lv_iload_n hx hb dX11_wall_75 rfl (lv_at hl 2 rfl) ?_
                    refine lv_lshl (v := ((1 : Int64) <<< (p_c.toInt64 &&& 63))) hx hb dX11_wall_76 rfl ?_
                    refine lv_lor hx hb dX11_wall_77 ?_
                    refine lv_goto (tgt := 96) hx hb dX11_wall_78 (by decide) ?_
                    refine va_put (D := G.1) (ci := 1) (v := .long (e_wa ||| ((1 : Int64) <<< (p_c.toInt64 &&& 63)))) (ty := .long) (C := RX1) (T := TX1) (N := 13) hx hb hts inG_X1 tyX1 tyX1_ok nmX1 hown hK hP hD hS 2 rfl rfl 0 (by decide) (hts _ fl_X11_111) (fun _ h9 => h9) rfl (by decide +kernel) rfl rfl (Nat.le_of_ble_eq_true rfl) dX11_wall_96 (fun H locs hP hD hS => ?_)
                    refine g5_rs [(a_o, (oc11 a_h a_im a_ke a_k a_wa a_th a_ha a_wk a_r a_x e_tl e_fd e_fpl a_wd e_wn a_rf e_lr)), (a_rf, (arI G 5 f_rf)), (a_h, (oc1 (e_wa ||| ((1 : Int64) <<< (p_c.toInt64 &&& 63))) e_le e_st e_fo e_lc a_l a_g a_b a_s a_p a_w e_gb a_bb)), (a_p, (oc6 8 5 a_pn e_p)), (a_pn, (arI G 40 f_p)), (a_bb, (arJ G 24 f_bb))] hP hD (fun hP hD => ?_)
                    refine lv_aload_n hx hb dX11_wall_99 rfl (lv_at hl 1 rfl) ?_
                    refine lv_iload_n hx hb dX11_wall_100 rfl (lv_at hl 0 rfl) ?_
                    obtain ⟨hPc, hDc, hFc⟩ := g5_sub3 (wc := [(a_o, (oc11 a_h a_im a_ke a_k a_wa a_th a_ha a_wk a_r a_x e_tl e_fd e_fpl a_wd e_wn a_rf e_lr))]) hP hD hS hA [0] (by decide) rfl
                    refine va_calli (va_runV (As := [.int 0]) (rest := []) ⟨hx, hb, hml, hown, hts⟩ (x_done l G a_o a_h a_im a_ke a_k a_wa a_th a_ha a_wk a_r a_x a_wd a_rf H.size e_tl e_fd e_fpl e_wn e_lr 0 h_e_tl h_e_wn) (cwV 1 hts gV_X11_121 rfl rfl rfl hv_X11_done ⟨Nat.le_of_ble_eq_true rfl, Nat.le_of_ble_eq_true rfl⟩) (g5_preV hPc hK hDc hN hT hS hFc (ci := 11) (q0 := 0) rfl rfl) rfl rfl hl.1 rfl (lv_room (Nat.le_of_ble_eq_true rfl)) dX11_wall_101 ⟨Nat.le_of_ble_eq_true rfl, Nat.le_of_ble_eq_true rfl⟩) hS (fun q _ h => hFc q h) hFc (fun r u t H1 locs ht hvm hw hB hz1 hk1 hS => ?_)
                    obtain ⟨hP1, hD1⟩ := hB
                    rw [ht] at hP1
                    obtain ⟨rfl, rfl⟩ := hw
                    obtain ⟨hP, hD⟩ := va_join (wr := [(a_rf, (arI G 5 f_rf)), (a_h, (oc1 (e_wa ||| ((1 : Int64) <<< (p_c.toInt64 &&& 63))) e_le e_st e_fo e_lc a_l a_g a_b a_s a_p a_w e_gb a_bb)), (a_p, (oc6 8 5 a_pn e_p)), (a_pn, (arI G 40 f_p)), (a_bb, (arJ G 24 f_bb))]) hP hD [0] [1, 2, 3, 4, 5] rfl rfl (by decide) (by decide) hk1 hFc hP1 hD1
                    generalize H1 = H at hP hS ⊢
                    refine g5_rs [(a_rf, (arI G 5 f_rf)), (a_h, (oc1 (e_wa ||| ((1 : Int64) <<< (p_c.toInt64 &&& 63))) e_le e_st e_fo e_lc a_l a_g a_b a_s a_p a_w e_gb a_bb)), (a_p, (oc6 8 5 a_pn e_p)), (a_pn, (arI G 40 f_p)), (a_bb, (arJ G 24 f_bb)), (a_o, (oc11 a_h a_im a_ke a_k a_wa a_th a_ha a_wk a_r a_x e_tl e_fd e_fpl a_wd e_wn a_rf 0))] hP hD (fun hP hD => ?_)
                    exact W.iret (v := 0) hx hb hr (fun t ht hW => ⟨⟨0, [(a_o, (oc11 a_h a_im a_ke a_k a_wa a_th a_ha a_wk a_r a_x e_tl e_fd e_fpl a_wd e_wn a_rf 0)), (a_rf, (arI G 5 f_rf)), (a_h, (oc1 (e_wa ||| ((1 : Int64) <<< (p_c.toInt64 &&& 63))) e_le e_st e_fo e_lc a_l a_g a_b a_s a_p a_w e_gb a_bb)), (a_p, (oc6 8 5 a_pn e_p)), (a_pn, (arI G 40 f_p)), (a_bb, (arJ G 24 f_bb))], rfl, ⟨0, 0, f_rf, (e_wa ||| ((1 : Int64) <<< (p_c.toInt64 &&& 63))), hh_wall1 e_hh ⟨by omega, by omega⟩ (by omega) (tk_n e_hh e_hg e_hb e_hp ⟨by omega, by omega⟩ i_8), rfl, rfl⟩, by rw [ht]; exact hP.sub [5, 0, 1, 2, 3, 4] rfl, hD.sub [5, 0, 1, 2, 3, 4] (by decide) rfl⟩, hS.F ht⟩) hS.2.2 dX11_wall_104
                ·
                  exact absurd c_14 (by decide)
              ·
                have i_13 : onB e_wa p_c.toInt = true := i_13
                have hP := g5_same hP hk1
                generalize H1 = H at hP hS ⊢
                refine lv_if_eq (tgt := 56) hx hb dX11_wall_49 (by decide) (fun c_16 => ?_) (fun c_16 => ?_)
                ·
                  exact absurd c_16 (by decide)
                ·
                  refine lv_iconst (v := 1) hx hb dX11_wall_52 (by decide) ?_
                  refine lv_goto (tgt := 57) hx hb dX11_wall_53 (by decide) ?_
                  refine lv_istore_n (lv' := [(3, .int 1), (0, .ref a_o), (1, .int p_c), (2, .int p_i)]) hx hb dX11_wall_57 rfl hl (by decide) rfl (fun ls hl => ?_)
                  refine lv_aload_n hx hb dX11_wall_58 rfl (lv_at hl 1 rfl) ?_
                  refine va_get (D := G.1) (ci := 11) (v := .ref a_h) (C := RX11) (T := TX11) (N := 17) hx hb hts inG_X11 hown hK hP 0 rfl rfl 0 (by decide) (hts _ fl_X11_12) (fun _ h9 => h9) rfl dX11_wall_59 ?_
                  refine lv_iload_n hx hb dX11_wall_62 rfl (lv_at hl 3 rfl) ?_
                  refine lv_iconst (v := 1) hx hb dX11_wall_63 (by decide) ?_
                  refine lv_icmp_ne (tgt := 81) hx hb dX11_wall_64 (by decide) (fun c_17 => ?_) (fun c_17 => ?_)
                  ·
                    have n_17 : gNe (p_i.toInt) (1) := by have z := g5_ne (a := p_i.toInt) (b := 1) (by rfl) (by decide) c_17; unfold gNe; omega
                    have i_17 : p_i.toInt ≤ 0 := by have z := g5_ne (a := p_i.toInt) (b := 1) (by rfl) (by decide) c_17; omega
                    refine lv_aload_n hx hb dX11_wall_81 rfl (lv_at hl 1 rfl) ?_
                    refine va_get (D := G.1) (ci := 11) (v := .ref a_h) (C := RX11) (T := TX11) (N := 17) hx hb hts inG_X11 hown hK hP 0 rfl rfl 0 (by decide) (hts _ fl_X11_12) (fun _ h9 => h9) rfl dX11_wall_82 ?_
                    refine va_get (D := G.1) (ci := 1) (v := .long e_wa) (C := RX1) (T := TX1) (N := 13) hx hb hts inG_X1 hown hK hP 2 rfl rfl 0 (by decide) (hts _ fl_X11_111) (fun _ h9 => h9) rfl dX11_wall_85 ?_
                    refine lv_lconst (v := 1) hx hb dX11_wall_88 (by decide) ?_
                    refine lv_iload_n hx hb dX11_wall_89 rfl (lv_at hl 2 rfl) ?_
                    refine lv_lshl (v := ((1 : Int64) <<< (p_c.toInt64 &&& 63))) hx hb dX11_wall_90 rfl ?_
                    refine lv_ldc2 (v := (-1)) hx hb hown (hts _ kl_X11_119) dX11_wall_91 ?_
                    refine lv_lxor hx hb dX11_wall_94 ?_
                    refine lv_land hx hb dX11_wall_95 ?_
                    refine va_put (D := G.1) (ci := 1) (v := .long (e_wa &&& (((1 : Int64) <<< (p_c.toInt64 &&& 63)) ^^^ (-1)))) (ty := .long) (C := RX1) (T := TX1) (N := 13) hx hb hts inG_X1 tyX1 tyX1_ok nmX1 hown hK hP hD hS 2 rfl rfl 0 (by decide) (hts _ fl_X11_111) (fun _ h9 => h9) rfl (by decide +kernel) rfl rfl (Nat.le_of_ble_eq_true rfl) dX11_wall_96 (fun H locs hP hD hS => ?_)
                    refine g5_rs [(a_o, (oc11 a_h a_im a_ke a_k a_wa a_th a_ha a_wk a_r a_x e_tl e_fd e_fpl a_wd e_wn a_rf e_lr)), (a_rf, (arI G 5 f_rf)), (a_h, (oc1 (e_wa &&& (((1 : Int64) <<< (p_c.toInt64 &&& 63)) ^^^ (-1))) e_le e_st e_fo e_lc a_l a_g a_b a_s a_p a_w e_gb a_bb)), (a_p, (oc6 8 5 a_pn e_p)), (a_pn, (arI G 40 f_p)), (a_bb, (arJ G 24 f_bb))] hP hD (fun hP hD => ?_)
                    refine lv_aload_n hx hb dX11_wall_99 rfl (lv_at hl 1 rfl) ?_
                    refine lv_iload_n hx hb dX11_wall_100 rfl (lv_at hl 0 rfl) ?_
                    obtain ⟨hPc, hDc, hFc⟩ := g5_sub3 (wc := [(a_o, (oc11 a_h a_im a_ke a_k a_wa a_th a_ha a_wk a_r a_x e_tl e_fd e_fpl a_wd e_wn a_rf e_lr))]) hP hD hS hA [0] (by decide) rfl
                    refine va_calli (va_runV (As := [.int 1]) (rest := []) ⟨hx, hb, hml, hown, hts⟩ (x_done l G a_o a_h a_im a_ke a_k a_wa a_th a_ha a_wk a_r a_x a_wd a_rf H.size e_tl e_fd e_fpl e_wn e_lr 1 h_e_tl h_e_wn) (cwV 1 hts gV_X11_121 rfl rfl rfl hv_X11_done ⟨Nat.le_of_ble_eq_true rfl, Nat.le_of_ble_eq_true rfl⟩) (g5_preV hPc hK hDc hN hT hS hFc (ci := 11) (q0 := 0) rfl rfl) rfl rfl hl.1 rfl (lv_room (Nat.le_of_ble_eq_true rfl)) dX11_wall_101 ⟨Nat.le_of_ble_eq_true rfl, Nat.le_of_ble_eq_true rfl⟩) hS (fun q _ h => hFc q h) hFc (fun r u t H1 locs ht hvm hw hB hz1 hk1 hS => ?_)
                    obtain ⟨hP1, hD1⟩ := hB
                    rw [ht] at hP1
                    obtain ⟨rfl, rfl⟩ := hw
                    obtain ⟨hP, hD⟩ := va_join (wr := [(a_rf, (arI G 5 f_rf)), (a_h, (oc1 (e_wa &&& (((1 : Int64) <<< (p_c.toInt64 &&& 63)) ^^^ (-1))) e_le e_st e_fo e_lc a_l a_g a_b a_s a_p a_w e_gb a_bb)), (a_p, (oc6 8 5 a_pn e_p)), (a_pn, (arI G 40 f_p)), (a_bb, (arJ G 24 f_bb))]) hP hD [0] [1, 2, 3, 4, 5] rfl rfl (by decide) (by decide) hk1 hFc hP1 hD1
                    generalize H1 = H at hP hS ⊢
                    refine g5_rs [(a_rf, (arI G 5 f_rf)), (a_h, (oc1 (e_wa &&& (((1 : Int64) <<< (p_c.toInt64 &&& 63)) ^^^ (-1))) e_le e_st e_fo e_lc a_l a_g a_b a_s a_p a_w e_gb a_bb)), (a_p, (oc6 8 5 a_pn e_p)), (a_pn, (arI G 40 f_p)), (a_bb, (arJ G 24 f_bb)), (a_o, (oc11 a_h a_im a_ke a_k a_wa a_th a_ha a_wk a_r a_x e_tl e_fd e_fpl a_wd e_wn a_rf 0))] hP hD (fun hP hD => ?_)
                    exact W.iret (v := 1) hx hb hr (fun t ht hW => ⟨⟨1, [(a_o, (oc11 a_h a_im a_ke a_k a_wa a_th a_ha a_wk a_r a_x e_tl e_fd e_fpl a_wd e_wn a_rf 0)), (a_rf, (arI G 5 f_rf)), (a_h, (oc1 (e_wa &&& (((1 : Int64) <<< (p_c.toInt64 &&& 63)) ^^^ (-1))) e_le e_st e_fo e_lc a_l a_g a_b a_s a_p a_w e_gb a_bb)), (a_p, (oc6 8 5 a_pn e_p)), (a_pn, (arI G 40 f_p)), (a_bb, (arJ G 24 f_bb))], rfl, ⟨1, 0, f_rf, (e_wa &&& (((1 : Int64) <<< (p_c.toInt64 &&& 63)) ^^^ (-1))), hh_wall0 e_hh ⟨by omega, by omega⟩ (by omega), rfl, rfl⟩, by rw [ht]; exact hP.sub [5, 0, 1, 2, 3, 4] rfl, hD.sub [5, 0, 1, 2, 3, 4] (by decide) rfl⟩, hS.F ht⟩) hS.2.2 dX11_wall_104
                  ·
                    have i_17 : p_i.toInt = 1 := by have z := g5_neN (a := p_i.toInt) (b := 1) (by rfl) (by decide) c_17; omega
                    refine lv_aload_n hx hb dX11_wall_67 rfl (lv_at hl 1 rfl) ?_
                    refine va_get (D := G.1) (ci := 11) (v := .ref a_h) (C := RX11) (T := TX11) (N := 17) hx hb hts inG_X11 hown hK hP 0 rfl rfl 0 (by decide) (hts _ fl_X11_12) (fun _ h9 => h9) rfl dX11_wall_68 ?_
                    refine va_get (D := G.1) (ci := 1) (v := .long e_wa) (C := RX1) (T := TX1) (N := 13) hx hb hts inG_X1 hown hK hP 2 rfl rfl 0 (by decide) (hts _ fl_X11_111) (fun _ h9 => h9) rfl dX11_wall_71 ?_
                    refine lv_lconst (v := 1) hx hb dX11_wall_74 (by decide) ?_
                    refine lv_iload_n hx hb dX11_wall_75 rfl (lv_at hl 2 rfl) ?_
                    refine lv_lshl (v := ((1 : Int64) <<< (p_c.toInt64 &&& 63))) hx hb dX11_wall_76 rfl ?_
                    refine lv_lor hx hb dX11_wall_77 ?_
                    refine lv_goto (tgt := 96) hx hb dX11_wall_78 (by decide) ?_
                    refine va_put (D := G.1) (ci := 1) (v := .long (e_wa ||| ((1 : Int64) <<< (p_c.toInt64 &&& 63)))) (ty := .long) (C := RX1) (T := TX1) (N := 13) hx hb hts inG_X1 tyX1 tyX1_ok nmX1 hown hK hP hD hS 2 rfl rfl 0 (by decide) (hts _ fl_X11_111) (fun _ h9 => h9) rfl (by decide +kernel) rfl rfl (Nat.le_of_ble_eq_true rfl) dX11_wall_96 (fun H locs hP hD hS => ?_)
                    refine g5_rs [(a_o, (oc11 a_h a_im a_ke a_k a_wa a_th a_ha a_wk a_r a_x e_tl e_fd e_fpl a_wd e_wn a_rf e_lr)), (a_rf, (arI G 5 f_rf)), (a_h, (oc1 (e_wa ||| ((1 : Int64) <<< (p_c.toInt64 &&& 63))) e_le e_st e_fo e_lc a_l a_g a_b a_s a_p a_w e_gb a_bb)), (a_p, (oc6 8 5 a_pn e_p)), (a_pn, (arI G 40 f_p)), (a_bb, (arJ G 24 f_bb))] hP hD (fun hP hD => ?_)
                    refine lv_aload_n hx hb dX11_wall_99 rfl (lv_at hl 1 rfl) ?_
                    refine lv_iload_n hx hb dX11_wall_100 rfl (lv_at hl 0 rfl) ?_
                    obtain ⟨hPc, hDc, hFc⟩ := g5_sub3 (wc := [(a_o, (oc11 a_h a_im a_ke a_k a_wa a_th a_ha a_wk a_r a_x e_tl e_fd e_fpl a_wd e_wn a_rf e_lr))]) hP hD hS hA [0] (by decide) rfl
                    refine va_calli (va_runV (As := [.int 1]) (rest := []) ⟨hx, hb, hml, hown, hts⟩ (x_done l G a_o a_h a_im a_ke a_k a_wa a_th a_ha a_wk a_r a_x a_wd a_rf H.size e_tl e_fd e_fpl e_wn e_lr 1 h_e_tl h_e_wn) (cwV 1 hts gV_X11_121 rfl rfl rfl hv_X11_done ⟨Nat.le_of_ble_eq_true rfl, Nat.le_of_ble_eq_true rfl⟩) (g5_preV hPc hK hDc hN hT hS hFc (ci := 11) (q0 := 0) rfl rfl) rfl rfl hl.1 rfl (lv_room (Nat.le_of_ble_eq_true rfl)) dX11_wall_101 ⟨Nat.le_of_ble_eq_true rfl, Nat.le_of_ble_eq_true rfl⟩) hS (fun q _ h => hFc q h) hFc (fun r u t H1 locs ht hvm hw hB hz1 hk1 hS => ?_)
                    obtain ⟨hP1, hD1⟩ := hB
                    rw [ht] at hP1
                    obtain ⟨rfl, rfl⟩ := hw
                    obtain ⟨hP, hD⟩ := va_join (wr := [(a_rf, (arI G 5 f_rf)), (a_h, (oc1 (e_wa ||| ((1 : Int64) <<< (p_c.toInt64 &&& 63))) e_le e_st e_fo e_lc a_l a_g a_b a_s a_p a_w e_gb a_bb)), (a_p, (oc6 8 5 a_pn e_p)), (a_pn, (arI G 40 f_p)), (a_bb, (arJ G 24 f_bb))]) hP hD [0] [1, 2, 3, 4, 5] rfl rfl (by decide) (by decide) hk1 hFc hP1 hD1
                    generalize H1 = H at hP hS ⊢
                    refine g5_rs [(a_rf, (arI G 5 f_rf)), (a_h, (oc1 (e_wa ||| ((1 : Int64) <<< (p_c.toInt64 &&& 63))) e_le e_st e_fo e_lc a_l a_g a_b a_s a_p a_w e_gb a_bb)), (a_p, (oc6 8 5 a_pn e_p)), (a_pn, (arI G 40 f_p)), (a_bb, (arJ G 24 f_bb)), (a_o, (oc11 a_h a_im a_ke a_k a_wa a_th a_ha a_wk a_r a_x e_tl e_fd e_fpl a_wd e_wn a_rf 0))] hP hD (fun hP hD => ?_)
                    exact W.iret (v := 1) hx hb hr (fun t ht hW => ⟨⟨1, [(a_o, (oc11 a_h a_im a_ke a_k a_wa a_th a_ha a_wk a_r a_x e_tl e_fd e_fpl a_wd e_wn a_rf 0)), (a_rf, (arI G 5 f_rf)), (a_h, (oc1 (e_wa ||| ((1 : Int64) <<< (p_c.toInt64 &&& 63))) e_le e_st e_fo e_lc a_l a_g a_b a_s a_p a_w e_gb a_bb)), (a_p, (oc6 8 5 a_pn e_p)), (a_pn, (arI G 40 f_p)), (a_bb, (arJ G 24 f_bb))], rfl, ⟨1, 0, f_rf, (e_wa ||| ((1 : Int64) <<< (p_c.toInt64 &&& 63))), hh_wall1 e_hh ⟨by omega, by omega⟩ (by omega) (tk_n e_hh e_hg e_hb e_hp ⟨by omega, by omega⟩ i_8), rfl, rfl⟩, by rw [ht]; exact hP.sub [5, 0, 1, 2, 3, 4] rfl, hD.sub [5, 0, 1, 2, 3, 4] (by decide) rfl⟩, hS.F ht⟩) hS.2.2 dX11_wall_104
            ·
              exact absurd c_11 (by decide)
        ·
          exact absurd c_6 (by decide)
      ·
        have i_5 : p_i.toInt < 0 ∨ 1 < p_i.toInt := i_5
        have hP := g5_same hP hk1
        generalize H1 = H at hP hS ⊢
        refine lv_if_ne (tgt := 20) hx hb dX11_wall_11 (by decide) (fun c_18 => ?_) (fun c_18 => ?_)
        ·
          exact absurd c_18 (by decide)
        ·
          refine lv_aload_n hx hb dX11_wall_14 rfl (lv_at hl 0 rfl) ?_
          refine lv_iconst (v := (-1)) hx hb dX11_wall_15 (by decide) ?_
          obtain ⟨hPc, hDc, hFc⟩ := g5_sub3 (wc := [(a_o, (oc11 a_h a_im a_ke a_k a_wa a_th a_ha a_wk a_r a_x e_tl e_fd e_fpl a_wd e_wn a_rf e_lr)), (a_rf, (arI G 5 f_rf))]) hP hD hS hA [0, 1] (by decide) rfl
          refine va_calli (va_runV (As := [.int (-1)]) (rest := []) ⟨hx, hb, hml, hown, hts⟩ (x_refuse1 l G a_o a_rf a_h a_im a_ke a_k a_wa a_th a_ha a_wk a_r a_x a_wd H.size e_tl e_fd e_fpl e_wn e_lr f_rf h_e_tl h_e_wn) (cwV 1 hts gV_X11_104 rfl rfl rfl hv_X11_refuse ⟨Nat.le_of_ble_eq_true rfl, Nat.le_of_ble_eq_true rfl⟩) (g5_preV hPc hK hDc hN hT hS hFc (ci := 11) (q0 := 0) rfl rfl) rfl rfl hl.1 rfl (lv_room (Nat.le_of_ble_eq_true rfl)) dX11_wall_16 ⟨Nat.le_of_ble_eq_true rfl, Nat.le_of_ble_eq_true rfl⟩) hS (fun q _ h => hFc q h) hFc (fun r u t H1 locs ht hvm hw hB hz1 hk1 hS => ?_)
          obtain ⟨hP1, hD1⟩ := hB
          rw [ht] at hP1
          obtain ⟨z19, rfl, rfl⟩ := hw
          obtain ⟨hP, hD⟩ := va_join (wr := [(a_h, (oc1 e_wa e_le e_st e_fo e_lc a_l a_g a_b a_s a_p a_w e_gb a_bb)), (a_p, (oc6 8 5 a_pn e_p)), (a_pn, (arI G 40 f_p)), (a_bb, (arJ G 24 f_bb))]) hP hD [0, 1] [2, 3, 4, 5] rfl rfl (by decide) (by decide) hk1 hFc hP1 hD1
          generalize H1 = H at hP hS ⊢
          refine g5_rs [(a_h, (oc1 e_wa e_le e_st e_fo e_lc a_l a_g a_b a_s a_p a_w e_gb a_bb)), (a_p, (oc6 8 5 a_pn e_p)), (a_pn, (arI G 40 f_p)), (a_bb, (arJ G 24 f_bb)), (a_o, (oc11 a_h a_im a_ke a_k a_wa a_th a_ha a_wk a_r a_x e_tl e_fd e_fpl a_wd e_wn a_rf (-1))), (a_rf, (arI G 5 z19))] hP hD (fun hP hD => ?_)
          exact W.iret (v := (-1)) hx hb hr (fun t ht hW => ⟨⟨(-1), [(a_o, (oc11 a_h a_im a_ke a_k a_wa a_th a_ha a_wk a_r a_x e_tl e_fd e_fpl a_wd e_wn a_rf (-1))), (a_rf, (arI G 5 z19)), (a_h, (oc1 e_wa e_le e_st e_fo e_lc a_l a_g a_b a_s a_p a_w e_gb a_bb)), (a_p, (oc6 8 5 a_pn e_p)), (a_pn, (arI G 40 f_p)), (a_bb, (arJ G 24 f_bb))], rfl, ⟨(-1), (-1), z19, e_wa, by rw [wall_1 (f := f_ro) (c := p_c) (i := p_i) (fun q => by omega)]; exact e_hh, rfl, rfl⟩, by rw [ht]; exact hP.sub [4, 5, 0, 1, 2, 3] rfl, hD.sub [4, 5, 0, 1, 2, 3] (by decide) rfl⟩, hS.F ht⟩) hS.2.2 dX11_wall_19
  ·
    have i_2 : p_c.toInt < 0 ∨ 63 < p_c.toInt := i_2
    have hP := g5_same hP hk1
    generalize H1 = H at hP hS ⊢
    refine lv_if_eq (tgt := 14) hx hb dX11_wall_4 (by decide) (fun c_20 => ?_) (fun c_20 => ?_)
    ·
      refine lv_aload_n hx hb dX11_wall_14 rfl (lv_at hl 0 rfl) ?_
      refine lv_iconst (v := (-1)) hx hb dX11_wall_15 (by decide) ?_
      obtain ⟨hPc, hDc, hFc⟩ := g5_sub3 (wc := [(a_o, (oc11 a_h a_im a_ke a_k a_wa a_th a_ha a_wk a_r a_x e_tl e_fd e_fpl a_wd e_wn a_rf e_lr)), (a_rf, (arI G 5 f_rf))]) hP hD hS hA [0, 1] (by decide) rfl
      refine va_calli (va_runV (As := [.int (-1)]) (rest := []) ⟨hx, hb, hml, hown, hts⟩ (x_refuse1 l G a_o a_rf a_h a_im a_ke a_k a_wa a_th a_ha a_wk a_r a_x a_wd H.size e_tl e_fd e_fpl e_wn e_lr f_rf h_e_tl h_e_wn) (cwV 1 hts gV_X11_104 rfl rfl rfl hv_X11_refuse ⟨Nat.le_of_ble_eq_true rfl, Nat.le_of_ble_eq_true rfl⟩) (g5_preV hPc hK hDc hN hT hS hFc (ci := 11) (q0 := 0) rfl rfl) rfl rfl hl.1 rfl (lv_room (Nat.le_of_ble_eq_true rfl)) dX11_wall_16 ⟨Nat.le_of_ble_eq_true rfl, Nat.le_of_ble_eq_true rfl⟩) hS (fun q _ h => hFc q h) hFc (fun r u t H1 locs ht hvm hw hB hz1 hk1 hS => ?_)
      obtain ⟨hP1, hD1⟩ := hB
      rw [ht] at hP1
      obtain ⟨z21, rfl, rfl⟩ := hw
      obtain ⟨hP, hD⟩ := va_join (wr := [(a_h, (oc1 e_wa e_le e_st e_fo e_lc a_l a_g a_b a_s a_p a_w e_gb a_bb)), (a_p, (oc6 8 5 a_pn e_p)), (a_pn, (arI G 40 f_p)), (a_bb, (arJ G 24 f_bb))]) hP hD [0, 1] [2, 3, 4, 5] rfl rfl (by decide) (by decide) hk1 hFc hP1 hD1
      generalize H1 = H at hP hS ⊢
      refine g5_rs [(a_h, (oc1 e_wa e_le e_st e_fo e_lc a_l a_g a_b a_s a_p a_w e_gb a_bb)), (a_p, (oc6 8 5 a_pn e_p)), (a_pn, (arI G 40 f_p)), (a_bb, (arJ G 24 f_bb)), (a_o, (oc11 a_h a_im a_ke a_k a_wa a_th a_ha a_wk a_r a_x e_tl e_fd e_fpl a_wd e_wn a_rf (-1))), (a_rf, (arI G 5 z21))] hP hD (fun hP hD => ?_)
      exact W.iret (v := (-1)) hx hb hr (fun t ht hW => ⟨⟨(-1), [(a_o, (oc11 a_h a_im a_ke a_k a_wa a_th a_ha a_wk a_r a_x e_tl e_fd e_fpl a_wd e_wn a_rf (-1))), (a_rf, (arI G 5 z21)), (a_h, (oc1 e_wa e_le e_st e_fo e_lc a_l a_g a_b a_s a_p a_w e_gb a_bb)), (a_p, (oc6 8 5 a_pn e_p)), (a_pn, (arI G 40 f_p)), (a_bb, (arJ G 24 f_bb))], rfl, ⟨(-1), (-1), z21, e_wa, by rw [wall_1 (f := f_ro) (c := p_c) (i := p_i) (fun q => by omega)]; exact e_hh, rfl, rfl⟩, by rw [ht]; exact hP.sub [4, 5, 0, 1, 2, 3] rfl, hD.sub [4, 5, 0, 1, 2, 3] (by decide) rfl⟩, hS.F ht⟩) hS.2.2 dX11_wall_19
    ·
      exact absurd c_20 (by decide)
