theorem dgX6_has_0 : ∀ r ∈ ([(0, (.iload_n 1, 1)), (1, (.ifCond .lt 15, 3)), (4, (.iload_n 1, 1)), (5, (.aload_n 0, 1)), (6, (.getfield 9, 3)), (9, (.if_icmp .ge 7, 3)), (12, (.iconst 1, 1)), (13, (.goto 4, 3)), (16, (.iconst 0, 1)), (17, (.ireturn, 1))] : List (Nat × (Instr × Nat))), decode cX6_has r.1 = .ok r.2 := by decide +kernel
theorem dX6_has_0 : decode cX6_has 0 = .ok (.iload_n 1, 1) := dgX6_has_0 (0, (.iload_n 1, 1)) (List.mem_of_getElem? (i := 0) rfl)
theorem dX6_has_1 : decode cX6_has 1 = .ok (.ifCond .lt 15, 3) := dgX6_has_0 (1, (.ifCond .lt 15, 3)) (List.mem_of_getElem? (i := 1) rfl)
theorem dX6_has_4 : decode cX6_has 4 = .ok (.iload_n 1, 1) := dgX6_has_0 (4, (.iload_n 1, 1)) (List.mem_of_getElem? (i := 2) rfl)
theorem dX6_has_5 : decode cX6_has 5 = .ok (.aload_n 0, 1) := dgX6_has_0 (5, (.aload_n 0, 1)) (List.mem_of_getElem? (i := 3) rfl)
theorem dX6_has_6 : decode cX6_has 6 = .ok (.getfield 9, 3) := dgX6_has_0 (6, (.getfield 9, 3)) (List.mem_of_getElem? (i := 4) rfl)
theorem dX6_has_9 : decode cX6_has 9 = .ok (.if_icmp .ge 7, 3) := dgX6_has_0 (9, (.if_icmp .ge 7, 3)) (List.mem_of_getElem? (i := 5) rfl)
theorem dX6_has_12 : decode cX6_has 12 = .ok (.iconst 1, 1) := dgX6_has_0 (12, (.iconst 1, 1)) (List.mem_of_getElem? (i := 6) rfl)
theorem dX6_has_13 : decode cX6_has 13 = .ok (.goto 4, 3) := dgX6_has_0 (13, (.goto 4, 3)) (List.mem_of_getElem? (i := 7) rfl)
theorem dX6_has_16 : decode cX6_has 16 = .ok (.iconst 0, 1) := dgX6_has_0 (16, (.iconst 0, 1)) (List.mem_of_getElem? (i := 8) rfl)
theorem dX6_has_17 : decode cX6_has 17 = .ok (.ireturn, 1) := dgX6_has_0 (17, (.ireturn, 1)) (List.mem_of_getElem? (i := 9) rfl)
theorem inG_X6 : ∀ w ∈ wsX60, w ∈ tblG := tgs [143, 145, 147, 149] (by decide +kernel) (by decide +kernel)
theorem fl_X6_9 : Cond.fieldLink RX6 9 "LateGlass$Table" "rows" "I" ∈ tblG := tg 136 (by decide +kernel) (by decide +kernel)
set_option maxHeartbeats 4000000 in
set_option maxRecDepth 100000 in
theorem t_has_G (l : Launch) (G : g5_G) (a_t a_n : Nat) (sz : Nat) (e_n : Int32) (p_r : Int32) (h_e_n : 0 ≤ e_n.toInt ∧ e_n.toInt ≤ 6) : Met l yX6_has (wsG yX6_has cX6_has 2 (some .boolean)) ({ frames := 0, cells := 0, slots := 0, locals := 0 }) (va_Pc [.ref a_t, .int p_r] (g5_P G [(a_t, (oc6 6 5 a_n e_n))] sz)) (va_Qi (fun (r : Int32) (u : va_W) => ((0 ≤ p_r.toInt ∧ p_r.toInt < e_n.toInt) ∧ (r = 1) ∧ (u = [(a_t, (oc6 6 5 a_n e_n))])) ∨ ((p_r.toInt < 0 ∨ e_n.toInt ≤ p_r.toInt) ∧ (r = 0) ∧ (u = [(a_t, (oc6 6 5 a_n e_n))]))) (g5_B G (va_A [(a_t, (oc6 6 5 a_n e_n))] sz)) (va_A [(a_t, (oc6 6 5 a_n e_n))] sz)) 0 0 (va_A [(a_t, (oc6 6 5 a_n e_n))] sz) := by
  refine Met.ofW (cc := cX6_has) (maxL := 2) (ret := (some .boolean)) (by decide) rfl ?_
  intro p e s m args below meth c s₁ B hml hv
  obtain ⟨rfl, hsz, hP, hK, hD0, hN, hT⟩ := hv
  have hx := B.exec
  have hb := B.bytes
  have hr := B.returns
  have hts : ∀ w ∈ tblG, w.before _ s = true := fun w h => atoms_spec (ws := (wsG yX6_has cX6_has 2 (some .boolean))) B.pre w (List.mem_cons_of_mem _ h)
  have hown : s.vm.findClass RX6 = some m.cls := findClass_of_methodNamed B.named
  have hlocks := B.notSynchronized
  subst hsz
  have hD := hD0.self (sz := s.heap.size)
  generalize hAe : va_A [(a_t, (oc6 6 5 a_n e_n))] s.heap.size = A at hD hT ⊢
  have hA : ∀ q : Nat, s.heap.size ≤ q → A q := fun q h => by rw [← hAe]; exact Or.inr h
  have hS : va_S A s.heap s.heap [] := va_S.rf
  have hP : va_P G.1 vwCl [(a_t, (oc6 6 5 a_n e_n))] s.heap := hP
  have hl := lv_entry ([.ref a_t, .int p_r]) (n := 2) (Nat.le_of_ble_eq_true rfl)
  rw [lg_entry_eq]
  generalize (lg_sl ([.ref a_t, .int p_r]) ++ List.replicate (2 - (lg_sl ([.ref a_t, .int p_r])).length) Slot.unset).toArray = ls at hl ⊢
  have hl : lv_has ls 2 [(0, .ref a_t), (1, .int p_r)] := hl
  refine lv_iload_n hx hb dX6_has_0 rfl (lv_at hl 1 rfl) ?_
  refine lv_if_lt (tgt := 16) hx hb dX6_has_1 (by decide) (fun c_1 => ?_) (fun c_1 => ?_)
  ·
    have i_1 : p_r.toInt < 0 := by have z := g5_lt (a := p_r.toInt) (b := 0) (by rfl) (by decide) c_1; omega
    refine lv_iconst (v := 0) hx hb dX6_has_16 (by decide) ?_
    exact W.zret (v := 0) hx hb hr rfl (fun t ht hW => ⟨⟨0, [(a_t, (oc6 6 5 a_n e_n))], rfl, Or.inr (⟨by omega, rfl, rfl⟩), by rw [ht]; exact hP.sub [0] rfl, hD.sub [0] (by decide) rfl⟩, hS.F ht⟩) hS.2.2 dX6_has_17
  ·
    have i_1 : p_r.toInt ≥ 0 := by have z := g5_ltN (a := p_r.toInt) (b := 0) (by rfl) (by decide) c_1; omega
    refine lv_iload_n hx hb dX6_has_4 rfl (lv_at hl 1 rfl) ?_
    refine lv_aload_n hx hb dX6_has_5 rfl (lv_at hl 0 rfl) ?_
    refine va_get (D := G.1) (ci := 6) (v := .int e_n) (C := RX6) (T := TX6) (N := 4) hx hb hts inG_X6 hown hK hP 0 rfl rfl 3 (by decide) (hts _ fl_X6_9) (fun _ h9 => h9) rfl dX6_has_6 ?_
    refine lv_icmp_ge (tgt := 16) hx hb dX6_has_9 (by decide) (fun c_2 => ?_) (fun c_2 => ?_)
    ·
      have i_2 : p_r.toInt ≥ e_n.toInt := by have z := g5_ge (a := p_r.toInt) (b := e_n.toInt) (by rfl) (by rfl) c_2; omega
      refine lv_iconst (v := 0) hx hb dX6_has_16 (by decide) ?_
      exact W.zret (v := 0) hx hb hr rfl (fun t ht hW => ⟨⟨0, [(a_t, (oc6 6 5 a_n e_n))], rfl, Or.inr (⟨by omega, rfl, rfl⟩), by rw [ht]; exact hP.sub [0] rfl, hD.sub [0] (by decide) rfl⟩, hS.F ht⟩) hS.2.2 dX6_has_17
    ·
      have i_2 : p_r.toInt < e_n.toInt := by have z := g5_geN (a := p_r.toInt) (b := e_n.toInt) (by rfl) (by rfl) c_2; omega
      refine lv_iconst (v := 1) hx hb dX6_has_12 (by decide) ?_
      refine lv_goto (tgt := 17) hx hb dX6_has_13 (by decide) ?_
      exact W.zret (v := 1) hx hb hr rfl (fun t ht hW => ⟨⟨1, [(a_t, (oc6 6 5 a_n e_n))], rfl, Or.inl (⟨by omega, rfl, rfl⟩), by rw [ht]; exact hP.sub [0] rfl, hD.sub [0] (by decide) rfl⟩, hS.F ht⟩) hS.2.2 dX6_has_17
theorem dgX6_isFull_0 : ∀ r ∈ ([(0, (.aload_n 0, 1)), (1, (.getfield 9, 3)), (4, (.aload_n 0, 1)), (5, (.getfield 15, 3)), (8, (.if_icmp .lt 7, 3)), (11, (.iconst 1, 1)), (12, (.goto 4, 3)), (15, (.iconst 0, 1)), (16, (.ireturn, 1))] : List (Nat × (Instr × Nat))), decode cX6_isFull r.1 = .ok r.2 := by decide +kernel
theorem dX6_isFull_0 : decode cX6_isFull 0 = .ok (.aload_n 0, 1) := dgX6_isFull_0 (0, (.aload_n 0, 1)) (List.mem_of_getElem? (i := 0) rfl)
theorem dX6_isFull_1 : decode cX6_isFull 1 = .ok (.getfield 9, 3) := dgX6_isFull_0 (1, (.getfield 9, 3)) (List.mem_of_getElem? (i := 1) rfl)
theorem dX6_isFull_4 : decode cX6_isFull 4 = .ok (.aload_n 0, 1) := dgX6_isFull_0 (4, (.aload_n 0, 1)) (List.mem_of_getElem? (i := 2) rfl)
theorem dX6_isFull_5 : decode cX6_isFull 5 = .ok (.getfield 15, 3) := dgX6_isFull_0 (5, (.getfield 15, 3)) (List.mem_of_getElem? (i := 3) rfl)
theorem dX6_isFull_8 : decode cX6_isFull 8 = .ok (.if_icmp .lt 7, 3) := dgX6_isFull_0 (8, (.if_icmp .lt 7, 3)) (List.mem_of_getElem? (i := 4) rfl)
theorem dX6_isFull_11 : decode cX6_isFull 11 = .ok (.iconst 1, 1) := dgX6_isFull_0 (11, (.iconst 1, 1)) (List.mem_of_getElem? (i := 5) rfl)
theorem dX6_isFull_12 : decode cX6_isFull 12 = .ok (.goto 4, 3) := dgX6_isFull_0 (12, (.goto 4, 3)) (List.mem_of_getElem? (i := 6) rfl)
theorem dX6_isFull_15 : decode cX6_isFull 15 = .ok (.iconst 0, 1) := dgX6_isFull_0 (15, (.iconst 0, 1)) (List.mem_of_getElem? (i := 7) rfl)
theorem dX6_isFull_16 : decode cX6_isFull 16 = .ok (.ireturn, 1) := dgX6_isFull_0 (16, (.ireturn, 1)) (List.mem_of_getElem? (i := 8) rfl)
theorem fl_X6_15 : Cond.fieldLink RX6 15 "LateGlass$Table" "most" "I" ∈ tblG := tg 133 (by decide +kernel) (by decide +kernel)
set_option maxHeartbeats 4000000 in
set_option maxRecDepth 100000 in
theorem t_isFull_G (l : Launch) (G : g5_G) (a_t a_n : Nat) (sz : Nat) (e_n : Int32) (h_e_n : 0 ≤ e_n.toInt ∧ e_n.toInt ≤ 6) : Met l yX6_isFull (wsG yX6_isFull cX6_isFull 1 (some .boolean)) ({ frames := 0, cells := 0, slots := 0, locals := 0 }) (va_Pc [.ref a_t] (g5_P G [(a_t, (oc6 6 5 a_n e_n))] sz)) (va_Qi (fun (r : Int32) (u : va_W) => ((e_n.toInt = 6) ∧ (r = 1) ∧ (u = [(a_t, (oc6 6 5 a_n e_n))])) ∨ ((e_n.toInt < 6) ∧ (r = 0) ∧ (u = [(a_t, (oc6 6 5 a_n e_n))]))) (g5_B G (va_A [(a_t, (oc6 6 5 a_n e_n))] sz)) (va_A [(a_t, (oc6 6 5 a_n e_n))] sz)) 0 0 (va_A [(a_t, (oc6 6 5 a_n e_n))] sz) := by
  refine Met.ofW (cc := cX6_isFull) (maxL := 1) (ret := (some .boolean)) (by decide) rfl ?_
  intro p e s m args below meth c s₁ B hml hv
  obtain ⟨rfl, hsz, hP, hK, hD0, hN, hT⟩ := hv
  have hx := B.exec
  have hb := B.bytes
  have hr := B.returns
  have hts : ∀ w ∈ tblG, w.before _ s = true := fun w h => atoms_spec (ws := (wsG yX6_isFull cX6_isFull 1 (some .boolean))) B.pre w (List.mem_cons_of_mem _ h)
  have hown : s.vm.findClass RX6 = some m.cls := findClass_of_methodNamed B.named
  have hlocks := B.notSynchronized
  subst hsz
  have hD := hD0.self (sz := s.heap.size)
  generalize hAe : va_A [(a_t, (oc6 6 5 a_n e_n))] s.heap.size = A at hD hT ⊢
  have hA : ∀ q : Nat, s.heap.size ≤ q → A q := fun q h => by rw [← hAe]; exact Or.inr h
  have hS : va_S A s.heap s.heap [] := va_S.rf
  have hP : va_P G.1 vwCl [(a_t, (oc6 6 5 a_n e_n))] s.heap := hP
  have hl := lv_entry ([.ref a_t]) (n := 1) (Nat.le_of_ble_eq_true rfl)
  rw [lg_entry_eq]
  generalize (lg_sl ([.ref a_t]) ++ List.replicate (1 - (lg_sl ([.ref a_t])).length) Slot.unset).toArray = ls at hl ⊢
  have hl : lv_has ls 1 [(0, .ref a_t)] := hl
  refine lv_aload_n hx hb dX6_isFull_0 rfl (lv_at hl 0 rfl) ?_
  refine va_get (D := G.1) (ci := 6) (v := .int e_n) (C := RX6) (T := TX6) (N := 4) hx hb hts inG_X6 hown hK hP 0 rfl rfl 3 (by decide) (hts _ fl_X6_9) (fun _ h9 => h9) rfl dX6_isFull_1 ?_
  refine lv_aload_n hx hb dX6_isFull_4 rfl (lv_at hl 0 rfl) ?_
  refine va_get (D := G.1) (ci := 6) (v := .int 6) (C := RX6) (T := TX6) (N := 4) hx hb hts inG_X6 hown hK hP 0 rfl rfl 0 (by decide) (hts _ fl_X6_15) (fun _ h9 => h9) rfl dX6_isFull_5 ?_
  refine lv_icmp_lt (tgt := 15) hx hb dX6_isFull_8 (by decide) (fun c_1 => ?_) (fun c_1 => ?_)
  ·
    have i_1 : e_n.toInt < 6 := by have z := g5_lt (a := e_n.toInt) (b := 6) (by rfl) (by decide) c_1; omega
    refine lv_iconst (v := 0) hx hb dX6_isFull_15 (by decide) ?_
    exact W.zret (v := 0) hx hb hr rfl (fun t ht hW => ⟨⟨0, [(a_t, (oc6 6 5 a_n e_n))], rfl, Or.inr (⟨by omega, rfl, rfl⟩), by rw [ht]; exact hP.sub [0] rfl, hD.sub [0] (by decide) rfl⟩, hS.F ht⟩) hS.2.2 dX6_isFull_16
  ·
    have i_1 : e_n.toInt ≥ 6 := by have z := g5_ltN (a := e_n.toInt) (b := 6) (by rfl) (by decide) c_1; omega
    refine lv_iconst (v := 1) hx hb dX6_isFull_11 (by decide) ?_
    refine lv_goto (tgt := 16) hx hb dX6_isFull_12 (by decide) ?_
    exact W.zret (v := 1) hx hb hr rfl (fun t ht hW => ⟨⟨1, [(a_t, (oc6 6 5 a_n e_n))], rfl, Or.inl (⟨by omega, rfl, rfl⟩), by rw [ht]; exact hP.sub [0] rfl, hD.sub [0] (by decide) rfl⟩, hS.F ht⟩) hS.2.2 dX6_isFull_16
theorem dgX6_get_0 : ∀ r ∈ ([(0, (.iload_n 1, 1)), (1, (.ifCond .lt 23, 3)), (4, (.iload_n 1, 1)), (5, (.aload_n 0, 1)), (6, (.getfield 9, 3)), (9, (.if_icmp .ge 15, 3)), (12, (.iload_n 2, 1)), (13, (.ifCond .lt 11, 3)), (16, (.iload_n 2, 1)), (17, (.aload_n 0, 1)), (18, (.getfield 18, 3)), (21, (.if_icmp .lt 5, 3)), (24, (.iconst (-1), 1)), (25, (.ireturn, 1)), (26, (.aload_n 0, 1)), (27, (.getfield 21, 3)), (30, (.iload_n 1, 1)), (31, (.aload_n 0, 1)), (32, (.getfield 18, 3)), (35, (.imul, 1)), (36, (.iload_n 2, 1)), (37, (.iadd, 1)), (38, (.iaload, 1)), (39, (.ireturn, 1))] : List (Nat × (Instr × Nat))), decode cX6_get r.1 = .ok r.2 := by decide +kernel
theorem dX6_get_0 : decode cX6_get 0 = .ok (.iload_n 1, 1) := dgX6_get_0 (0, (.iload_n 1, 1)) (List.mem_of_getElem? (i := 0) rfl)
theorem dX6_get_1 : decode cX6_get 1 = .ok (.ifCond .lt 23, 3) := dgX6_get_0 (1, (.ifCond .lt 23, 3)) (List.mem_of_getElem? (i := 1) rfl)
theorem dX6_get_4 : decode cX6_get 4 = .ok (.iload_n 1, 1) := dgX6_get_0 (4, (.iload_n 1, 1)) (List.mem_of_getElem? (i := 2) rfl)
theorem dX6_get_5 : decode cX6_get 5 = .ok (.aload_n 0, 1) := dgX6_get_0 (5, (.aload_n 0, 1)) (List.mem_of_getElem? (i := 3) rfl)
theorem dX6_get_6 : decode cX6_get 6 = .ok (.getfield 9, 3) := dgX6_get_0 (6, (.getfield 9, 3)) (List.mem_of_getElem? (i := 4) rfl)
theorem dX6_get_9 : decode cX6_get 9 = .ok (.if_icmp .ge 15, 3) := dgX6_get_0 (9, (.if_icmp .ge 15, 3)) (List.mem_of_getElem? (i := 5) rfl)
theorem dX6_get_12 : decode cX6_get 12 = .ok (.iload_n 2, 1) := dgX6_get_0 (12, (.iload_n 2, 1)) (List.mem_of_getElem? (i := 6) rfl)
theorem dX6_get_13 : decode cX6_get 13 = .ok (.ifCond .lt 11, 3) := dgX6_get_0 (13, (.ifCond .lt 11, 3)) (List.mem_of_getElem? (i := 7) rfl)
theorem dX6_get_16 : decode cX6_get 16 = .ok (.iload_n 2, 1) := dgX6_get_0 (16, (.iload_n 2, 1)) (List.mem_of_getElem? (i := 8) rfl)
theorem dX6_get_17 : decode cX6_get 17 = .ok (.aload_n 0, 1) := dgX6_get_0 (17, (.aload_n 0, 1)) (List.mem_of_getElem? (i := 9) rfl)
theorem dX6_get_18 : decode cX6_get 18 = .ok (.getfield 18, 3) := dgX6_get_0 (18, (.getfield 18, 3)) (List.mem_of_getElem? (i := 10) rfl)
theorem dX6_get_21 : decode cX6_get 21 = .ok (.if_icmp .lt 5, 3) := dgX6_get_0 (21, (.if_icmp .lt 5, 3)) (List.mem_of_getElem? (i := 11) rfl)
theorem dX6_get_24 : decode cX6_get 24 = .ok (.iconst (-1), 1) := dgX6_get_0 (24, (.iconst (-1), 1)) (List.mem_of_getElem? (i := 12) rfl)
theorem dX6_get_25 : decode cX6_get 25 = .ok (.ireturn, 1) := dgX6_get_0 (25, (.ireturn, 1)) (List.mem_of_getElem? (i := 13) rfl)
theorem dX6_get_26 : decode cX6_get 26 = .ok (.aload_n 0, 1) := dgX6_get_0 (26, (.aload_n 0, 1)) (List.mem_of_getElem? (i := 14) rfl)
theorem dX6_get_27 : decode cX6_get 27 = .ok (.getfield 21, 3) := dgX6_get_0 (27, (.getfield 21, 3)) (List.mem_of_getElem? (i := 15) rfl)
theorem dX6_get_30 : decode cX6_get 30 = .ok (.iload_n 1, 1) := dgX6_get_0 (30, (.iload_n 1, 1)) (List.mem_of_getElem? (i := 16) rfl)
theorem dX6_get_31 : decode cX6_get 31 = .ok (.aload_n 0, 1) := dgX6_get_0 (31, (.aload_n 0, 1)) (List.mem_of_getElem? (i := 17) rfl)
theorem dX6_get_32 : decode cX6_get 32 = .ok (.getfield 18, 3) := dgX6_get_0 (32, (.getfield 18, 3)) (List.mem_of_getElem? (i := 18) rfl)
theorem dX6_get_35 : decode cX6_get 35 = .ok (.imul, 1) := dgX6_get_0 (35, (.imul, 1)) (List.mem_of_getElem? (i := 19) rfl)
theorem dX6_get_36 : decode cX6_get 36 = .ok (.iload_n 2, 1) := dgX6_get_0 (36, (.iload_n 2, 1)) (List.mem_of_getElem? (i := 20) rfl)
theorem dX6_get_37 : decode cX6_get 37 = .ok (.iadd, 1) := dgX6_get_0 (37, (.iadd, 1)) (List.mem_of_getElem? (i := 21) rfl)
theorem dX6_get_38 : decode cX6_get 38 = .ok (.iaload, 1) := dgX6_get_0 (38, (.iaload, 1)) (List.mem_of_getElem? (i := 22) rfl)
theorem dX6_get_39 : decode cX6_get 39 = .ok (.ireturn, 1) := dgX6_get_0 (39, (.ireturn, 1)) (List.mem_of_getElem? (i := 23) rfl)
theorem fl_X6_18 : Cond.fieldLink RX6 18 "LateGlass$Table" "width" "I" ∈ tblG := tg 134 (by decide +kernel) (by decide +kernel)
theorem fl_X6_21 : Cond.fieldLink RX6 21 "LateGlass$Table" "numbers" "[I" ∈ tblG := tg 135 (by decide +kernel) (by decide +kernel)
set_option maxHeartbeats 4000000 in
set_option maxRecDepth 100000 in
theorem t_get_G (l : Launch) (G : g5_G) (a_t a_n : Nat) (sz : Nat) (e_n : Int32) (p_r : Int32) (p_c : Int32) (f_n : Nat → Int32) (h_e_n : 0 ≤ e_n.toInt ∧ e_n.toInt ≤ 6) : Met l yX6_get (wsG yX6_get cX6_get 3 (some .int)) ({ frames := 0, cells := 0, slots := 0, locals := 0 }) (va_Pc [.ref a_t, .int p_r, .int p_c] (g5_P G [(a_t, (oc6 6 5 a_n e_n)), (a_n, (arI G 30 f_n))] sz)) (va_Qi (fun (r : Int32) (u : va_W) => (∃ (o_r : Int32), (o_r = tget f_n e_n.toInt 5 p_r.toInt p_c.toInt) ∧ (r = o_r) ∧ (u = [(a_t, (oc6 6 5 a_n e_n)), (a_n, (arI G 30 f_n))]))) (g5_B G (va_A [(a_t, (oc6 6 5 a_n e_n)), (a_n, (arI G 30 f_n))] sz)) (va_A [(a_t, (oc6 6 5 a_n e_n)), (a_n, (arI G 30 f_n))] sz)) 0 0 (va_A [(a_t, (oc6 6 5 a_n e_n)), (a_n, (arI G 30 f_n))] sz) := by
  refine Met.ofW (cc := cX6_get) (maxL := 3) (ret := (some .int)) (by decide) rfl ?_
  intro p e s m args below meth c s₁ B hml hv
  obtain ⟨rfl, hsz, hP, hK, hD0, hN, hT⟩ := hv
  have hx := B.exec
  have hb := B.bytes
  have hr := B.returns
  have hts : ∀ w ∈ tblG, w.before _ s = true := fun w h => atoms_spec (ws := (wsG yX6_get cX6_get 3 (some .int))) B.pre w (List.mem_cons_of_mem _ h)
  have hown : s.vm.findClass RX6 = some m.cls := findClass_of_methodNamed B.named
  have hlocks := B.notSynchronized
  subst hsz
  have hD := hD0.self (sz := s.heap.size)
  generalize hAe : va_A [(a_t, (oc6 6 5 a_n e_n)), (a_n, (arI G 30 f_n))] s.heap.size = A at hD hT ⊢
  have hA : ∀ q : Nat, s.heap.size ≤ q → A q := fun q h => by rw [← hAe]; exact Or.inr h
  have hS : va_S A s.heap s.heap [] := va_S.rf
  have hP : va_P G.1 vwCl [(a_t, (oc6 6 5 a_n e_n)), (a_n, (arI G 30 f_n))] s.heap := hP
  have hl := lv_entry ([.ref a_t, .int p_r, .int p_c]) (n := 3) (Nat.le_of_ble_eq_true rfl)
  rw [lg_entry_eq]
  generalize (lg_sl ([.ref a_t, .int p_r, .int p_c]) ++ List.replicate (3 - (lg_sl ([.ref a_t, .int p_r, .int p_c])).length) Slot.unset).toArray = ls at hl ⊢
  have hl : lv_has ls 3 [(0, .ref a_t), (1, .int p_r), (2, .int p_c)] := hl
  refine lv_iload_n hx hb dX6_get_0 rfl (lv_at hl 1 rfl) ?_
  refine lv_if_lt (tgt := 24) hx hb dX6_get_1 (by decide) (fun c_1 => ?_) (fun c_1 => ?_)
  ·
    have i_1 : p_r.toInt < 0 := by have z := g5_lt (a := p_r.toInt) (b := 0) (by rfl) (by decide) c_1; omega
    refine lv_iconst (v := (-1)) hx hb dX6_get_24 (by decide) ?_
    exact W.iret (v := (-1)) hx hb hr (fun t ht hW => ⟨⟨(-1), [(a_t, (oc6 6 5 a_n e_n)), (a_n, (arI G 30 f_n))], rfl, ⟨(-1), qt_getN (by omega), rfl, rfl⟩, by rw [ht]; exact hP.sub [0, 1] rfl, hD.sub [0, 1] (by decide) rfl⟩, hS.F ht⟩) hS.2.2 dX6_get_25
  ·
    have i_1 : p_r.toInt ≥ 0 := by have z := g5_ltN (a := p_r.toInt) (b := 0) (by rfl) (by decide) c_1; omega
    refine lv_iload_n hx hb dX6_get_4 rfl (lv_at hl 1 rfl) ?_
    refine lv_aload_n hx hb dX6_get_5 rfl (lv_at hl 0 rfl) ?_
    refine va_get (D := G.1) (ci := 6) (v := .int e_n) (C := RX6) (T := TX6) (N := 4) hx hb hts inG_X6 hown hK hP 0 rfl rfl 3 (by decide) (hts _ fl_X6_9) (fun _ h9 => h9) rfl dX6_get_6 ?_
    refine lv_icmp_ge (tgt := 24) hx hb dX6_get_9 (by decide) (fun c_2 => ?_) (fun c_2 => ?_)
    ·
      have i_2 : p_r.toInt ≥ e_n.toInt := by have z := g5_ge (a := p_r.toInt) (b := e_n.toInt) (by rfl) (by rfl) c_2; omega
      refine lv_iconst (v := (-1)) hx hb dX6_get_24 (by decide) ?_
      exact W.iret (v := (-1)) hx hb hr (fun t ht hW => ⟨⟨(-1), [(a_t, (oc6 6 5 a_n e_n)), (a_n, (arI G 30 f_n))], rfl, ⟨(-1), qt_getN (by omega), rfl, rfl⟩, by rw [ht]; exact hP.sub [0, 1] rfl, hD.sub [0, 1] (by decide) rfl⟩, hS.F ht⟩) hS.2.2 dX6_get_25
    ·
      have i_2 : p_r.toInt < e_n.toInt := by have z := g5_geN (a := p_r.toInt) (b := e_n.toInt) (by rfl) (by rfl) c_2; omega
      refine lv_iload_n hx hb dX6_get_12 rfl (lv_at hl 2 rfl) ?_
      refine lv_if_lt (tgt := 24) hx hb dX6_get_13 (by decide) (fun c_3 => ?_) (fun c_3 => ?_)
      ·
        have i_3 : p_c.toInt < 0 := by have z := g5_lt (a := p_c.toInt) (b := 0) (by rfl) (by decide) c_3; omega
        refine lv_iconst (v := (-1)) hx hb dX6_get_24 (by decide) ?_
        exact W.iret (v := (-1)) hx hb hr (fun t ht hW => ⟨⟨(-1), [(a_t, (oc6 6 5 a_n e_n)), (a_n, (arI G 30 f_n))], rfl, ⟨(-1), qt_getN (by omega), rfl, rfl⟩, by rw [ht]; exact hP.sub [0, 1] rfl, hD.sub [0, 1] (by decide) rfl⟩, hS.F ht⟩) hS.2.2 dX6_get_25
      ·
        have i_3 : p_c.toInt ≥ 0 := by have z := g5_ltN (a := p_c.toInt) (b := 0) (by rfl) (by decide) c_3; omega
        refine lv_iload_n hx hb dX6_get_16 rfl (lv_at hl 2 rfl) ?_
        refine lv_aload_n hx hb dX6_get_17 rfl (lv_at hl 0 rfl) ?_
        refine va_get (D := G.1) (ci := 6) (v := .int 5) (C := RX6) (T := TX6) (N := 4) hx hb hts inG_X6 hown hK hP 0 rfl rfl 1 (by decide) (hts _ fl_X6_18) (fun _ h9 => h9) rfl dX6_get_18 ?_
        refine lv_icmp_lt (tgt := 26) hx hb dX6_get_21 (by decide) (fun c_4 => ?_) (fun c_4 => ?_)
        ·
          have i_4 : p_c.toInt < 5 := by have z := g5_lt (a := p_c.toInt) (b := 5) (by rfl) (by decide) c_4; omega
          refine lv_aload_n hx hb dX6_get_26 rfl (lv_at hl 0 rfl) ?_
          refine va_get (D := G.1) (ci := 6) (v := .ref a_n) (C := RX6) (T := TX6) (N := 4) hx hb hts inG_X6 hown hK hP 0 rfl rfl 2 (by decide) (hts _ fl_X6_21) (fun _ h9 => h9) rfl dX6_get_27 ?_
          refine lv_iload_n hx hb dX6_get_30 rfl (lv_at hl 1 rfl) ?_
          refine lv_aload_n hx hb dX6_get_31 rfl (lv_at hl 0 rfl) ?_
          refine va_get (D := G.1) (ci := 6) (v := .int 5) (C := RX6) (T := TX6) (N := 4) hx hb hts inG_X6 hown hK hP 0 rfl rfl 1 (by decide) (hts _ fl_X6_18) (fun _ h9 => h9) rfl dX6_get_32 ?_
          refine lv_imul hx hb dX6_get_35 ?_
          have t_5 : (p_r * 5).toInt = p_r.toInt * 5 := g5_imul (a := p_r.toInt) (b := 5) (by rfl) (by decide) (by omega) (by omega)
          refine lv_iload_n hx hb dX6_get_36 rfl (lv_at hl 2 rfl) ?_
          refine lv_iadd hx hb dX6_get_37 ?_
          have t_6 : ((p_r * 5) + p_c).toInt = (p_r * 5).toInt + p_c.toInt := g5_iadd (a := (p_r * 5).toInt) (b := p_c.toInt) (by rfl) (by rfl) (by omega) (by omega)
          refine va_iald hx hb hK hP 1 0 rfl rfl (i := ((p_r * 5) + p_c)) (vp_in_iff.mpr ⟨by omega, by omega⟩) dX6_get_38 ?_
          exact W.iret (v := (f_n ((p_r * 5) + p_c).toNatClampNeg)) hx hb hr (fun t ht hW => ⟨⟨(f_n ((p_r * 5) + p_c).toNatClampNeg), [(a_t, (oc6 6 5 a_n e_n)), (a_n, (arI G 30 f_n))], rfl, ⟨(f_n ((p_r * 5) + p_c).toNatClampNeg), qt_get (x := ((p_r * 5) + p_c)) (by omega) (by omega), rfl, rfl⟩, by rw [ht]; exact hP.sub [0, 1] rfl, hD.sub [0, 1] (by decide) rfl⟩, hS.F ht⟩) hS.2.2 dX6_get_39
        ·
          have i_4 : p_c.toInt ≥ 5 := by have z := g5_ltN (a := p_c.toInt) (b := 5) (by rfl) (by decide) c_4; omega
          refine lv_iconst (v := (-1)) hx hb dX6_get_24 (by decide) ?_
          exact W.iret (v := (-1)) hx hb hr (fun t ht hW => ⟨⟨(-1), [(a_t, (oc6 6 5 a_n e_n)), (a_n, (arI G 30 f_n))], rfl, ⟨(-1), qt_getN (by omega), rfl, rfl⟩, by rw [ht]; exact hP.sub [0, 1] rfl, hD.sub [0, 1] (by decide) rfl⟩, hS.F ht⟩) hS.2.2 dX6_get_25
theorem dgX6_set_0 : ∀ r ∈ ([(0, (.aload_n 0, 1)), (1, (.iload_n 1, 1)), (2, (.invokevirtual 25, 3)), (5, (.ifCond .eq 29, 3)), (8, (.iload_n 2, 1)), (9, (.ifCond .lt 25, 3)), (12, (.iload_n 2, 1)), (13, (.aload_n 0, 1)), (14, (.getfield 18, 3)), (17, (.if_icmp .ge 17, 3)), (20, (.aload_n 0, 1)), (21, (.getfield 21, 3)), (24, (.iload_n 1, 1)), (25, (.aload_n 0, 1)), (26, (.getfield 18, 3)), (29, (.imul, 1)), (30, (.iload_n 2, 1)), (31, (.iadd, 1)), (32, (.iload_n 3, 1)), (33, (.iastore, 1)), (34, (.return_, 1))] : List (Nat × (Instr × Nat))), decode cX6_set r.1 = .ok r.2 := by decide +kernel
theorem dX6_set_0 : decode cX6_set 0 = .ok (.aload_n 0, 1) := dgX6_set_0 (0, (.aload_n 0, 1)) (List.mem_of_getElem? (i := 0) rfl)
theorem dX6_set_1 : decode cX6_set 1 = .ok (.iload_n 1, 1) := dgX6_set_0 (1, (.iload_n 1, 1)) (List.mem_of_getElem? (i := 1) rfl)
theorem dX6_set_2 : decode cX6_set 2 = .ok (.invokevirtual 25, 3) := dgX6_set_0 (2, (.invokevirtual 25, 3)) (List.mem_of_getElem? (i := 2) rfl)
theorem dX6_set_5 : decode cX6_set 5 = .ok (.ifCond .eq 29, 3) := dgX6_set_0 (5, (.ifCond .eq 29, 3)) (List.mem_of_getElem? (i := 3) rfl)
theorem dX6_set_8 : decode cX6_set 8 = .ok (.iload_n 2, 1) := dgX6_set_0 (8, (.iload_n 2, 1)) (List.mem_of_getElem? (i := 4) rfl)
theorem dX6_set_9 : decode cX6_set 9 = .ok (.ifCond .lt 25, 3) := dgX6_set_0 (9, (.ifCond .lt 25, 3)) (List.mem_of_getElem? (i := 5) rfl)
theorem dX6_set_12 : decode cX6_set 12 = .ok (.iload_n 2, 1) := dgX6_set_0 (12, (.iload_n 2, 1)) (List.mem_of_getElem? (i := 6) rfl)
theorem dX6_set_13 : decode cX6_set 13 = .ok (.aload_n 0, 1) := dgX6_set_0 (13, (.aload_n 0, 1)) (List.mem_of_getElem? (i := 7) rfl)
theorem dX6_set_14 : decode cX6_set 14 = .ok (.getfield 18, 3) := dgX6_set_0 (14, (.getfield 18, 3)) (List.mem_of_getElem? (i := 8) rfl)
theorem dX6_set_17 : decode cX6_set 17 = .ok (.if_icmp .ge 17, 3) := dgX6_set_0 (17, (.if_icmp .ge 17, 3)) (List.mem_of_getElem? (i := 9) rfl)
theorem dX6_set_20 : decode cX6_set 20 = .ok (.aload_n 0, 1) := dgX6_set_0 (20, (.aload_n 0, 1)) (List.mem_of_getElem? (i := 10) rfl)
theorem dX6_set_21 : decode cX6_set 21 = .ok (.getfield 21, 3) := dgX6_set_0 (21, (.getfield 21, 3)) (List.mem_of_getElem? (i := 11) rfl)
theorem dX6_set_24 : decode cX6_set 24 = .ok (.iload_n 1, 1) := dgX6_set_0 (24, (.iload_n 1, 1)) (List.mem_of_getElem? (i := 12) rfl)
theorem dX6_set_25 : decode cX6_set 25 = .ok (.aload_n 0, 1) := dgX6_set_0 (25, (.aload_n 0, 1)) (List.mem_of_getElem? (i := 13) rfl)
theorem dX6_set_26 : decode cX6_set 26 = .ok (.getfield 18, 3) := dgX6_set_0 (26, (.getfield 18, 3)) (List.mem_of_getElem? (i := 14) rfl)
theorem dX6_set_29 : decode cX6_set 29 = .ok (.imul, 1) := dgX6_set_0 (29, (.imul, 1)) (List.mem_of_getElem? (i := 15) rfl)
theorem dX6_set_30 : decode cX6_set 30 = .ok (.iload_n 2, 1) := dgX6_set_0 (30, (.iload_n 2, 1)) (List.mem_of_getElem? (i := 16) rfl)
theorem dX6_set_31 : decode cX6_set 31 = .ok (.iadd, 1) := dgX6_set_0 (31, (.iadd, 1)) (List.mem_of_getElem? (i := 17) rfl)
theorem dX6_set_32 : decode cX6_set 32 = .ok (.iload_n 3, 1) := dgX6_set_0 (32, (.iload_n 3, 1)) (List.mem_of_getElem? (i := 18) rfl)
theorem dX6_set_33 : decode cX6_set 33 = .ok (.iastore, 1) := dgX6_set_0 (33, (.iastore, 1)) (List.mem_of_getElem? (i := 19) rfl)
theorem dX6_set_34 : decode cX6_set 34 = .ok (.return_, 1) := dgX6_set_0 (34, (.return_, 1)) (List.mem_of_getElem? (i := 20) rfl)
theorem ml_X6_25 : Cond.methodLink RX6 25 yX6_has ∈ tblG := tg 561 (by decide +kernel) (by decide +kernel)
theorem im_X6_has : Cond.instanceMethod yX6_has ∈ tblG := tg 562 (by decide +kernel) (by decide +kernel)
theorem se_X6_has : Cond.selects RX6 yX6_has yX6_has ∈ tblG := tg 563 (by decide +kernel) (by decide +kernel)
theorem ini_X6 : Cond.initialized RX6 ∈ tblG := tg 90 (by decide +kernel) (by decide +kernel)
theorem cd_X6_has : Cond.code yX6_has cX6_has 2 (some .boolean) ∈ tblG := tg 564 (by decide +kernel) (by decide +kernel)
theorem gW_X6_has : GoodIn tblG (wsG yX6_has cX6_has 2 (some .boolean)) := tgi cd_X6_has
theorem gV_X6_25 : GoodIn tblG (wsV RX6 25 RX6 yX6_has (wsG yX6_has cX6_has 2 (some .boolean))) := tgV ml_X6_25 im_X6_has se_X6_has ini_X6 gW_X6_has
theorem hv_X6_has : yX6_has.cls = RX6 ∧ yX6_has.cls ≠ "java/lang/invoke/MethodHandle" ∧ yX6_has.cls ≠ "java/lang/invoke/VarHandle" ∧ (parseMethodDescriptor yX6_has.desc).map (fun d => d.parameters.length) = some 1 := by decide +kernel
set_option maxHeartbeats 4000000 in
set_option maxRecDepth 100000 in
theorem t_set_G (l : Launch) (G : g5_G) (a_t a_n : Nat) (sz : Nat) (e_n : Int32) (p_r : Int32) (p_c : Int32) (p_v : Int32) (f_n : Nat → Int32) (h_e_n : 0 ≤ e_n.toInt ∧ e_n.toInt ≤ 6) : Met l yX6_set (wsG yX6_set cX6_set 4 none) ({ frames := 1, cells := 0, slots := 0, locals := 21 }) (va_Pc [.ref a_t, .int p_r, .int p_c, .int p_v] (g5_P G [(a_t, (oc6 6 5 a_n e_n)), (a_n, (arI G 30 f_n))] sz)) (va_Qv (fun (u : va_W) => (∃ (o_f : Nat → Int32), (o_f = tset f_n e_n.toInt 5 p_r.toInt p_c.toInt p_v) ∧ (u = [(a_t, (oc6 6 5 a_n e_n)), (a_n, (arI G 30 o_f))]))) (g5_B G (va_A [(a_t, (oc6 6 5 a_n e_n)), (a_n, (arI G 30 f_n))] sz)) (va_A [(a_t, (oc6 6 5 a_n e_n)), (a_n, (arI G 30 f_n))] sz)) 0 0 (va_A [(a_t, (oc6 6 5 a_n e_n)), (a_n, (arI G 30 f_n))] sz) := by
  refine Met.ofW (cc := cX6_set) (maxL := 4) (ret := none) (by decide) rfl ?_
  intro p e s m args below meth c s₁ B hml hv
  obtain ⟨rfl, hsz, hP, hK, hD0, hN, hT⟩ := hv
  have hx := B.exec
  have hb := B.bytes
  have hr := B.returns
  have hts : ∀ w ∈ tblG, w.before _ s = true := fun w h => atoms_spec (ws := (wsG yX6_set cX6_set 4 none)) B.pre w (List.mem_cons_of_mem _ h)
  have hown : s.vm.findClass RX6 = some m.cls := findClass_of_methodNamed B.named
  have hlocks := B.notSynchronized
  subst hsz
  have hD := hD0.self (sz := s.heap.size)
  generalize hAe : va_A [(a_t, (oc6 6 5 a_n e_n)), (a_n, (arI G 30 f_n))] s.heap.size = A at hD hT ⊢
  have hA : ∀ q : Nat, s.heap.size ≤ q → A q := fun q h => by rw [← hAe]; exact Or.inr h
  have hS : va_S A s.heap s.heap [] := va_S.rf
  have hP : va_P G.1 vwCl [(a_t, (oc6 6 5 a_n e_n)), (a_n, (arI G 30 f_n))] s.heap := hP
  have hl := lv_entry ([.ref a_t, .int p_r, .int p_c, .int p_v]) (n := 4) (Nat.le_of_ble_eq_true rfl)
  rw [lg_entry_eq]
  generalize (lg_sl ([.ref a_t, .int p_r, .int p_c, .int p_v]) ++ List.replicate (4 - (lg_sl ([.ref a_t, .int p_r, .int p_c, .int p_v])).length) Slot.unset).toArray = ls at hl ⊢
  have hl : lv_has ls 4 [(0, .ref a_t), (1, .int p_r), (2, .int p_c), (3, .int p_v)] := hl
  refine lv_aload_n hx hb dX6_set_0 rfl (lv_at hl 0 rfl) ?_
  refine lv_iload_n hx hb dX6_set_1 rfl (lv_at hl 1 rfl) ?_
  obtain ⟨hPc, hDc, hFc⟩ := g5_sub3 (wc := [(a_t, (oc6 6 5 a_n e_n))]) hP hD hS hA [0] (by decide) rfl
  refine va_calli (va_runV (As := [.int p_r]) (rest := []) ⟨hx, hb, hml, hown, hts⟩ (t_has_G l G a_t a_n s.heap.size e_n p_r h_e_n) (cwV 1 hts gV_X6_25 rfl rfl rfl hv_X6_has ⟨Nat.le_of_ble_eq_true rfl, Nat.le_of_ble_eq_true rfl⟩) (g5_preV hPc hK hDc hN hT hS hFc (ci := 6) (q0 := 0) rfl rfl) rfl rfl hl.1 rfl (lv_room (Nat.le_of_ble_eq_true rfl)) dX6_set_2 ⟨Nat.le_of_ble_eq_true rfl, Nat.le_of_ble_eq_true rfl⟩) hS (fun q _ h => hFc q h) hFc (fun r u t H1 locs ht hvm hw hB hz1 hk1 hS => ?_)
  obtain ⟨hP1, hD1⟩ := hB
  rw [ht] at hP1
  rcases hw with ⟨i_1, rfl, rfl⟩ | ⟨i_2, rfl, rfl⟩
  ·
    have i_1 : 0 ≤ p_r.toInt ∧ p_r.toInt < e_n.toInt := i_1
    obtain ⟨hP, hD⟩ := va_join (wr := [(a_n, (arI G 30 f_n))]) hP hD [0] [1] rfl rfl (by decide) (by decide) hk1 hFc hP1 hD1
    generalize H1 = H at hP hS ⊢
    refine g5_rs [(a_n, (arI G 30 f_n)), (a_t, (oc6 6 5 a_n e_n))] hP hD (fun hP hD => ?_)
    refine lv_if_eq (tgt := 34) hx hb dX6_set_5 (by decide) (fun c_3 => ?_) (fun c_3 => ?_)
    ·
      exact absurd c_3 (by decide)
    ·
      refine lv_iload_n hx hb dX6_set_8 rfl (lv_at hl 2 rfl) ?_
      refine lv_if_lt (tgt := 34) hx hb dX6_set_9 (by decide) (fun c_4 => ?_) (fun c_4 => ?_)
      ·
        have i_4 : p_c.toInt < 0 := by have z := g5_lt (a := p_c.toInt) (b := 0) (by rfl) (by decide) c_4; omega
        exact W.vret hx hb hr (fun t ht hW => ⟨⟨[(a_t, (oc6 6 5 a_n e_n)), (a_n, (arI G 30 f_n))], rfl, ⟨f_n, qt_setN (by omega), rfl⟩, by rw [ht]; exact hP.sub [1, 0] rfl, hD.sub [1, 0] (by decide) rfl⟩, hS.F ht⟩) hS.2.2 dX6_set_34
      ·
        have i_4 : p_c.toInt ≥ 0 := by have z := g5_ltN (a := p_c.toInt) (b := 0) (by rfl) (by decide) c_4; omega
        refine lv_iload_n hx hb dX6_set_12 rfl (lv_at hl 2 rfl) ?_
        refine lv_aload_n hx hb dX6_set_13 rfl (lv_at hl 0 rfl) ?_
        refine va_get (D := G.1) (ci := 6) (v := .int 5) (C := RX6) (T := TX6) (N := 4) hx hb hts inG_X6 hown hK hP 1 rfl rfl 1 (by decide) (hts _ fl_X6_18) (fun _ h9 => h9) rfl dX6_set_14 ?_
        refine lv_icmp_ge (tgt := 34) hx hb dX6_set_17 (by decide) (fun c_5 => ?_) (fun c_5 => ?_)
        ·
          have i_5 : p_c.toInt ≥ 5 := by have z := g5_ge (a := p_c.toInt) (b := 5) (by rfl) (by decide) c_5; omega
          exact W.vret hx hb hr (fun t ht hW => ⟨⟨[(a_t, (oc6 6 5 a_n e_n)), (a_n, (arI G 30 f_n))], rfl, ⟨f_n, qt_setN (by omega), rfl⟩, by rw [ht]; exact hP.sub [1, 0] rfl, hD.sub [1, 0] (by decide) rfl⟩, hS.F ht⟩) hS.2.2 dX6_set_34
        ·
          have i_5 : p_c.toInt < 5 := by have z := g5_geN (a := p_c.toInt) (b := 5) (by rfl) (by decide) c_5; omega
          refine lv_aload_n hx hb dX6_set_20 rfl (lv_at hl 0 rfl) ?_
          refine va_get (D := G.1) (ci := 6) (v := .ref a_n) (C := RX6) (T := TX6) (N := 4) hx hb hts inG_X6 hown hK hP 1 rfl rfl 2 (by decide) (hts _ fl_X6_21) (fun _ h9 => h9) rfl dX6_set_21 ?_
          refine lv_iload_n hx hb dX6_set_24 rfl (lv_at hl 1 rfl) ?_
          refine lv_aload_n hx hb dX6_set_25 rfl (lv_at hl 0 rfl) ?_
          refine va_get (D := G.1) (ci := 6) (v := .int 5) (C := RX6) (T := TX6) (N := 4) hx hb hts inG_X6 hown hK hP 1 rfl rfl 1 (by decide) (hts _ fl_X6_18) (fun _ h9 => h9) rfl dX6_set_26 ?_
          refine lv_imul hx hb dX6_set_29 ?_
          have t_6 : (p_r * 5).toInt = p_r.toInt * 5 := g5_imul (a := p_r.toInt) (b := 5) (by rfl) (by decide) (by omega) (by omega)
          refine lv_iload_n hx hb dX6_set_30 rfl (lv_at hl 2 rfl) ?_
          refine lv_iadd hx hb dX6_set_31 ?_
          have t_7 : ((p_r * 5) + p_c).toInt = (p_r * 5).toInt + p_c.toInt := g5_iadd (a := (p_r * 5).toInt) (b := p_c.toInt) (by rfl) (by rfl) (by omega) (by omega)
          refine lv_iload_n hx hb dX6_set_32 rfl (lv_at hl 3 rfl) ?_
          refine va_iast hx hb hK hP hD hS 0 0 rfl rfl (i := ((p_r * 5) + p_c)) (x := p_v) (vp_in_iff.mpr ⟨by omega, by omega⟩) dX6_set_33 (fun H locs hP hD hS => ?_)
          refine g5_rs [(a_n, (arI G 30 (upd f_n ((p_r * 5) + p_c).toNatClampNeg p_v))), (a_t, (oc6 6 5 a_n e_n))] hP hD (fun hP hD => ?_)
          exact W.vret hx hb hr (fun t ht hW => ⟨⟨[(a_t, (oc6 6 5 a_n e_n)), (a_n, (arI G 30 (upd f_n ((p_r * 5) + p_c).toNatClampNeg p_v)))], rfl, ⟨(upd f_n ((p_r * 5) + p_c).toNatClampNeg p_v), qt_set (x := ((p_r * 5) + p_c)) (by omega) (by omega), rfl⟩, by rw [ht]; exact hP.sub [1, 0] rfl, hD.sub [1, 0] (by decide) rfl⟩, hS.F ht⟩) hS.2.2 dX6_set_34
  ·
    have i_2 : p_r.toInt < 0 ∨ e_n.toInt ≤ p_r.toInt := i_2
    obtain ⟨hP, hD⟩ := va_join (wr := [(a_n, (arI G 30 f_n))]) hP hD [0] [1] rfl rfl (by decide) (by decide) hk1 hFc hP1 hD1
    generalize H1 = H at hP hS ⊢
    refine g5_rs [(a_n, (arI G 30 f_n)), (a_t, (oc6 6 5 a_n e_n))] hP hD (fun hP hD => ?_)
    refine lv_if_eq (tgt := 34) hx hb dX6_set_5 (by decide) (fun c_8 => ?_) (fun c_8 => ?_)
    ·
      exact W.vret hx hb hr (fun t ht hW => ⟨⟨[(a_t, (oc6 6 5 a_n e_n)), (a_n, (arI G 30 f_n))], rfl, ⟨f_n, qt_setN (by omega), rfl⟩, by rw [ht]; exact hP.sub [1, 0] rfl, hD.sub [1, 0] (by decide) rfl⟩, hS.F ht⟩) hS.2.2 dX6_set_34
    ·
      exact absurd c_8 (by decide)
theorem dgX6_open_0 : ∀ r ∈ ([(0, (.aload_n 0, 1)), (1, (.invokevirtual 33, 3)), (4, (.ifCond .eq 5, 3)), (7, (.iconst (-1), 1)), (8, (.ireturn, 1)), (9, (.aload_n 0, 1)), (10, (.getfield 9, 3)), (13, (.istore_n 2, 1)), (14, (.aload_n 0, 1)), (15, (.dup, 1)), (16, (.getfield 9, 3)), (19, (.iconst 1, 1)), (20, (.iadd, 1)), (21, (.putfield 9, 3)), (24, (.iconst 0, 1)), (25, (.istore_n 3, 1)), (26, (.iload_n 3, 1)), (27, (.aload_n 0, 1)), (28, (.getfield 18, 3)), (31, (.if_icmp .ge 16, 3)), (34, (.aload_n 0, 1)), (35, (.iload_n 2, 1)), (36, (.iload_n 3, 1)), (37, (.iload_n 1, 1)), (38, (.invokevirtual 29, 3)), (41, (.iinc 3 1, 3)), (44, (.goto (-18), 3)), (47, (.iload_n 2, 1)), (48, (.ireturn, 1))] : List (Nat × (Instr × Nat))), decode cX6_open r.1 = .ok r.2 := by decide +kernel
theorem dX6_open_0 : decode cX6_open 0 = .ok (.aload_n 0, 1) := dgX6_open_0 (0, (.aload_n 0, 1)) (List.mem_of_getElem? (i := 0) rfl)
theorem dX6_open_1 : decode cX6_open 1 = .ok (.invokevirtual 33, 3) := dgX6_open_0 (1, (.invokevirtual 33, 3)) (List.mem_of_getElem? (i := 1) rfl)
theorem dX6_open_4 : decode cX6_open 4 = .ok (.ifCond .eq 5, 3) := dgX6_open_0 (4, (.ifCond .eq 5, 3)) (List.mem_of_getElem? (i := 2) rfl)
theorem dX6_open_7 : decode cX6_open 7 = .ok (.iconst (-1), 1) := dgX6_open_0 (7, (.iconst (-1), 1)) (List.mem_of_getElem? (i := 3) rfl)
theorem dX6_open_8 : decode cX6_open 8 = .ok (.ireturn, 1) := dgX6_open_0 (8, (.ireturn, 1)) (List.mem_of_getElem? (i := 4) rfl)
theorem dX6_open_9 : decode cX6_open 9 = .ok (.aload_n 0, 1) := dgX6_open_0 (9, (.aload_n 0, 1)) (List.mem_of_getElem? (i := 5) rfl)
theorem dX6_open_10 : decode cX6_open 10 = .ok (.getfield 9, 3) := dgX6_open_0 (10, (.getfield 9, 3)) (List.mem_of_getElem? (i := 6) rfl)
theorem dX6_open_13 : decode cX6_open 13 = .ok (.istore_n 2, 1) := dgX6_open_0 (13, (.istore_n 2, 1)) (List.mem_of_getElem? (i := 7) rfl)
theorem dX6_open_14 : decode cX6_open 14 = .ok (.aload_n 0, 1) := dgX6_open_0 (14, (.aload_n 0, 1)) (List.mem_of_getElem? (i := 8) rfl)
theorem dX6_open_15 : decode cX6_open 15 = .ok (.dup, 1) := dgX6_open_0 (15, (.dup, 1)) (List.mem_of_getElem? (i := 9) rfl)
theorem dX6_open_16 : decode cX6_open 16 = .ok (.getfield 9, 3) := dgX6_open_0 (16, (.getfield 9, 3)) (List.mem_of_getElem? (i := 10) rfl)
theorem dX6_open_19 : decode cX6_open 19 = .ok (.iconst 1, 1) := dgX6_open_0 (19, (.iconst 1, 1)) (List.mem_of_getElem? (i := 11) rfl)
theorem dX6_open_20 : decode cX6_open 20 = .ok (.iadd, 1) := dgX6_open_0 (20, (.iadd, 1)) (List.mem_of_getElem? (i := 12) rfl)
theorem dX6_open_21 : decode cX6_open 21 = .ok (.putfield 9, 3) := dgX6_open_0 (21, (.putfield 9, 3)) (List.mem_of_getElem? (i := 13) rfl)
theorem dX6_open_24 : decode cX6_open 24 = .ok (.iconst 0, 1) := dgX6_open_0 (24, (.iconst 0, 1)) (List.mem_of_getElem? (i := 14) rfl)
theorem dX6_open_25 : decode cX6_open 25 = .ok (.istore_n 3, 1) := dgX6_open_0 (25, (.istore_n 3, 1)) (List.mem_of_getElem? (i := 15) rfl)
theorem dX6_open_26 : decode cX6_open 26 = .ok (.iload_n 3, 1) := dgX6_open_0 (26, (.iload_n 3, 1)) (List.mem_of_getElem? (i := 16) rfl)
theorem dX6_open_27 : decode cX6_open 27 = .ok (.aload_n 0, 1) := dgX6_open_0 (27, (.aload_n 0, 1)) (List.mem_of_getElem? (i := 17) rfl)
theorem dX6_open_28 : decode cX6_open 28 = .ok (.getfield 18, 3) := dgX6_open_0 (28, (.getfield 18, 3)) (List.mem_of_getElem? (i := 18) rfl)
theorem dX6_open_31 : decode cX6_open 31 = .ok (.if_icmp .ge 16, 3) := dgX6_open_0 (31, (.if_icmp .ge 16, 3)) (List.mem_of_getElem? (i := 19) rfl)
theorem dX6_open_34 : decode cX6_open 34 = .ok (.aload_n 0, 1) := dgX6_open_0 (34, (.aload_n 0, 1)) (List.mem_of_getElem? (i := 20) rfl)
theorem dX6_open_35 : decode cX6_open 35 = .ok (.iload_n 2, 1) := dgX6_open_0 (35, (.iload_n 2, 1)) (List.mem_of_getElem? (i := 21) rfl)
theorem dX6_open_36 : decode cX6_open 36 = .ok (.iload_n 3, 1) := dgX6_open_0 (36, (.iload_n 3, 1)) (List.mem_of_getElem? (i := 22) rfl)
theorem dX6_open_37 : decode cX6_open 37 = .ok (.iload_n 1, 1) := dgX6_open_0 (37, (.iload_n 1, 1)) (List.mem_of_getElem? (i := 23) rfl)
theorem dX6_open_38 : decode cX6_open 38 = .ok (.invokevirtual 29, 3) := dgX6_open_0 (38, (.invokevirtual 29, 3)) (List.mem_of_getElem? (i := 24) rfl)
theorem dX6_open_41 : decode cX6_open 41 = .ok (.iinc 3 1, 3) := dgX6_open_0 (41, (.iinc 3 1, 3)) (List.mem_of_getElem? (i := 25) rfl)
theorem dX6_open_44 : decode cX6_open 44 = .ok (.goto (-18), 3) := dgX6_open_0 (44, (.goto (-18), 3)) (List.mem_of_getElem? (i := 26) rfl)
theorem dX6_open_47 : decode cX6_open 47 = .ok (.iload_n 2, 1) := dgX6_open_0 (47, (.iload_n 2, 1)) (List.mem_of_getElem? (i := 27) rfl)
theorem dX6_open_48 : decode cX6_open 48 = .ok (.ireturn, 1) := dgX6_open_0 (48, (.ireturn, 1)) (List.mem_of_getElem? (i := 28) rfl)
theorem ml_X6_33 : Cond.methodLink RX6 33 yX6_isFull ∈ tblG := tg 556 (by decide +kernel) (by decide +kernel)
theorem im_X6_isFull : Cond.instanceMethod yX6_isFull ∈ tblG := tg 549 (by decide +kernel) (by decide +kernel)
theorem se_X6_isFull : Cond.selects RX6 yX6_isFull yX6_isFull ∈ tblG := tg 550 (by decide +kernel) (by decide +kernel)
theorem cd_X6_isFull : Cond.code yX6_isFull cX6_isFull 1 (some .boolean) ∈ tblG := tg 551 (by decide +kernel) (by decide +kernel)
theorem gW_X6_isFull : GoodIn tblG (wsG yX6_isFull cX6_isFull 1 (some .boolean)) := tgi cd_X6_isFull
theorem gV_X6_33 : GoodIn tblG (wsV RX6 33 RX6 yX6_isFull (wsG yX6_isFull cX6_isFull 1 (some .boolean))) := tgV ml_X6_33 im_X6_isFull se_X6_isFull ini_X6 gW_X6_isFull
theorem hv_X6_isFull : yX6_isFull.cls = RX6 ∧ yX6_isFull.cls ≠ "java/lang/invoke/MethodHandle" ∧ yX6_isFull.cls ≠ "java/lang/invoke/VarHandle" ∧ (parseMethodDescriptor yX6_isFull.desc).map (fun d => d.parameters.length) = some 0 := by decide +kernel
theorem ml_X6_29 : Cond.methodLink RX6 29 yX6_set ∈ tblG := tg 557 (by decide +kernel) (by decide +kernel)
theorem im_X6_set : Cond.instanceMethod yX6_set ∈ tblG := tg 558 (by decide +kernel) (by decide +kernel)
theorem se_X6_set : Cond.selects RX6 yX6_set yX6_set ∈ tblG := tg 559 (by decide +kernel) (by decide +kernel)
theorem cd_X6_set : Cond.code yX6_set cX6_set 4 none ∈ tblG := tg 560 (by decide +kernel) (by decide +kernel)
theorem gW_X6_set : GoodIn tblG (wsG yX6_set cX6_set 4 none) := tgi cd_X6_set
theorem gV_X6_29 : GoodIn tblG (wsV RX6 29 RX6 yX6_set (wsG yX6_set cX6_set 4 none)) := tgV ml_X6_29 im_X6_set se_X6_set ini_X6 gW_X6_set
theorem hv_X6_set : yX6_set.cls = RX6 ∧ yX6_set.cls ≠ "java/lang/invoke/MethodHandle" ∧ yX6_set.cls ≠ "java/lang/invoke/VarHandle" ∧ (parseMethodDescriptor yX6_set.desc).map (fun d => d.parameters.length) = some 3 := by decide +kernel
set_option maxHeartbeats 4000000 in
set_option maxRecDepth 100000 in
theorem t_open_G (l : Launch) (G : g5_G) (a_t a_n : Nat) (sz : Nat) (e_n : Int32) (p_v : Int32) (f_n : Nat → Int32) (h_e_n : 0 ≤ e_n.toInt ∧ e_n.toInt ≤ 6) : Met l yX6_open (wsG yX6_open cX6_open 4 (some .int)) ({ frames := 2, cells := 0, slots := 0, locals := 44 }) (va_Pc [.ref a_t, .int p_v] (g5_P G [(a_t, (oc6 6 5 a_n e_n)), (a_n, (arI G 30 f_n))] sz)) (va_Qi (fun (r : Int32) (u : va_W) => ((e_n.toInt = 6) ∧ (r = (-1)) ∧ (u = [(a_t, (oc6 6 5 a_n e_n)), (a_n, (arI G 30 f_n))])) ∨ (∃ (o_f : Nat → Int32), (e_n.toInt < 6) ∧ ((e_n + 1).toInt = e_n.toInt + 1) ∧ (o_f = tfil f_n e_n.toInt 5 p_v 5) ∧ (r = e_n) ∧ (u = [(a_t, (oc6 6 5 a_n (e_n + 1))), (a_n, (arI G 30 o_f))]))) (g5_B G (va_A [(a_t, (oc6 6 5 a_n e_n)), (a_n, (arI G 30 f_n))] sz)) (va_A [(a_t, (oc6 6 5 a_n e_n)), (a_n, (arI G 30 f_n))] sz)) 0 0 (va_A [(a_t, (oc6 6 5 a_n e_n)), (a_n, (arI G 30 f_n))] sz) := by
  refine Met.ofW (cc := cX6_open) (maxL := 4) (ret := (some .int)) (by decide) rfl ?_
  intro p e s m args below meth c s₁ B hml hv
  obtain ⟨rfl, hsz, hP, hK, hD0, hN, hT⟩ := hv
  have hx := B.exec
  have hb := B.bytes
  have hr := B.returns
  have hts : ∀ w ∈ tblG, w.before _ s = true := fun w h => atoms_spec (ws := (wsG yX6_open cX6_open 4 (some .int))) B.pre w (List.mem_cons_of_mem _ h)
  have hown : s.vm.findClass RX6 = some m.cls := findClass_of_methodNamed B.named
  have hlocks := B.notSynchronized
  subst hsz
  have hD := hD0.self (sz := s.heap.size)
  generalize hAe : va_A [(a_t, (oc6 6 5 a_n e_n)), (a_n, (arI G 30 f_n))] s.heap.size = A at hD hT ⊢
  have hA : ∀ q : Nat, s.heap.size ≤ q → A q := fun q h => by rw [← hAe]; exact Or.inr h
  have hS : va_S A s.heap s.heap [] := va_S.rf
  have hP : va_P G.1 vwCl [(a_t, (oc6 6 5 a_n e_n)), (a_n, (arI G 30 f_n))] s.heap := hP
  have hl := lv_entry ([.ref a_t, .int p_v]) (n := 4) (Nat.le_of_ble_eq_true rfl)
  rw [lg_entry_eq]
  generalize (lg_sl ([.ref a_t, .int p_v]) ++ List.replicate (4 - (lg_sl ([.ref a_t, .int p_v])).length) Slot.unset).toArray = ls at hl ⊢
  have hl : lv_has ls 4 [(0, .ref a_t), (1, .int p_v)] := hl
  refine lv_aload_n hx hb dX6_open_0 rfl (lv_at hl 0 rfl) ?_
  obtain ⟨hPc, hDc, hFc⟩ := g5_sub3 (wc := [(a_t, (oc6 6 5 a_n e_n))]) hP hD hS hA [0] (by decide) rfl
  refine va_calli (va_runV (As := []) (rest := []) ⟨hx, hb, hml, hown, hts⟩ (t_isFull_G l G a_t a_n s.heap.size e_n h_e_n) (cwV 0 hts gV_X6_33 rfl rfl rfl hv_X6_isFull ⟨Nat.le_of_ble_eq_true rfl, Nat.le_of_ble_eq_true rfl⟩) (g5_preV hPc hK hDc hN hT hS hFc (ci := 6) (q0 := 0) rfl rfl) rfl rfl hl.1 rfl (lv_room (Nat.le_of_ble_eq_true rfl)) dX6_open_1 ⟨Nat.le_of_ble_eq_true rfl, Nat.le_of_ble_eq_true rfl⟩) hS (fun q _ h => hFc q h) hFc (fun r u t H1 locs ht hvm hw hB hz1 hk1 hS => ?_)
  obtain ⟨hP1, hD1⟩ := hB
  rw [ht] at hP1
  rcases hw with ⟨i_1, rfl, rfl⟩ | ⟨i_2, rfl, rfl⟩
  ·
    have i_1 : e_n.toInt = 6 := i_1
    obtain ⟨hP, hD⟩ := va_join (wr := [(a_n, (arI G 30 f_n))]) hP hD [0] [1] rfl rfl (by decide) (by decide) hk1 hFc hP1 hD1
    generalize H1 = H at hP hS ⊢
    refine g5_rs [(a_n, (arI G 30 f_n)), (a_t, (oc6 6 5 a_n e_n))] hP hD (fun hP hD => ?_)
    refine lv_if_eq (tgt := 9) hx hb dX6_open_4 (by decide) (fun c_3 => ?_) (fun c_3 => ?_)
    ·
      exact absurd c_3 (by decide)
    ·
      refine lv_iconst (v := (-1)) hx hb dX6_open_7 (by decide) ?_
      exact W.iret (v := (-1)) hx hb hr (fun t ht hW => ⟨⟨(-1), [(a_t, (oc6 6 5 a_n e_n)), (a_n, (arI G 30 f_n))], rfl, Or.inl (⟨by omega, rfl, rfl⟩), by rw [ht]; exact hP.sub [1, 0] rfl, hD.sub [1, 0] (by decide) rfl⟩, hS.F ht⟩) hS.2.2 dX6_open_8
  ·
    have i_2 : e_n.toInt < 6 := i_2
    obtain ⟨hP, hD⟩ := va_join (wr := [(a_n, (arI G 30 f_n))]) hP hD [0] [1] rfl rfl (by decide) (by decide) hk1 hFc hP1 hD1
    generalize H1 = H at hP hS ⊢
    refine g5_rs [(a_n, (arI G 30 f_n)), (a_t, (oc6 6 5 a_n e_n))] hP hD (fun hP hD => ?_)
    refine lv_if_eq (tgt := 9) hx hb dX6_open_4 (by decide) (fun c_4 => ?_) (fun c_4 => ?_)
    ·
      refine lv_aload_n hx hb dX6_open_9 rfl (lv_at hl 0 rfl) ?_
      refine va_get (D := G.1) (ci := 6) (v := .int e_n) (C := RX6) (T := TX6) (N := 4) hx hb hts inG_X6 hown hK hP 1 rfl rfl 3 (by decide) (hts _ fl_X6_9) (fun _ h9 => h9) rfl dX6_open_10 ?_
      refine lv_istore_n (lv' := [(2, .int e_n), (0, .ref a_t), (1, .int p_v)]) hx hb dX6_open_13 rfl hl (by decide) rfl (fun ls hl => ?_)
      refine lv_aload_n hx hb dX6_open_14 rfl (lv_at hl 1 rfl) ?_
      refine lv_dup hx hb dX6_open_15 rfl ?_
      refine va_get (D := G.1) (ci := 6) (v := .int e_n) (C := RX6) (T := TX6) (N := 4) hx hb hts inG_X6 hown hK hP 1 rfl rfl 3 (by decide) (hts _ fl_X6_9) (fun _ h9 => h9) rfl dX6_open_16 ?_
      refine lv_iconst (v := 1) hx hb dX6_open_19 (by decide) ?_
      refine lv_iadd hx hb dX6_open_20 ?_
      have t_5 : (e_n + 1).toInt = e_n.toInt + 1 := g5_iadd (a := e_n.toInt) (b := 1) (by rfl) (by decide) (by omega) (by omega)
      refine va_put (D := G.1) (ci := 6) (v := .int (e_n + 1)) (ty := .int) (C := RX6) (T := TX6) (N := 4) hx hb hts inG_X6 tyX6 tyX6_ok nmX6 hown hK hP hD hS 1 rfl rfl 3 (by decide) (hts _ fl_X6_9) (fun _ h9 => h9) rfl (by decide +kernel) rfl rfl (Nat.le_of_ble_eq_true rfl) dX6_open_21 (fun H locs hP hD hS => ?_)
      refine g5_rs [(a_n, (arI G 30 f_n)), (a_t, (oc6 6 5 a_n (e_n + 1)))] hP hD (fun hP hD => ?_)
      refine lv_iconst (v := 0) hx hb dX6_open_24 (by decide) ?_
      refine lv_istore_n (lv' := [(3, .int 0), (2, .int e_n), (0, .ref a_t), (1, .int p_v)]) hx hb dX6_open_25 rfl hl (by decide) rfl (fun ls hl => ?_)
      refine g5_loop (α := (Int32) × (Nat → Int32)) (fun (q : (Int32) × (Nat → Int32)) (ls : Array Slot) (H : Heap) (locs : List Loc) => match q with | (k_c, k_f) => lv_has ls 4 [(3, .int k_c), (2, .int e_n), (0, .ref a_t), (1, .int p_v)] ∧ va_P G.1 vwCl [(a_n, (arI G 30 k_f)), (a_t, (oc6 6 5 a_n (e_n + 1)))] H ∧ va_D A [(a_n, (arI G 30 k_f)), (a_t, (oc6 6 5 a_n (e_n + 1)))] ∧ va_S A s.heap H locs ∧ (0 ≤ k_c.toInt ∧ k_c.toInt ≤ 5) ∧ (k_f = tfil f_n e_n.toInt 5 p_v k_c.toInt)) (fun (q : (Int32) × (Nat → Int32)) => match q with | (k_c, k_f) => Int.toNat (5 - k_c.toInt)) (0, f_n) ⟨lv_sub hl [0, 1, 2, 3] rfl, hP, hD, hS, ⟨by decide, by decide⟩, qt_fil0⟩ ?_
      rintro ⟨k_c, k_f⟩ ls H locs ⟨hl, hP, hD, hS, i_6, i_7⟩ ih_26_8
      have hl : lv_has ls 4 [(3, .int k_c), (2, .int e_n), (0, .ref a_t), (1, .int p_v)] := hl
      have i_6 : 0 ≤ k_c.toInt ∧ k_c.toInt ≤ 5 := i_6
      have i_7 : k_f = tfil f_n e_n.toInt 5 p_v k_c.toInt := i_7
      refine g5_rs [(a_n, (arI G 30 k_f)), (a_t, (oc6 6 5 a_n (e_n + 1)))] hP hD (fun hP hD => ?_)
      refine lv_iload_n hx hb dX6_open_26 rfl (lv_at hl 0 rfl) ?_
      refine lv_aload_n hx hb dX6_open_27 rfl (lv_at hl 2 rfl) ?_
      refine va_get (D := G.1) (ci := 6) (v := .int 5) (C := RX6) (T := TX6) (N := 4) hx hb hts inG_X6 hown hK hP 1 rfl rfl 1 (by decide) (hts _ fl_X6_18) (fun _ h9 => h9) rfl dX6_open_28 ?_
      refine lv_icmp_ge (tgt := 47) hx hb dX6_open_31 (by decide) (fun c_9 => ?_) (fun c_9 => ?_)
      ·
        have i_9 : k_c.toInt ≥ 5 := by have z := g5_ge (a := k_c.toInt) (b := 5) (by rfl) (by decide) c_9; omega
        refine lv_iload_n hx hb dX6_open_47 rfl (lv_at hl 1 rfl) ?_
        exact W.iret (v := e_n) hx hb hr (fun t ht hW => ⟨⟨e_n, [(a_t, (oc6 6 5 a_n (e_n + 1))), (a_n, (arI G 30 k_f))], rfl, Or.inr (⟨k_f, by omega, by omega, by rw [i_7, show k_c.toInt = 5 by omega], rfl, rfl⟩), by rw [ht]; exact hP.sub [1, 0] rfl, hD.sub [1, 0] (by decide) rfl⟩, hS.F ht⟩) hS.2.2 dX6_open_48
      ·
        have i_9 : k_c.toInt < 5 := by have z := g5_geN (a := k_c.toInt) (b := 5) (by rfl) (by decide) c_9; omega
        refine lv_aload_n hx hb dX6_open_34 rfl (lv_at hl 2 rfl) ?_
        refine lv_iload_n hx hb dX6_open_35 rfl (lv_at hl 1 rfl) ?_
        refine lv_iload_n hx hb dX6_open_36 rfl (lv_at hl 0 rfl) ?_
        refine lv_iload_n hx hb dX6_open_37 rfl (lv_at hl 3 rfl) ?_
        obtain ⟨hPc, hDc, hFc⟩ := g5_sub3 (wc := [(a_t, (oc6 6 5 a_n (e_n + 1))), (a_n, (arI G 30 k_f))]) hP hD hS hA [1, 0] (by decide) rfl
        refine va_callv (va_runV (As := [.int e_n, .int k_c, .int p_v]) (rest := []) ⟨hx, hb, hml, hown, hts⟩ (t_set_G l G a_t a_n H.size (e_n + 1) e_n k_c p_v k_f ⟨by omega, by omega⟩) (cwV 3 hts gV_X6_29 rfl rfl rfl hv_X6_set ⟨Nat.le_of_ble_eq_true rfl, Nat.le_of_ble_eq_true rfl⟩) (g5_preV hPc hK hDc hN hT hS hFc (ci := 6) (q0 := 0) rfl rfl) rfl rfl hl.1 rfl (lv_room (Nat.le_of_ble_eq_true rfl)) dX6_open_38 ⟨Nat.le_of_ble_eq_true rfl, Nat.le_of_ble_eq_true rfl⟩) hS (fun q _ h => hFc q h) hFc (fun u t H1 locs ht hvm hw hB hz1 hk1 hS => ?_)
        obtain ⟨hP1, hD1⟩ := hB
        rw [ht] at hP1
        obtain ⟨z11, i_10, rfl⟩ := hw
        have i_10 : z11 = tset k_f (e_n + 1).toInt 5 e_n.toInt k_c.toInt p_v := i_10
        obtain ⟨hP, hD⟩ := va_join (wr := []) hP hD [1, 0] [] rfl rfl (by decide) (by decide) hk1 hFc hP1 hD1
        generalize H1 = H at hP hS ⊢
        refine g5_rs [(a_t, (oc6 6 5 a_n (e_n + 1))), (a_n, (arI G 30 z11))] hP hD (fun hP hD => ?_)
        refine lv_iinc (v := (k_c + 1)) (lv' := [(3, .int (k_c + 1)), (2, .int e_n), (0, .ref a_t), (1, .int p_v)]) hx hb dX6_open_41 hl (k := 0) rfl rfl (by decide) rfl (fun ls hl => ?_)
        have t_12 : (k_c + 1).toInt = k_c.toInt + 1 := g5_iadd (a := k_c.toInt) (b := 1) rfl (by decide) (by omega) (by omega)
        refine lv_goto (tgt := 26) hx hb dX6_open_44 (by decide) ?_
        exact ih_26_8 ((k_c + 1), z11) ls H locs (show Int.toNat (5 - (k_c + 1).toInt) < Int.toNat (5 - k_c.toInt) from g_up (show k_c.toInt < (k_c + 1).toInt by omega) (show k_c.toInt < 5 by omega)) ⟨lv_sub hl [0, 1, 2, 3] rfl, hP.sub [1, 0] rfl, hD.sub [1, 0] (by decide) rfl, hS, ⟨by omega, by omega⟩, i_10.trans (qt_filS i_7 (by omega) (by omega) (by omega) (by omega) (by omega))⟩
    ·
      exact absurd c_4 (by decide)
theorem dgX6_find_0 : ∀ r ∈ ([(0, (.iconst 0, 1)), (1, (.istore_n 3, 1)), (2, (.iload_n 3, 1)), (3, (.aload_n 0, 1)), (4, (.getfield 9, 3)), (7, (.if_icmp .ge 21, 3)), (10, (.aload_n 0, 1)), (11, (.iload_n 3, 1)), (12, (.iload_n 1, 1)), (13, (.invokevirtual 43, 3)), (16, (.iload_n 2, 1)), (17, (.if_icmp .ne 5, 3)), (20, (.iload_n 3, 1)), (21, (.ireturn, 1)), (22, (.iinc 3 1, 3)), (25, (.goto (-23), 3)), (28, (.iconst (-1), 1)), (29, (.ireturn, 1))] : List (Nat × (Instr × Nat))), decode cX6_find r.1 = .ok r.2 := by decide +kernel
theorem dX6_find_0 : decode cX6_find 0 = .ok (.iconst 0, 1) := dgX6_find_0 (0, (.iconst 0, 1)) (List.mem_of_getElem? (i := 0) rfl)
theorem dX6_find_1 : decode cX6_find 1 = .ok (.istore_n 3, 1) := dgX6_find_0 (1, (.istore_n 3, 1)) (List.mem_of_getElem? (i := 1) rfl)
theorem dX6_find_2 : decode cX6_find 2 = .ok (.iload_n 3, 1) := dgX6_find_0 (2, (.iload_n 3, 1)) (List.mem_of_getElem? (i := 2) rfl)
theorem dX6_find_3 : decode cX6_find 3 = .ok (.aload_n 0, 1) := dgX6_find_0 (3, (.aload_n 0, 1)) (List.mem_of_getElem? (i := 3) rfl)
theorem dX6_find_4 : decode cX6_find 4 = .ok (.getfield 9, 3) := dgX6_find_0 (4, (.getfield 9, 3)) (List.mem_of_getElem? (i := 4) rfl)
theorem dX6_find_7 : decode cX6_find 7 = .ok (.if_icmp .ge 21, 3) := dgX6_find_0 (7, (.if_icmp .ge 21, 3)) (List.mem_of_getElem? (i := 5) rfl)
theorem dX6_find_10 : decode cX6_find 10 = .ok (.aload_n 0, 1) := dgX6_find_0 (10, (.aload_n 0, 1)) (List.mem_of_getElem? (i := 6) rfl)
theorem dX6_find_11 : decode cX6_find 11 = .ok (.iload_n 3, 1) := dgX6_find_0 (11, (.iload_n 3, 1)) (List.mem_of_getElem? (i := 7) rfl)
theorem dX6_find_12 : decode cX6_find 12 = .ok (.iload_n 1, 1) := dgX6_find_0 (12, (.iload_n 1, 1)) (List.mem_of_getElem? (i := 8) rfl)
theorem dX6_find_13 : decode cX6_find 13 = .ok (.invokevirtual 43, 3) := dgX6_find_0 (13, (.invokevirtual 43, 3)) (List.mem_of_getElem? (i := 9) rfl)
theorem dX6_find_16 : decode cX6_find 16 = .ok (.iload_n 2, 1) := dgX6_find_0 (16, (.iload_n 2, 1)) (List.mem_of_getElem? (i := 10) rfl)
theorem dX6_find_17 : decode cX6_find 17 = .ok (.if_icmp .ne 5, 3) := dgX6_find_0 (17, (.if_icmp .ne 5, 3)) (List.mem_of_getElem? (i := 11) rfl)
theorem dX6_find_20 : decode cX6_find 20 = .ok (.iload_n 3, 1) := dgX6_find_0 (20, (.iload_n 3, 1)) (List.mem_of_getElem? (i := 12) rfl)
theorem dX6_find_21 : decode cX6_find 21 = .ok (.ireturn, 1) := dgX6_find_0 (21, (.ireturn, 1)) (List.mem_of_getElem? (i := 13) rfl)
theorem dX6_find_22 : decode cX6_find 22 = .ok (.iinc 3 1, 3) := dgX6_find_0 (22, (.iinc 3 1, 3)) (List.mem_of_getElem? (i := 14) rfl)
theorem dX6_find_25 : decode cX6_find 25 = .ok (.goto (-23), 3) := dgX6_find_0 (25, (.goto (-23), 3)) (List.mem_of_getElem? (i := 15) rfl)
theorem dX6_find_28 : decode cX6_find 28 = .ok (.iconst (-1), 1) := dgX6_find_0 (28, (.iconst (-1), 1)) (List.mem_of_getElem? (i := 16) rfl)
theorem dX6_find_29 : decode cX6_find 29 = .ok (.ireturn, 1) := dgX6_find_0 (29, (.ireturn, 1)) (List.mem_of_getElem? (i := 17) rfl)
theorem ml_X6_43 : Cond.methodLink RX6 43 yX6_get ∈ tblG := tg 521 (by decide +kernel) (by decide +kernel)
theorem im_X6_get : Cond.instanceMethod yX6_get ∈ tblG := tg 522 (by decide +kernel) (by decide +kernel)
theorem se_X6_get : Cond.selects RX6 yX6_get yX6_get ∈ tblG := tg 523 (by decide +kernel) (by decide +kernel)
theorem cd_X6_get : Cond.code yX6_get cX6_get 3 (some .int) ∈ tblG := tg 524 (by decide +kernel) (by decide +kernel)
theorem gW_X6_get : GoodIn tblG (wsG yX6_get cX6_get 3 (some .int)) := tgi cd_X6_get
theorem gV_X6_43 : GoodIn tblG (wsV RX6 43 RX6 yX6_get (wsG yX6_get cX6_get 3 (some .int))) := tgV ml_X6_43 im_X6_get se_X6_get ini_X6 gW_X6_get
theorem hv_X6_get : yX6_get.cls = RX6 ∧ yX6_get.cls ≠ "java/lang/invoke/MethodHandle" ∧ yX6_get.cls ≠ "java/lang/invoke/VarHandle" ∧ (parseMethodDescriptor yX6_get.desc).map (fun d => d.parameters.length) = some 2 := by decide +kernel
set_option maxHeartbeats 4000000 in
set_option maxRecDepth 100000 in
theorem t_find_G (l : Launch) (G : g5_G) (a_t a_n : Nat) (sz : Nat) (e_n : Int32) (p_c : Int32) (p_v : Int32) (f_n : Nat → Int32) (h_e_n : 0 ≤ e_n.toInt ∧ e_n.toInt ≤ 6) : Met l yX6_find (wsG yX6_find cX6_find 4 (some .int)) ({ frames := 1, cells := 0, slots := 0, locals := 22 }) (va_Pc [.ref a_t, .int p_c, .int p_v] (g5_P G [(a_t, (oc6 6 5 a_n e_n)), (a_n, (arI G 30 f_n))] sz)) (va_Qi (fun (r : Int32) (u : va_W) => ((∀ r : Int, 0 ≤ r → r < e_n.toInt → tget f_n e_n.toInt 5 r p_c.toInt ≠ p_v) ∧ (r = (-1)) ∧ (u = [(a_t, (oc6 6 5 a_n e_n)), (a_n, (arI G 30 f_n))])) ∨ (∃ (o_r : Int32), (0 ≤ o_r.toInt ∧ o_r.toInt < e_n.toInt) ∧ (tget f_n e_n.toInt 5 o_r.toInt p_c.toInt = p_v) ∧ (r = o_r) ∧ (u = [(a_t, (oc6 6 5 a_n e_n)), (a_n, (arI G 30 f_n))]))) (g5_B G (va_A [(a_t, (oc6 6 5 a_n e_n)), (a_n, (arI G 30 f_n))] sz)) (va_A [(a_t, (oc6 6 5 a_n e_n)), (a_n, (arI G 30 f_n))] sz)) 0 0 (va_A [(a_t, (oc6 6 5 a_n e_n)), (a_n, (arI G 30 f_n))] sz) := by
  refine Met.ofW (cc := cX6_find) (maxL := 4) (ret := (some .int)) (by decide) rfl ?_
  intro p e s m args below meth c s₁ B hml hv
  obtain ⟨rfl, hsz, hP, hK, hD0, hN, hT⟩ := hv
  have hx := B.exec
  have hb := B.bytes
  have hr := B.returns
  have hts : ∀ w ∈ tblG, w.before _ s = true := fun w h => atoms_spec (ws := (wsG yX6_find cX6_find 4 (some .int))) B.pre w (List.mem_cons_of_mem _ h)
  have hown : s.vm.findClass RX6 = some m.cls := findClass_of_methodNamed B.named
  have hlocks := B.notSynchronized
  subst hsz
  have hD := hD0.self (sz := s.heap.size)
  generalize hAe : va_A [(a_t, (oc6 6 5 a_n e_n)), (a_n, (arI G 30 f_n))] s.heap.size = A at hD hT ⊢
  have hA : ∀ q : Nat, s.heap.size ≤ q → A q := fun q h => by rw [← hAe]; exact Or.inr h
  have hS : va_S A s.heap s.heap [] := va_S.rf
  have hP : va_P G.1 vwCl [(a_t, (oc6 6 5 a_n e_n)), (a_n, (arI G 30 f_n))] s.heap := hP
  have hl := lv_entry ([.ref a_t, .int p_c, .int p_v]) (n := 4) (Nat.le_of_ble_eq_true rfl)
  rw [lg_entry_eq]
  generalize (lg_sl ([.ref a_t, .int p_c, .int p_v]) ++ List.replicate (4 - (lg_sl ([.ref a_t, .int p_c, .int p_v])).length) Slot.unset).toArray = ls at hl ⊢
  have hl : lv_has ls 4 [(0, .ref a_t), (1, .int p_c), (2, .int p_v)] := hl
  refine lv_iconst (v := 0) hx hb dX6_find_0 (by decide) ?_
  refine lv_istore_n (lv' := [(3, .int 0), (0, .ref a_t), (1, .int p_c), (2, .int p_v)]) hx hb dX6_find_1 rfl hl (by decide) rfl (fun ls hl => ?_)
  refine g5_loop (α := (Int32)) (fun (k_r : (Int32)) (ls : Array Slot) (H : Heap) (locs : List Loc) => lv_has ls 4 [(3, .int k_r), (0, .ref a_t), (1, .int p_c), (2, .int p_v)] ∧ va_P G.1 vwCl [(a_t, (oc6 6 5 a_n e_n)), (a_n, (arI G 30 f_n))] H ∧ va_D A [(a_t, (oc6 6 5 a_n e_n)), (a_n, (arI G 30 f_n))] ∧ va_S A s.heap H locs ∧ (0 ≤ k_r.toInt ∧ k_r.toInt ≤ 6) ∧ (k_r.toInt ≤ e_n.toInt) ∧ (∀ r : Int, 0 ≤ r → r < k_r.toInt → tget f_n e_n.toInt 5 r p_c.toInt ≠ p_v)) (fun (k_r : (Int32)) => Int.toNat (6 - k_r.toInt)) 0 ⟨lv_sub hl [0, 1, 2, 3] rfl, hP, hD, hS, ⟨by decide, by decide⟩, by have z0 : (0 : Int32).toInt = 0 := (by decide); omega, fun r h1 h2 => absurd h2 (by have z : (0 : Int32).toInt = 0 := (by decide); omega)⟩ ?_
  rintro k_r ls H locs ⟨hl, hP, hD, hS, i_1, i_2, i_3⟩ ih_2_4
  have hl : lv_has ls 4 [(3, .int k_r), (0, .ref a_t), (1, .int p_c), (2, .int p_v)] := hl
  have i_1 : 0 ≤ k_r.toInt ∧ k_r.toInt ≤ 6 := i_1
  have i_2 : k_r.toInt ≤ e_n.toInt := i_2
  have i_3 : ∀ r : Int, 0 ≤ r → r < k_r.toInt → tget f_n e_n.toInt 5 r p_c.toInt ≠ p_v := i_3
  refine g5_rs [(a_t, (oc6 6 5 a_n e_n)), (a_n, (arI G 30 f_n))] hP hD (fun hP hD => ?_)
  refine lv_iload_n hx hb dX6_find_2 rfl (lv_at hl 0 rfl) ?_
  refine lv_aload_n hx hb dX6_find_3 rfl (lv_at hl 1 rfl) ?_
  refine va_get (D := G.1) (ci := 6) (v := .int e_n) (C := RX6) (T := TX6) (N := 4) hx hb hts inG_X6 hown hK hP 0 rfl rfl 3 (by decide) (hts _ fl_X6_9) (fun _ h9 => h9) rfl dX6_find_4 ?_
  refine lv_icmp_ge (tgt := 28) hx hb dX6_find_7 (by decide) (fun c_5 => ?_) (fun c_5 => ?_)
  ·
    have i_5 : k_r.toInt ≥ e_n.toInt := by have z := g5_ge (a := k_r.toInt) (b := e_n.toInt) (by rfl) (by rfl) c_5; omega
    refine lv_iconst (v := (-1)) hx hb dX6_find_28 (by decide) ?_
    exact W.iret (v := (-1)) hx hb hr (fun t ht hW => ⟨⟨(-1), [(a_t, (oc6 6 5 a_n e_n)), (a_n, (arI G 30 f_n))], rfl, Or.inl (⟨fun r h1 h2 => i_3 r h1 (by omega), rfl, rfl⟩), by rw [ht]; exact hP.sub [0, 1] rfl, hD.sub [0, 1] (by decide) rfl⟩, hS.F ht⟩) hS.2.2 dX6_find_29
  ·
    have i_5 : k_r.toInt < e_n.toInt := by have z := g5_geN (a := k_r.toInt) (b := e_n.toInt) (by rfl) (by rfl) c_5; omega
    refine lv_aload_n hx hb dX6_find_10 rfl (lv_at hl 1 rfl) ?_
    refine lv_iload_n hx hb dX6_find_11 rfl (lv_at hl 0 rfl) ?_
    refine lv_iload_n hx hb dX6_find_12 rfl (lv_at hl 2 rfl) ?_
    obtain ⟨hPc, hDc, hFc⟩ := g5_sub3 (wc := [(a_t, (oc6 6 5 a_n e_n)), (a_n, (arI G 30 f_n))]) hP hD hS hA [0, 1] (by decide) rfl
    refine va_calli (va_runV (As := [.int k_r, .int p_c]) (rest := []) ⟨hx, hb, hml, hown, hts⟩ (t_get_G l G a_t a_n H.size e_n k_r p_c f_n h_e_n) (cwV 2 hts gV_X6_43 rfl rfl rfl hv_X6_get ⟨Nat.le_of_ble_eq_true rfl, Nat.le_of_ble_eq_true rfl⟩) (g5_preV hPc hK hDc hN hT hS hFc (ci := 6) (q0 := 0) rfl rfl) rfl rfl hl.1 rfl (lv_room (Nat.le_of_ble_eq_true rfl)) dX6_find_13 ⟨Nat.le_of_ble_eq_true rfl, Nat.le_of_ble_eq_true rfl⟩) hS (fun q _ h => hFc q h) hFc (fun r u t H1 locs ht hvm hw hB hz1 hk1 hS => ?_)
    obtain ⟨hP1, hD1⟩ := hB
    rw [ht] at hP1
    obtain ⟨z7, i_6, y8, rfl⟩ := hw
    have i_6 : z7 = tget f_n e_n.toInt 5 k_r.toInt p_c.toInt := i_6
    obtain ⟨hP, hD⟩ := va_join (wr := []) hP hD [0, 1] [] rfl rfl (by decide) (by decide) hk1 hFc hP1 hD1
    generalize H1 = H at hP hS ⊢
    refine g5_rs [(a_t, (oc6 6 5 a_n e_n)), (a_n, (arI G 30 f_n))] hP hD (fun hP hD => ?_)
    refine g5_ti (v := z7) y8 ?_
    refine lv_iload_n hx hb dX6_find_16 rfl (lv_at hl 3 rfl) ?_
    refine lv_icmp_ne (tgt := 22) hx hb dX6_find_17 (by decide) (fun c_9 => ?_) (fun c_9 => ?_)
    ·
      have n_9 : gNe (z7.toInt) (p_v.toInt) := by have z := g5_ne (a := z7.toInt) (b := p_v.toInt) (by rfl) (by rfl) c_9; unfold gNe; omega
      refine lv_iinc (v := (k_r + 1)) (lv' := [(3, .int (k_r + 1)), (0, .ref a_t), (1, .int p_c), (2, .int p_v)]) hx hb dX6_find_22 hl (k := 0) rfl rfl (by decide) rfl (fun ls hl => ?_)
      have t_10 : (k_r + 1).toInt = k_r.toInt + 1 := g5_iadd (a := k_r.toInt) (b := 1) rfl (by decide) (by omega) (by omega)
      refine lv_goto (tgt := 2) hx hb dX6_find_25 (by decide) ?_
      exact ih_2_4 (k_r + 1) ls H locs (show Int.toNat (6 - (k_r + 1).toInt) < Int.toNat (6 - k_r.toInt) from g_up (show k_r.toInt < (k_r + 1).toInt by omega) (show k_r.toInt < 6 by omega)) ⟨lv_sub hl [0, 1, 2, 3] rfl, hP, hD, hS, ⟨by omega, by omega⟩, by omega, fun r h1 h2 => by rcases (show r < k_r.toInt ∨ r = k_r.toInt by omega) with q | q; exact i_3 r h1 q; rw [q, ← i_6]; intro q2; rw [q2] at n_9; exact absurd rfl n_9⟩
    ·
      have i_9 : z7.toInt = p_v.toInt := by have z := g5_neN (a := z7.toInt) (b := p_v.toInt) (by rfl) (by rfl) c_9; omega
      refine lv_iload_n hx hb dX6_find_20 rfl (lv_at hl 0 rfl) ?_
      exact W.iret (v := k_r) hx hb hr (fun t ht hW => ⟨⟨k_r, [(a_t, (oc6 6 5 a_n e_n)), (a_n, (arI G 30 f_n))], rfl, Or.inr (⟨k_r, ⟨by omega, by omega⟩, by rw [← i_6]; exact Int32.toInt_inj.mp (by omega), rfl, rfl⟩), by rw [ht]; exact hP.sub [0, 1] rfl, hD.sub [0, 1] (by decide) rfl⟩, hS.F ht⟩) hS.2.2 dX6_find_21
set_option maxHeartbeats 4000000 in
set_option maxRecDepth 100000 in
theorem t_has_B (l : Launch) (G : g5_G) (a_t a_n : Nat) (sz : Nat) (e_n : Int32) (p_r : Int32) (h_e_n : 0 ≤ e_n.toInt ∧ e_n.toInt ≤ 5) : Met l yX6_has (wsG yX6_has cX6_has 2 (some .boolean)) ({ frames := 0, cells := 0, slots := 0, locals := 0 }) (va_Pc [.ref a_t, .int p_r] (g5_P G [(a_t, (oc6 5 24 a_n e_n))] sz)) (va_Qi (fun (r : Int32) (u : va_W) => ((0 ≤ p_r.toInt ∧ p_r.toInt < e_n.toInt) ∧ (r = 1) ∧ (u = [(a_t, (oc6 5 24 a_n e_n))])) ∨ ((p_r.toInt < 0 ∨ e_n.toInt ≤ p_r.toInt) ∧ (r = 0) ∧ (u = [(a_t, (oc6 5 24 a_n e_n))]))) (g5_B G (va_A [(a_t, (oc6 5 24 a_n e_n))] sz)) (va_A [(a_t, (oc6 5 24 a_n e_n))] sz)) 0 0 (va_A [(a_t, (oc6 5 24 a_n e_n))] sz) := by
  refine Met.ofW (cc := cX6_has) (maxL := 2) (ret := (some .boolean)) (by decide) rfl ?_
  intro p e s m args below meth c s₁ B hml hv
  obtain ⟨rfl, hsz, hP, hK, hD0, hN, hT⟩ := hv
  have hx := B.exec
  have hb := B.bytes
  have hr := B.returns
  have hts : ∀ w ∈ tblG, w.before _ s = true := fun w h => atoms_spec (ws := (wsG yX6_has cX6_has 2 (some .boolean))) B.pre w (List.mem_cons_of_mem _ h)
  have hown : s.vm.findClass RX6 = some m.cls := findClass_of_methodNamed B.named
  have hlocks := B.notSynchronized
  subst hsz
  have hD := hD0.self (sz := s.heap.size)
  generalize hAe : va_A [(a_t, (oc6 5 24 a_n e_n))] s.heap.size = A at hD hT ⊢
  have hA : ∀ q : Nat, s.heap.size ≤ q → A q := fun q h => by rw [← hAe]; exact Or.inr h
  have hS : va_S A s.heap s.heap [] := va_S.rf
  have hP : va_P G.1 vwCl [(a_t, (oc6 5 24 a_n e_n))] s.heap := hP
  have hl := lv_entry ([.ref a_t, .int p_r]) (n := 2) (Nat.le_of_ble_eq_true rfl)
  rw [lg_entry_eq]
  generalize (lg_sl ([.ref a_t, .int p_r]) ++ List.replicate (2 - (lg_sl ([.ref a_t, .int p_r])).length) Slot.unset).toArray = ls at hl ⊢
  have hl : lv_has ls 2 [(0, .ref a_t), (1, .int p_r)] := hl
  refine lv_iload_n hx hb dX6_has_0 rfl (lv_at hl 1 rfl) ?_
  refine lv_if_lt (tgt := 16) hx hb dX6_has_1 (by decide) (fun c_1 => ?_) (fun c_1 => ?_)
  ·
    have i_1 : p_r.toInt < 0 := by have z := g5_lt (a := p_r.toInt) (b := 0) (by rfl) (by decide) c_1; omega
    refine lv_iconst (v := 0) hx hb dX6_has_16 (by decide) ?_
    exact W.zret (v := 0) hx hb hr rfl (fun t ht hW => ⟨⟨0, [(a_t, (oc6 5 24 a_n e_n))], rfl, Or.inr (⟨by omega, rfl, rfl⟩), by rw [ht]; exact hP.sub [0] rfl, hD.sub [0] (by decide) rfl⟩, hS.F ht⟩) hS.2.2 dX6_has_17
  ·
    have i_1 : p_r.toInt ≥ 0 := by have z := g5_ltN (a := p_r.toInt) (b := 0) (by rfl) (by decide) c_1; omega
    refine lv_iload_n hx hb dX6_has_4 rfl (lv_at hl 1 rfl) ?_
    refine lv_aload_n hx hb dX6_has_5 rfl (lv_at hl 0 rfl) ?_
    refine va_get (D := G.1) (ci := 6) (v := .int e_n) (C := RX6) (T := TX6) (N := 4) hx hb hts inG_X6 hown hK hP 0 rfl rfl 3 (by decide) (hts _ fl_X6_9) (fun _ h9 => h9) rfl dX6_has_6 ?_
    refine lv_icmp_ge (tgt := 16) hx hb dX6_has_9 (by decide) (fun c_2 => ?_) (fun c_2 => ?_)
    ·
      have i_2 : p_r.toInt ≥ e_n.toInt := by have z := g5_ge (a := p_r.toInt) (b := e_n.toInt) (by rfl) (by rfl) c_2; omega
      refine lv_iconst (v := 0) hx hb dX6_has_16 (by decide) ?_
      exact W.zret (v := 0) hx hb hr rfl (fun t ht hW => ⟨⟨0, [(a_t, (oc6 5 24 a_n e_n))], rfl, Or.inr (⟨by omega, rfl, rfl⟩), by rw [ht]; exact hP.sub [0] rfl, hD.sub [0] (by decide) rfl⟩, hS.F ht⟩) hS.2.2 dX6_has_17
    ·
      have i_2 : p_r.toInt < e_n.toInt := by have z := g5_geN (a := p_r.toInt) (b := e_n.toInt) (by rfl) (by rfl) c_2; omega
      refine lv_iconst (v := 1) hx hb dX6_has_12 (by decide) ?_
      refine lv_goto (tgt := 17) hx hb dX6_has_13 (by decide) ?_
      exact W.zret (v := 1) hx hb hr rfl (fun t ht hW => ⟨⟨1, [(a_t, (oc6 5 24 a_n e_n))], rfl, Or.inl (⟨by omega, rfl, rfl⟩), by rw [ht]; exact hP.sub [0] rfl, hD.sub [0] (by decide) rfl⟩, hS.F ht⟩) hS.2.2 dX6_has_17
set_option maxHeartbeats 4000000 in
set_option maxRecDepth 100000 in
theorem t_isFull_B (l : Launch) (G : g5_G) (a_t a_n : Nat) (sz : Nat) (e_n : Int32) (h_e_n : 0 ≤ e_n.toInt ∧ e_n.toInt ≤ 5) : Met l yX6_isFull (wsG yX6_isFull cX6_isFull 1 (some .boolean)) ({ frames := 0, cells := 0, slots := 0, locals := 0 }) (va_Pc [.ref a_t] (g5_P G [(a_t, (oc6 5 24 a_n e_n))] sz)) (va_Qi (fun (r : Int32) (u : va_W) => ((e_n.toInt = 5) ∧ (r = 1) ∧ (u = [(a_t, (oc6 5 24 a_n e_n))])) ∨ ((e_n.toInt < 5) ∧ (r = 0) ∧ (u = [(a_t, (oc6 5 24 a_n e_n))]))) (g5_B G (va_A [(a_t, (oc6 5 24 a_n e_n))] sz)) (va_A [(a_t, (oc6 5 24 a_n e_n))] sz)) 0 0 (va_A [(a_t, (oc6 5 24 a_n e_n))] sz) := by
  refine Met.ofW (cc := cX6_isFull) (maxL := 1) (ret := (some .boolean)) (by decide) rfl ?_
  intro p e s m args below meth c s₁ B hml hv
  obtain ⟨rfl, hsz, hP, hK, hD0, hN, hT⟩ := hv
  have hx := B.exec
  have hb := B.bytes
  have hr := B.returns
  have hts : ∀ w ∈ tblG, w.before _ s = true := fun w h => atoms_spec (ws := (wsG yX6_isFull cX6_isFull 1 (some .boolean))) B.pre w (List.mem_cons_of_mem _ h)
  have hown : s.vm.findClass RX6 = some m.cls := findClass_of_methodNamed B.named
  have hlocks := B.notSynchronized
  subst hsz
  have hD := hD0.self (sz := s.heap.size)
  generalize hAe : va_A [(a_t, (oc6 5 24 a_n e_n))] s.heap.size = A at hD hT ⊢
  have hA : ∀ q : Nat, s.heap.size ≤ q → A q := fun q h => by rw [← hAe]; exact Or.inr h
  have hS : va_S A s.heap s.heap [] := va_S.rf
  have hP : va_P G.1 vwCl [(a_t, (oc6 5 24 a_n e_n))] s.heap := hP
  have hl := lv_entry ([.ref a_t]) (n := 1) (Nat.le_of_ble_eq_true rfl)
  rw [lg_entry_eq]
  generalize (lg_sl ([.ref a_t]) ++ List.replicate (1 - (lg_sl ([.ref a_t])).length) Slot.unset).toArray = ls at hl ⊢
  have hl : lv_has ls 1 [(0, .ref a_t)] := hl
  refine lv_aload_n hx hb dX6_isFull_0 rfl (lv_at hl 0 rfl) ?_
  refine va_get (D := G.1) (ci := 6) (v := .int e_n) (C := RX6) (T := TX6) (N := 4) hx hb hts inG_X6 hown hK hP 0 rfl rfl 3 (by decide) (hts _ fl_X6_9) (fun _ h9 => h9) rfl dX6_isFull_1 ?_
  refine lv_aload_n hx hb dX6_isFull_4 rfl (lv_at hl 0 rfl) ?_
  refine va_get (D := G.1) (ci := 6) (v := .int 5) (C := RX6) (T := TX6) (N := 4) hx hb hts inG_X6 hown hK hP 0 rfl rfl 0 (by decide) (hts _ fl_X6_15) (fun _ h9 => h9) rfl dX6_isFull_5 ?_
  refine lv_icmp_lt (tgt := 15) hx hb dX6_isFull_8 (by decide) (fun c_1 => ?_) (fun c_1 => ?_)
  ·
    have i_1 : e_n.toInt < 5 := by have z := g5_lt (a := e_n.toInt) (b := 5) (by rfl) (by decide) c_1; omega
    refine lv_iconst (v := 0) hx hb dX6_isFull_15 (by decide) ?_
    exact W.zret (v := 0) hx hb hr rfl (fun t ht hW => ⟨⟨0, [(a_t, (oc6 5 24 a_n e_n))], rfl, Or.inr (⟨by omega, rfl, rfl⟩), by rw [ht]; exact hP.sub [0] rfl, hD.sub [0] (by decide) rfl⟩, hS.F ht⟩) hS.2.2 dX6_isFull_16
  ·
    have i_1 : e_n.toInt ≥ 5 := by have z := g5_ltN (a := e_n.toInt) (b := 5) (by rfl) (by decide) c_1; omega
    refine lv_iconst (v := 1) hx hb dX6_isFull_11 (by decide) ?_
    refine lv_goto (tgt := 16) hx hb dX6_isFull_12 (by decide) ?_
    exact W.zret (v := 1) hx hb hr rfl (fun t ht hW => ⟨⟨1, [(a_t, (oc6 5 24 a_n e_n))], rfl, Or.inl (⟨by omega, rfl, rfl⟩), by rw [ht]; exact hP.sub [0] rfl, hD.sub [0] (by decide) rfl⟩, hS.F ht⟩) hS.2.2 dX6_isFull_16
set_option maxHeartbeats 4000000 in
set_option maxRecDepth 100000 in
theorem t_get_B (l : Launch) (G : g5_G) (a_t a_n : Nat) (sz : Nat) (e_n : Int32) (p_r : Int32) (p_c : Int32) (f_n : Nat → Int32) (h_e_n : 0 ≤ e_n.toInt ∧ e_n.toInt ≤ 5) : Met l yX6_get (wsG yX6_get cX6_get 3 (some .int)) ({ frames := 0, cells := 0, slots := 0, locals := 0 }) (va_Pc [.ref a_t, .int p_r, .int p_c] (g5_P G [(a_t, (oc6 5 24 a_n e_n)), (a_n, (arI G 120 f_n))] sz)) (va_Qi (fun (r : Int32) (u : va_W) => (∃ (o_r : Int32), (o_r = tget f_n e_n.toInt 24 p_r.toInt p_c.toInt) ∧ (r = o_r) ∧ (u = [(a_t, (oc6 5 24 a_n e_n)), (a_n, (arI G 120 f_n))]))) (g5_B G (va_A [(a_t, (oc6 5 24 a_n e_n)), (a_n, (arI G 120 f_n))] sz)) (va_A [(a_t, (oc6 5 24 a_n e_n)), (a_n, (arI G 120 f_n))] sz)) 0 0 (va_A [(a_t, (oc6 5 24 a_n e_n)), (a_n, (arI G 120 f_n))] sz) := by
  refine Met.ofW (cc := cX6_get) (maxL := 3) (ret := (some .int)) (by decide) rfl ?_
  intro p e s m args below meth c s₁ B hml hv
  obtain ⟨rfl, hsz, hP, hK, hD0, hN, hT⟩ := hv
  have hx := B.exec
  have hb := B.bytes
  have hr := B.returns
  have hts : ∀ w ∈ tblG, w.before _ s = true := fun w h => atoms_spec (ws := (wsG yX6_get cX6_get 3 (some .int))) B.pre w (List.mem_cons_of_mem _ h)
  have hown : s.vm.findClass RX6 = some m.cls := findClass_of_methodNamed B.named
  have hlocks := B.notSynchronized
  subst hsz
  have hD := hD0.self (sz := s.heap.size)
  generalize hAe : va_A [(a_t, (oc6 5 24 a_n e_n)), (a_n, (arI G 120 f_n))] s.heap.size = A at hD hT ⊢
  have hA : ∀ q : Nat, s.heap.size ≤ q → A q := fun q h => by rw [← hAe]; exact Or.inr h
  have hS : va_S A s.heap s.heap [] := va_S.rf
  have hP : va_P G.1 vwCl [(a_t, (oc6 5 24 a_n e_n)), (a_n, (arI G 120 f_n))] s.heap := hP
  have hl := lv_entry ([.ref a_t, .int p_r, .int p_c]) (n := 3) (Nat.le_of_ble_eq_true rfl)
  rw [lg_entry_eq]
  generalize (lg_sl ([.ref a_t, .int p_r, .int p_c]) ++ List.replicate (3 - (lg_sl ([.ref a_t, .int p_r, .int p_c])).length) Slot.unset).toArray = ls at hl ⊢
  have hl : lv_has ls 3 [(0, .ref a_t), (1, .int p_r), (2, .int p_c)] := hl
  refine lv_iload_n hx hb dX6_get_0 rfl (lv_at hl 1 rfl) ?_
  refine lv_if_lt (tgt := 24) hx hb dX6_get_1 (by decide) (fun c_1 => ?_) (fun c_1 => ?_)
  ·
    have i_1 : p_r.toInt < 0 := by have z := g5_lt (a := p_r.toInt) (b := 0) (by rfl) (by decide) c_1; omega
    refine lv_iconst (v := (-1)) hx hb dX6_get_24 (by decide) ?_
    exact W.iret (v := (-1)) hx hb hr (fun t ht hW => ⟨⟨(-1), [(a_t, (oc6 5 24 a_n e_n)), (a_n, (arI G 120 f_n))], rfl, ⟨(-1), qt_getN (by omega), rfl, rfl⟩, by rw [ht]; exact hP.sub [0, 1] rfl, hD.sub [0, 1] (by decide) rfl⟩, hS.F ht⟩) hS.2.2 dX6_get_25
  ·
    have i_1 : p_r.toInt ≥ 0 := by have z := g5_ltN (a := p_r.toInt) (b := 0) (by rfl) (by decide) c_1; omega
    refine lv_iload_n hx hb dX6_get_4 rfl (lv_at hl 1 rfl) ?_
    refine lv_aload_n hx hb dX6_get_5 rfl (lv_at hl 0 rfl) ?_
    refine va_get (D := G.1) (ci := 6) (v := .int e_n) (C := RX6) (T := TX6) (N := 4) hx hb hts inG_X6 hown hK hP 0 rfl rfl 3 (by decide) (hts _ fl_X6_9) (fun _ h9 => h9) rfl dX6_get_6 ?_
    refine lv_icmp_ge (tgt := 24) hx hb dX6_get_9 (by decide) (fun c_2 => ?_) (fun c_2 => ?_)
    ·
      have i_2 : p_r.toInt ≥ e_n.toInt := by have z := g5_ge (a := p_r.toInt) (b := e_n.toInt) (by rfl) (by rfl) c_2; omega
      refine lv_iconst (v := (-1)) hx hb dX6_get_24 (by decide) ?_
      exact W.iret (v := (-1)) hx hb hr (fun t ht hW => ⟨⟨(-1), [(a_t, (oc6 5 24 a_n e_n)), (a_n, (arI G 120 f_n))], rfl, ⟨(-1), qt_getN (by omega), rfl, rfl⟩, by rw [ht]; exact hP.sub [0, 1] rfl, hD.sub [0, 1] (by decide) rfl⟩, hS.F ht⟩) hS.2.2 dX6_get_25
    ·
      have i_2 : p_r.toInt < e_n.toInt := by have z := g5_geN (a := p_r.toInt) (b := e_n.toInt) (by rfl) (by rfl) c_2; omega
      refine lv_iload_n hx hb dX6_get_12 rfl (lv_at hl 2 rfl) ?_
      refine lv_if_lt (tgt := 24) hx hb dX6_get_13 (by decide) (fun c_3 => ?_) (fun c_3 => ?_)
      ·
        have i_3 : p_c.toInt < 0 := by have z := g5_lt (a := p_c.toInt) (b := 0) (by rfl) (by decide) c_3; omega
        refine lv_iconst (v := (-1)) hx hb dX6_get_24 (by decide) ?_
        exact W.iret (v := (-1)) hx hb hr (fun t ht hW => ⟨⟨(-1), [(a_t, (oc6 5 24 a_n e_n)), (a_n, (arI G 120 f_n))], rfl, ⟨(-1), qt_getN (by omega), rfl, rfl⟩, by rw [ht]; exact hP.sub [0, 1] rfl, hD.sub [0, 1] (by decide) rfl⟩, hS.F ht⟩) hS.2.2 dX6_get_25
      ·
        have i_3 : p_c.toInt ≥ 0 := by have z := g5_ltN (a := p_c.toInt) (b := 0) (by rfl) (by decide) c_3; omega
        refine lv_iload_n hx hb dX6_get_16 rfl (lv_at hl 2 rfl) ?_
        refine lv_aload_n hx hb dX6_get_17 rfl (lv_at hl 0 rfl) ?_
        refine va_get (D := G.1) (ci := 6) (v := .int 24) (C := RX6) (T := TX6) (N := 4) hx hb hts inG_X6 hown hK hP 0 rfl rfl 1 (by decide) (hts _ fl_X6_18) (fun _ h9 => h9) rfl dX6_get_18 ?_
        refine lv_icmp_lt (tgt := 26) hx hb dX6_get_21 (by decide) (fun c_4 => ?_) (fun c_4 => ?_)
        ·
          have i_4 : p_c.toInt < 24 := by have z := g5_lt (a := p_c.toInt) (b := 24) (by rfl) (by decide) c_4; omega
          refine lv_aload_n hx hb dX6_get_26 rfl (lv_at hl 0 rfl) ?_
          refine va_get (D := G.1) (ci := 6) (v := .ref a_n) (C := RX6) (T := TX6) (N := 4) hx hb hts inG_X6 hown hK hP 0 rfl rfl 2 (by decide) (hts _ fl_X6_21) (fun _ h9 => h9) rfl dX6_get_27 ?_
          refine lv_iload_n hx hb dX6_get_30 rfl (lv_at hl 1 rfl) ?_
          refine lv_aload_n hx hb dX6_get_31 rfl (lv_at hl 0 rfl) ?_
          refine va_get (D := G.1) (ci := 6) (v := .int 24) (C := RX6) (T := TX6) (N := 4) hx hb hts inG_X6 hown hK hP 0 rfl rfl 1 (by decide) (hts _ fl_X6_18) (fun _ h9 => h9) rfl dX6_get_32 ?_
          refine lv_imul hx hb dX6_get_35 ?_
          have t_5 : (p_r * 24).toInt = p_r.toInt * 24 := g5_imul (a := p_r.toInt) (b := 24) (by rfl) (by decide) (by omega) (by omega)
          refine lv_iload_n hx hb dX6_get_36 rfl (lv_at hl 2 rfl) ?_
          refine lv_iadd hx hb dX6_get_37 ?_
          have t_6 : ((p_r * 24) + p_c).toInt = (p_r * 24).toInt + p_c.toInt := g5_iadd (a := (p_r * 24).toInt) (b := p_c.toInt) (by rfl) (by rfl) (by omega) (by omega)
          refine va_iald hx hb hK hP 1 0 rfl rfl (i := ((p_r * 24) + p_c)) (vp_in_iff.mpr ⟨by omega, by omega⟩) dX6_get_38 ?_
          exact W.iret (v := (f_n ((p_r * 24) + p_c).toNatClampNeg)) hx hb hr (fun t ht hW => ⟨⟨(f_n ((p_r * 24) + p_c).toNatClampNeg), [(a_t, (oc6 5 24 a_n e_n)), (a_n, (arI G 120 f_n))], rfl, ⟨(f_n ((p_r * 24) + p_c).toNatClampNeg), qt_get (x := ((p_r * 24) + p_c)) (by omega) (by omega), rfl, rfl⟩, by rw [ht]; exact hP.sub [0, 1] rfl, hD.sub [0, 1] (by decide) rfl⟩, hS.F ht⟩) hS.2.2 dX6_get_39
        ·
          have i_4 : p_c.toInt ≥ 24 := by have z := g5_ltN (a := p_c.toInt) (b := 24) (by rfl) (by decide) c_4; omega
          refine lv_iconst (v := (-1)) hx hb dX6_get_24 (by decide) ?_
          exact W.iret (v := (-1)) hx hb hr (fun t ht hW => ⟨⟨(-1), [(a_t, (oc6 5 24 a_n e_n)), (a_n, (arI G 120 f_n))], rfl, ⟨(-1), qt_getN (by omega), rfl, rfl⟩, by rw [ht]; exact hP.sub [0, 1] rfl, hD.sub [0, 1] (by decide) rfl⟩, hS.F ht⟩) hS.2.2 dX6_get_25
set_option maxHeartbeats 4000000 in
set_option maxRecDepth 100000 in
theorem t_set_B (l : Launch) (G : g5_G) (a_t a_n : Nat) (sz : Nat) (e_n : Int32) (p_r : Int32) (p_c : Int32) (p_v : Int32) (f_n : Nat → Int32) (h_e_n : 0 ≤ e_n.toInt ∧ e_n.toInt ≤ 5) : Met l yX6_set (wsG yX6_set cX6_set 4 none) ({ frames := 1, cells := 0, slots := 0, locals := 21 }) (va_Pc [.ref a_t, .int p_r, .int p_c, .int p_v] (g5_P G [(a_t, (oc6 5 24 a_n e_n)), (a_n, (arI G 120 f_n))] sz)) (va_Qv (fun (u : va_W) => (∃ (o_f : Nat → Int32), (o_f = tset f_n e_n.toInt 24 p_r.toInt p_c.toInt p_v) ∧ (u = [(a_t, (oc6 5 24 a_n e_n)), (a_n, (arI G 120 o_f))]))) (g5_B G (va_A [(a_t, (oc6 5 24 a_n e_n)), (a_n, (arI G 120 f_n))] sz)) (va_A [(a_t, (oc6 5 24 a_n e_n)), (a_n, (arI G 120 f_n))] sz)) 0 0 (va_A [(a_t, (oc6 5 24 a_n e_n)), (a_n, (arI G 120 f_n))] sz) := by
  refine Met.ofW (cc := cX6_set) (maxL := 4) (ret := none) (by decide) rfl ?_
  intro p e s m args below meth c s₁ B hml hv
  obtain ⟨rfl, hsz, hP, hK, hD0, hN, hT⟩ := hv
  have hx := B.exec
  have hb := B.bytes
  have hr := B.returns
  have hts : ∀ w ∈ tblG, w.before _ s = true := fun w h => atoms_spec (ws := (wsG yX6_set cX6_set 4 none)) B.pre w (List.mem_cons_of_mem _ h)
  have hown : s.vm.findClass RX6 = some m.cls := findClass_of_methodNamed B.named
  have hlocks := B.notSynchronized
  subst hsz
  have hD := hD0.self (sz := s.heap.size)
  generalize hAe : va_A [(a_t, (oc6 5 24 a_n e_n)), (a_n, (arI G 120 f_n))] s.heap.size = A at hD hT ⊢
  have hA : ∀ q : Nat, s.heap.size ≤ q → A q := fun q h => by rw [← hAe]; exact Or.inr h
  have hS : va_S A s.heap s.heap [] := va_S.rf
  have hP : va_P G.1 vwCl [(a_t, (oc6 5 24 a_n e_n)), (a_n, (arI G 120 f_n))] s.heap := hP
  have hl := lv_entry ([.ref a_t, .int p_r, .int p_c, .int p_v]) (n := 4) (Nat.le_of_ble_eq_true rfl)
  rw [lg_entry_eq]
  generalize (lg_sl ([.ref a_t, .int p_r, .int p_c, .int p_v]) ++ List.replicate (4 - (lg_sl ([.ref a_t, .int p_r, .int p_c, .int p_v])).length) Slot.unset).toArray = ls at hl ⊢
  have hl : lv_has ls 4 [(0, .ref a_t), (1, .int p_r), (2, .int p_c), (3, .int p_v)] := hl
  refine lv_aload_n hx hb dX6_set_0 rfl (lv_at hl 0 rfl) ?_
  refine lv_iload_n hx hb dX6_set_1 rfl (lv_at hl 1 rfl) ?_
  obtain ⟨hPc, hDc, hFc⟩ := g5_sub3 (wc := [(a_t, (oc6 5 24 a_n e_n))]) hP hD hS hA [0] (by decide) rfl
  refine va_calli (va_runV (As := [.int p_r]) (rest := []) ⟨hx, hb, hml, hown, hts⟩ (t_has_B l G a_t a_n s.heap.size e_n p_r h_e_n) (cwV 1 hts gV_X6_25 rfl rfl rfl hv_X6_has ⟨Nat.le_of_ble_eq_true rfl, Nat.le_of_ble_eq_true rfl⟩) (g5_preV hPc hK hDc hN hT hS hFc (ci := 6) (q0 := 0) rfl rfl) rfl rfl hl.1 rfl (lv_room (Nat.le_of_ble_eq_true rfl)) dX6_set_2 ⟨Nat.le_of_ble_eq_true rfl, Nat.le_of_ble_eq_true rfl⟩) hS (fun q _ h => hFc q h) hFc (fun r u t H1 locs ht hvm hw hB hz1 hk1 hS => ?_)
  obtain ⟨hP1, hD1⟩ := hB
  rw [ht] at hP1
  rcases hw with ⟨i_1, rfl, rfl⟩ | ⟨i_2, rfl, rfl⟩
  ·
    have i_1 : 0 ≤ p_r.toInt ∧ p_r.toInt < e_n.toInt := i_1
    obtain ⟨hP, hD⟩ := va_join (wr := [(a_n, (arI G 120 f_n))]) hP hD [0] [1] rfl rfl (by decide) (by decide) hk1 hFc hP1 hD1
    generalize H1 = H at hP hS ⊢
    refine g5_rs [(a_n, (arI G 120 f_n)), (a_t, (oc6 5 24 a_n e_n))] hP hD (fun hP hD => ?_)
    refine lv_if_eq (tgt := 34) hx hb dX6_set_5 (by decide) (fun c_3 => ?_) (fun c_3 => ?_)
    ·
      exact absurd c_3 (by decide)
    ·
      refine lv_iload_n hx hb dX6_set_8 rfl (lv_at hl 2 rfl) ?_
      refine lv_if_lt (tgt := 34) hx hb dX6_set_9 (by decide) (fun c_4 => ?_) (fun c_4 => ?_)
      ·
        have i_4 : p_c.toInt < 0 := by have z := g5_lt (a := p_c.toInt) (b := 0) (by rfl) (by decide) c_4; omega
        exact W.vret hx hb hr (fun t ht hW => ⟨⟨[(a_t, (oc6 5 24 a_n e_n)), (a_n, (arI G 120 f_n))], rfl, ⟨f_n, qt_setN (by omega), rfl⟩, by rw [ht]; exact hP.sub [1, 0] rfl, hD.sub [1, 0] (by decide) rfl⟩, hS.F ht⟩) hS.2.2 dX6_set_34
      ·
        have i_4 : p_c.toInt ≥ 0 := by have z := g5_ltN (a := p_c.toInt) (b := 0) (by rfl) (by decide) c_4; omega
        refine lv_iload_n hx hb dX6_set_12 rfl (lv_at hl 2 rfl) ?_
        refine lv_aload_n hx hb dX6_set_13 rfl (lv_at hl 0 rfl) ?_
        refine va_get (D := G.1) (ci := 6) (v := .int 24) (C := RX6) (T := TX6) (N := 4) hx hb hts inG_X6 hown hK hP 1 rfl rfl 1 (by decide) (hts _ fl_X6_18) (fun _ h9 => h9) rfl dX6_set_14 ?_
        refine lv_icmp_ge (tgt := 34) hx hb dX6_set_17 (by decide) (fun c_5 => ?_) (fun c_5 => ?_)
        ·
          have i_5 : p_c.toInt ≥ 24 := by have z := g5_ge (a := p_c.toInt) (b := 24) (by rfl) (by decide) c_5; omega
          exact W.vret hx hb hr (fun t ht hW => ⟨⟨[(a_t, (oc6 5 24 a_n e_n)), (a_n, (arI G 120 f_n))], rfl, ⟨f_n, qt_setN (by omega), rfl⟩, by rw [ht]; exact hP.sub [1, 0] rfl, hD.sub [1, 0] (by decide) rfl⟩, hS.F ht⟩) hS.2.2 dX6_set_34
        ·
          have i_5 : p_c.toInt < 24 := by have z := g5_geN (a := p_c.toInt) (b := 24) (by rfl) (by decide) c_5; omega
          refine lv_aload_n hx hb dX6_set_20 rfl (lv_at hl 0 rfl) ?_
          refine va_get (D := G.1) (ci := 6) (v := .ref a_n) (C := RX6) (T := TX6) (N := 4) hx hb hts inG_X6 hown hK hP 1 rfl rfl 2 (by decide) (hts _ fl_X6_21) (fun _ h9 => h9) rfl dX6_set_21 ?_
          refine lv_iload_n hx hb dX6_set_24 rfl (lv_at hl 1 rfl) ?_
          refine lv_aload_n hx hb dX6_set_25 rfl (lv_at hl 0 rfl) ?_
          refine va_get (D := G.1) (ci := 6) (v := .int 24) (C := RX6) (T := TX6) (N := 4) hx hb hts inG_X6 hown hK hP 1 rfl rfl 1 (by decide) (hts _ fl_X6_18) (fun _ h9 => h9) rfl dX6_set_26 ?_
          refine lv_imul hx hb dX6_set_29 ?_
          have t_6 : (p_r * 24).toInt = p_r.toInt * 24 := g5_imul (a := p_r.toInt) (b := 24) (by rfl) (by decide) (by omega) (by omega)
          refine lv_iload_n hx hb dX6_set_30 rfl (lv_at hl 2 rfl) ?_
          refine lv_iadd hx hb dX6_set_31 ?_
          have t_7 : ((p_r * 24) + p_c).toInt = (p_r * 24).toInt + p_c.toInt := g5_iadd (a := (p_r * 24).toInt) (b := p_c.toInt) (by rfl) (by rfl) (by omega) (by omega)
          refine lv_iload_n hx hb dX6_set_32 rfl (lv_at hl 3 rfl) ?_
          refine va_iast hx hb hK hP hD hS 0 0 rfl rfl (i := ((p_r * 24) + p_c)) (x := p_v) (vp_in_iff.mpr ⟨by omega, by omega⟩) dX6_set_33 (fun H locs hP hD hS => ?_)
          refine g5_rs [(a_n, (arI G 120 (upd f_n ((p_r * 24) + p_c).toNatClampNeg p_v))), (a_t, (oc6 5 24 a_n e_n))] hP hD (fun hP hD => ?_)
          exact W.vret hx hb hr (fun t ht hW => ⟨⟨[(a_t, (oc6 5 24 a_n e_n)), (a_n, (arI G 120 (upd f_n ((p_r * 24) + p_c).toNatClampNeg p_v)))], rfl, ⟨(upd f_n ((p_r * 24) + p_c).toNatClampNeg p_v), qt_set (x := ((p_r * 24) + p_c)) (by omega) (by omega), rfl⟩, by rw [ht]; exact hP.sub [1, 0] rfl, hD.sub [1, 0] (by decide) rfl⟩, hS.F ht⟩) hS.2.2 dX6_set_34
  ·
    have i_2 : p_r.toInt < 0 ∨ e_n.toInt ≤ p_r.toInt := i_2
    obtain ⟨hP, hD⟩ := va_join (wr := [(a_n, (arI G 120 f_n))]) hP hD [0] [1] rfl rfl (by decide) (by decide) hk1 hFc hP1 hD1
    generalize H1 = H at hP hS ⊢
    refine g5_rs [(a_n, (arI G 120 f_n)), (a_t, (oc6 5 24 a_n e_n))] hP hD (fun hP hD => ?_)
    refine lv_if_eq (tgt := 34) hx hb dX6_set_5 (by decide) (fun c_8 => ?_) (fun c_8 => ?_)
    ·
      exact W.vret hx hb hr (fun t ht hW => ⟨⟨[(a_t, (oc6 5 24 a_n e_n)), (a_n, (arI G 120 f_n))], rfl, ⟨f_n, qt_setN (by omega), rfl⟩, by rw [ht]; exact hP.sub [1, 0] rfl, hD.sub [1, 0] (by decide) rfl⟩, hS.F ht⟩) hS.2.2 dX6_set_34
    ·
      exact absurd c_8 (by decide)
set_option maxHeartbeats 4000000 in
set_option maxRecDepth 100000 in
theorem t_open_B (l : Launch) (G : g5_G) (a_t a_n : Nat) (sz : Nat) (e_n : Int32) (p_v : Int32) (f_n : Nat → Int32) (h_e_n : 0 ≤ e_n.toInt ∧ e_n.toInt ≤ 5) : Met l yX6_open (wsG yX6_open cX6_open 4 (some .int)) ({ frames := 2, cells := 0, slots := 0, locals := 44 }) (va_Pc [.ref a_t, .int p_v] (g5_P G [(a_t, (oc6 5 24 a_n e_n)), (a_n, (arI G 120 f_n))] sz)) (va_Qi (fun (r : Int32) (u : va_W) => ((e_n.toInt = 5) ∧ (r = (-1)) ∧ (u = [(a_t, (oc6 5 24 a_n e_n)), (a_n, (arI G 120 f_n))])) ∨ (∃ (o_f : Nat → Int32), (e_n.toInt < 5) ∧ ((e_n + 1).toInt = e_n.toInt + 1) ∧ (o_f = tfil f_n e_n.toInt 24 p_v 24) ∧ (r = e_n) ∧ (u = [(a_t, (oc6 5 24 a_n (e_n + 1))), (a_n, (arI G 120 o_f))]))) (g5_B G (va_A [(a_t, (oc6 5 24 a_n e_n)), (a_n, (arI G 120 f_n))] sz)) (va_A [(a_t, (oc6 5 24 a_n e_n)), (a_n, (arI G 120 f_n))] sz)) 0 0 (va_A [(a_t, (oc6 5 24 a_n e_n)), (a_n, (arI G 120 f_n))] sz) := by
  refine Met.ofW (cc := cX6_open) (maxL := 4) (ret := (some .int)) (by decide) rfl ?_
  intro p e s m args below meth c s₁ B hml hv
  obtain ⟨rfl, hsz, hP, hK, hD0, hN, hT⟩ := hv
  have hx := B.exec
  have hb := B.bytes
  have hr := B.returns
  have hts : ∀ w ∈ tblG, w.before _ s = true := fun w h => atoms_spec (ws := (wsG yX6_open cX6_open 4 (some .int))) B.pre w (List.mem_cons_of_mem _ h)
  have hown : s.vm.findClass RX6 = some m.cls := findClass_of_methodNamed B.named
  have hlocks := B.notSynchronized
  subst hsz
  have hD := hD0.self (sz := s.heap.size)
  generalize hAe : va_A [(a_t, (oc6 5 24 a_n e_n)), (a_n, (arI G 120 f_n))] s.heap.size = A at hD hT ⊢
  have hA : ∀ q : Nat, s.heap.size ≤ q → A q := fun q h => by rw [← hAe]; exact Or.inr h
  have hS : va_S A s.heap s.heap [] := va_S.rf
  have hP : va_P G.1 vwCl [(a_t, (oc6 5 24 a_n e_n)), (a_n, (arI G 120 f_n))] s.heap := hP
  have hl := lv_entry ([.ref a_t, .int p_v]) (n := 4) (Nat.le_of_ble_eq_true rfl)
  rw [lg_entry_eq]
  generalize (lg_sl ([.ref a_t, .int p_v]) ++ List.replicate (4 - (lg_sl ([.ref a_t, .int p_v])).length) Slot.unset).toArray = ls at hl ⊢
  have hl : lv_has ls 4 [(0, .ref a_t), (1, .int p_v)] := hl
  refine lv_aload_n hx hb dX6_open_0 rfl (lv_at hl 0 rfl) ?_
  obtain ⟨hPc, hDc, hFc⟩ := g5_sub3 (wc := [(a_t, (oc6 5 24 a_n e_n))]) hP hD hS hA [0] (by decide) rfl
  refine va_calli (va_runV (As := []) (rest := []) ⟨hx, hb, hml, hown, hts⟩ (t_isFull_B l G a_t a_n s.heap.size e_n h_e_n) (cwV 0 hts gV_X6_33 rfl rfl rfl hv_X6_isFull ⟨Nat.le_of_ble_eq_true rfl, Nat.le_of_ble_eq_true rfl⟩) (g5_preV hPc hK hDc hN hT hS hFc (ci := 6) (q0 := 0) rfl rfl) rfl rfl hl.1 rfl (lv_room (Nat.le_of_ble_eq_true rfl)) dX6_open_1 ⟨Nat.le_of_ble_eq_true rfl, Nat.le_of_ble_eq_true rfl⟩) hS (fun q _ h => hFc q h) hFc (fun r u t H1 locs ht hvm hw hB hz1 hk1 hS => ?_)
  obtain ⟨hP1, hD1⟩ := hB
  rw [ht] at hP1
  rcases hw with ⟨i_1, rfl, rfl⟩ | ⟨i_2, rfl, rfl⟩
  ·
    have i_1 : e_n.toInt = 5 := i_1
    obtain ⟨hP, hD⟩ := va_join (wr := [(a_n, (arI G 120 f_n))]) hP hD [0] [1] rfl rfl (by decide) (by decide) hk1 hFc hP1 hD1
    generalize H1 = H at hP hS ⊢
    refine g5_rs [(a_n, (arI G 120 f_n)), (a_t, (oc6 5 24 a_n e_n))] hP hD (fun hP hD => ?_)
    refine lv_if_eq (tgt := 9) hx hb dX6_open_4 (by decide) (fun c_3 => ?_) (fun c_3 => ?_)
    ·
      exact absurd c_3 (by decide)
    ·
      refine lv_iconst (v := (-1)) hx hb dX6_open_7 (by decide) ?_
      exact W.iret (v := (-1)) hx hb hr (fun t ht hW => ⟨⟨(-1), [(a_t, (oc6 5 24 a_n e_n)), (a_n, (arI G 120 f_n))], rfl, Or.inl (⟨by omega, rfl, rfl⟩), by rw [ht]; exact hP.sub [1, 0] rfl, hD.sub [1, 0] (by decide) rfl⟩, hS.F ht⟩) hS.2.2 dX6_open_8
  ·
    have i_2 : e_n.toInt < 5 := i_2
    obtain ⟨hP, hD⟩ := va_join (wr := [(a_n, (arI G 120 f_n))]) hP hD [0] [1] rfl rfl (by decide) (by decide) hk1 hFc hP1 hD1
    generalize H1 = H at hP hS ⊢
    refine g5_rs [(a_n, (arI G 120 f_n)), (a_t, (oc6 5 24 a_n e_n))] hP hD (fun hP hD => ?_)
    refine lv_if_eq (tgt := 9) hx hb dX6_open_4 (by decide) (fun c_4 => ?_) (fun c_4 => ?_)
    ·
      refine lv_aload_n hx hb dX6_open_9 rfl (lv_at hl 0 rfl) ?_
      refine va_get (D := G.1) (ci := 6) (v := .int e_n) (C := RX6) (T := TX6) (N := 4) hx hb hts inG_X6 hown hK hP 1 rfl rfl 3 (by decide) (hts _ fl_X6_9) (fun _ h9 => h9) rfl dX6_open_10 ?_
      refine lv_istore_n (lv' := [(2, .int e_n), (0, .ref a_t), (1, .int p_v)]) hx hb dX6_open_13 rfl hl (by decide) rfl (fun ls hl => ?_)
      refine lv_aload_n hx hb dX6_open_14 rfl (lv_at hl 1 rfl) ?_
      refine lv_dup hx hb dX6_open_15 rfl ?_
      refine va_get (D := G.1) (ci := 6) (v := .int e_n) (C := RX6) (T := TX6) (N := 4) hx hb hts inG_X6 hown hK hP 1 rfl rfl 3 (by decide) (hts _ fl_X6_9) (fun _ h9 => h9) rfl dX6_open_16 ?_
      refine lv_iconst (v := 1) hx hb dX6_open_19 (by decide) ?_
      refine lv_iadd hx hb dX6_open_20 ?_
      have t_5 : (e_n + 1).toInt = e_n.toInt + 1 := g5_iadd (a := e_n.toInt) (b := 1) (by rfl) (by decide) (by omega) (by omega)
      refine va_put (D := G.1) (ci := 6) (v := .int (e_n + 1)) (ty := .int) (C := RX6) (T := TX6) (N := 4) hx hb hts inG_X6 tyX6 tyX6_ok nmX6 hown hK hP hD hS 1 rfl rfl 3 (by decide) (hts _ fl_X6_9) (fun _ h9 => h9) rfl (by decide +kernel) rfl rfl (Nat.le_of_ble_eq_true rfl) dX6_open_21 (fun H locs hP hD hS => ?_)
      refine g5_rs [(a_n, (arI G 120 f_n)), (a_t, (oc6 5 24 a_n (e_n + 1)))] hP hD (fun hP hD => ?_)
      refine lv_iconst (v := 0) hx hb dX6_open_24 (by decide) ?_
      refine lv_istore_n (lv' := [(3, .int 0), (2, .int e_n), (0, .ref a_t), (1, .int p_v)]) hx hb dX6_open_25 rfl hl (by decide) rfl (fun ls hl => ?_)
      refine g5_loop (α := (Int32) × (Nat → Int32)) (fun (q : (Int32) × (Nat → Int32)) (ls : Array Slot) (H : Heap) (locs : List Loc) => match q with | (k_c, k_f) => lv_has ls 4 [(3, .int k_c), (2, .int e_n), (0, .ref a_t), (1, .int p_v)] ∧ va_P G.1 vwCl [(a_n, (arI G 120 k_f)), (a_t, (oc6 5 24 a_n (e_n + 1)))] H ∧ va_D A [(a_n, (arI G 120 k_f)), (a_t, (oc6 5 24 a_n (e_n + 1)))] ∧ va_S A s.heap H locs ∧ (0 ≤ k_c.toInt ∧ k_c.toInt ≤ 24) ∧ (k_f = tfil f_n e_n.toInt 24 p_v k_c.toInt)) (fun (q : (Int32) × (Nat → Int32)) => match q with | (k_c, k_f) => Int.toNat (24 - k_c.toInt)) (0, f_n) ⟨lv_sub hl [0, 1, 2, 3] rfl, hP, hD, hS, ⟨by decide, by decide⟩, qt_fil0⟩ ?_
      rintro ⟨k_c, k_f⟩ ls H locs ⟨hl, hP, hD, hS, i_6, i_7⟩ ih_26_8
      have hl : lv_has ls 4 [(3, .int k_c), (2, .int e_n), (0, .ref a_t), (1, .int p_v)] := hl
      have i_6 : 0 ≤ k_c.toInt ∧ k_c.toInt ≤ 24 := i_6
      have i_7 : k_f = tfil f_n e_n.toInt 24 p_v k_c.toInt := i_7
      refine g5_rs [(a_n, (arI G 120 k_f)), (a_t, (oc6 5 24 a_n (e_n + 1)))] hP hD (fun hP hD => ?_)
      refine lv_iload_n hx hb dX6_open_26 rfl (lv_at hl 0 rfl) ?_
      refine lv_aload_n hx hb dX6_open_27 rfl (lv_at hl 2 rfl) ?_
      refine va_get (D := G.1) (ci := 6) (v := .int 24) (C := RX6) (T := TX6) (N := 4) hx hb hts inG_X6 hown hK hP 1 rfl rfl 1 (by decide) (hts _ fl_X6_18) (fun _ h9 => h9) rfl dX6_open_28 ?_
      refine lv_icmp_ge (tgt := 47) hx hb dX6_open_31 (by decide) (fun c_9 => ?_) (fun c_9 => ?_)
      ·
        have i_9 : k_c.toInt ≥ 24 := by have z := g5_ge (a := k_c.toInt) (b := 24) (by rfl) (by decide) c_9; omega
        refine lv_iload_n hx hb dX6_open_47 rfl (lv_at hl 1 rfl) ?_
        exact W.iret (v := e_n) hx hb hr (fun t ht hW => ⟨⟨e_n, [(a_t, (oc6 5 24 a_n (e_n + 1))), (a_n, (arI G 120 k_f))], rfl, Or.inr (⟨k_f, by omega, by omega, by rw [i_7, show k_c.toInt = 24 by omega], rfl, rfl⟩), by rw [ht]; exact hP.sub [1, 0] rfl, hD.sub [1, 0] (by decide) rfl⟩, hS.F ht⟩) hS.2.2 dX6_open_48
      ·
        have i_9 : k_c.toInt < 24 := by have z := g5_geN (a := k_c.toInt) (b := 24) (by rfl) (by decide) c_9; omega
        refine lv_aload_n hx hb dX6_open_34 rfl (lv_at hl 2 rfl) ?_
        refine lv_iload_n hx hb dX6_open_35 rfl (lv_at hl 1 rfl) ?_
        refine lv_iload_n hx hb dX6_open_36 rfl (lv_at hl 0 rfl) ?_
        refine lv_iload_n hx hb dX6_open_37 rfl (lv_at hl 3 rfl) ?_
        obtain ⟨hPc, hDc, hFc⟩ := g5_sub3 (wc := [(a_t, (oc6 5 24 a_n (e_n + 1))), (a_n, (arI G 120 k_f))]) hP hD hS hA [1, 0] (by decide) rfl
        refine va_callv (va_runV (As := [.int e_n, .int k_c, .int p_v]) (rest := []) ⟨hx, hb, hml, hown, hts⟩ (t_set_B l G a_t a_n H.size (e_n + 1) e_n k_c p_v k_f ⟨by omega, by omega⟩) (cwV 3 hts gV_X6_29 rfl rfl rfl hv_X6_set ⟨Nat.le_of_ble_eq_true rfl, Nat.le_of_ble_eq_true rfl⟩) (g5_preV hPc hK hDc hN hT hS hFc (ci := 6) (q0 := 0) rfl rfl) rfl rfl hl.1 rfl (lv_room (Nat.le_of_ble_eq_true rfl)) dX6_open_38 ⟨Nat.le_of_ble_eq_true rfl, Nat.le_of_ble_eq_true rfl⟩) hS (fun q _ h => hFc q h) hFc (fun u t H1 locs ht hvm hw hB hz1 hk1 hS => ?_)
        obtain ⟨hP1, hD1⟩ := hB
        rw [ht] at hP1
        obtain ⟨z11, i_10, rfl⟩ := hw
        have i_10 : z11 = tset k_f (e_n + 1).toInt 24 e_n.toInt k_c.toInt p_v := i_10
        obtain ⟨hP, hD⟩ := va_join (wr := []) hP hD [1, 0] [] rfl rfl (by decide) (by decide) hk1 hFc hP1 hD1
        generalize H1 = H at hP hS ⊢
        refine g5_rs [(a_t, (oc6 5 24 a_n (e_n + 1))), (a_n, (arI G 120 z11))] hP hD (fun hP hD => ?_)
        refine lv_iinc (v := (k_c + 1)) (lv' := [(3, .int (k_c + 1)), (2, .int e_n), (0, .ref a_t), (1, .int p_v)]) hx hb dX6_open_41 hl (k := 0) rfl rfl (by decide) rfl (fun ls hl => ?_)
        have t_12 : (k_c + 1).toInt = k_c.toInt + 1 := g5_iadd (a := k_c.toInt) (b := 1) rfl (by decide) (by omega) (by omega)
        refine lv_goto (tgt := 26) hx hb dX6_open_44 (by decide) ?_
        exact ih_26_8 ((k_c + 1), z11) ls H locs (show Int.toNat (24 - (k_c + 1).toInt) < Int.toNat (24 - k_c.toInt) from g_up (show k_c.toInt < (k_c + 1).toInt by omega) (show k_c.toInt < 24 by omega)) ⟨lv_sub hl [0, 1, 2, 3] rfl, hP.sub [1, 0] rfl, hD.sub [1, 0] (by decide) rfl, hS, ⟨by omega, by omega⟩, i_10.trans (qt_filS i_7 (by omega) (by omega) (by omega) (by omega) (by omega))⟩
    ·
      exact absurd c_4 (by decide)
set_option maxHeartbeats 4000000 in
set_option maxRecDepth 100000 in
theorem t_has_S (l : Launch) (G : g5_G) (a_t a_n : Nat) (sz : Nat) (e_n : Int32) (p_r : Int32) (h_e_n : 0 ≤ e_n.toInt ∧ e_n.toInt ≤ 10) : Met l yX6_has (wsG yX6_has cX6_has 2 (some .boolean)) ({ frames := 0, cells := 0, slots := 0, locals := 0 }) (va_Pc [.ref a_t, .int p_r] (g5_P G [(a_t, (oc6 10 4 a_n e_n))] sz)) (va_Qi (fun (r : Int32) (u : va_W) => ((0 ≤ p_r.toInt ∧ p_r.toInt < e_n.toInt) ∧ (r = 1) ∧ (u = [(a_t, (oc6 10 4 a_n e_n))])) ∨ ((p_r.toInt < 0 ∨ e_n.toInt ≤ p_r.toInt) ∧ (r = 0) ∧ (u = [(a_t, (oc6 10 4 a_n e_n))]))) (g5_B G (va_A [(a_t, (oc6 10 4 a_n e_n))] sz)) (va_A [(a_t, (oc6 10 4 a_n e_n))] sz)) 0 0 (va_A [(a_t, (oc6 10 4 a_n e_n))] sz) := by
  refine Met.ofW (cc := cX6_has) (maxL := 2) (ret := (some .boolean)) (by decide) rfl ?_
  intro p e s m args below meth c s₁ B hml hv
  obtain ⟨rfl, hsz, hP, hK, hD0, hN, hT⟩ := hv
  have hx := B.exec
  have hb := B.bytes
  have hr := B.returns
  have hts : ∀ w ∈ tblG, w.before _ s = true := fun w h => atoms_spec (ws := (wsG yX6_has cX6_has 2 (some .boolean))) B.pre w (List.mem_cons_of_mem _ h)
  have hown : s.vm.findClass RX6 = some m.cls := findClass_of_methodNamed B.named
  have hlocks := B.notSynchronized
  subst hsz
  have hD := hD0.self (sz := s.heap.size)
  generalize hAe : va_A [(a_t, (oc6 10 4 a_n e_n))] s.heap.size = A at hD hT ⊢
  have hA : ∀ q : Nat, s.heap.size ≤ q → A q := fun q h => by rw [← hAe]; exact Or.inr h
  have hS : va_S A s.heap s.heap [] := va_S.rf
  have hP : va_P G.1 vwCl [(a_t, (oc6 10 4 a_n e_n))] s.heap := hP
  have hl := lv_entry ([.ref a_t, .int p_r]) (n := 2) (Nat.le_of_ble_eq_true rfl)
  rw [lg_entry_eq]
  generalize (lg_sl ([.ref a_t, .int p_r]) ++ List.replicate (2 - (lg_sl ([.ref a_t, .int p_r])).length) Slot.unset).toArray = ls at hl ⊢
  have hl : lv_has ls 2 [(0, .ref a_t), (1, .int p_r)] := hl
  refine lv_iload_n hx hb dX6_has_0 rfl (lv_at hl 1 rfl) ?_
  refine lv_if_lt (tgt := 16) hx hb dX6_has_1 (by decide) (fun c_1 => ?_) (fun c_1 => ?_)
  ·
    have i_1 : p_r.toInt < 0 := by have z := g5_lt (a := p_r.toInt) (b := 0) (by rfl) (by decide) c_1; omega
    refine lv_iconst (v := 0) hx hb dX6_has_16 (by decide) ?_
    exact W.zret (v := 0) hx hb hr rfl (fun t ht hW => ⟨⟨0, [(a_t, (oc6 10 4 a_n e_n))], rfl, Or.inr (⟨by omega, rfl, rfl⟩), by rw [ht]; exact hP.sub [0] rfl, hD.sub [0] (by decide) rfl⟩, hS.F ht⟩) hS.2.2 dX6_has_17
  ·
    have i_1 : p_r.toInt ≥ 0 := by have z := g5_ltN (a := p_r.toInt) (b := 0) (by rfl) (by decide) c_1; omega
    refine lv_iload_n hx hb dX6_has_4 rfl (lv_at hl 1 rfl) ?_
    refine lv_aload_n hx hb dX6_has_5 rfl (lv_at hl 0 rfl) ?_
    refine va_get (D := G.1) (ci := 6) (v := .int e_n) (C := RX6) (T := TX6) (N := 4) hx hb hts inG_X6 hown hK hP 0 rfl rfl 3 (by decide) (hts _ fl_X6_9) (fun _ h9 => h9) rfl dX6_has_6 ?_
    refine lv_icmp_ge (tgt := 16) hx hb dX6_has_9 (by decide) (fun c_2 => ?_) (fun c_2 => ?_)
    ·
      have i_2 : p_r.toInt ≥ e_n.toInt := by have z := g5_ge (a := p_r.toInt) (b := e_n.toInt) (by rfl) (by rfl) c_2; omega
      refine lv_iconst (v := 0) hx hb dX6_has_16 (by decide) ?_
      exact W.zret (v := 0) hx hb hr rfl (fun t ht hW => ⟨⟨0, [(a_t, (oc6 10 4 a_n e_n))], rfl, Or.inr (⟨by omega, rfl, rfl⟩), by rw [ht]; exact hP.sub [0] rfl, hD.sub [0] (by decide) rfl⟩, hS.F ht⟩) hS.2.2 dX6_has_17
    ·
      have i_2 : p_r.toInt < e_n.toInt := by have z := g5_geN (a := p_r.toInt) (b := e_n.toInt) (by rfl) (by rfl) c_2; omega
      refine lv_iconst (v := 1) hx hb dX6_has_12 (by decide) ?_
      refine lv_goto (tgt := 17) hx hb dX6_has_13 (by decide) ?_
      exact W.zret (v := 1) hx hb hr rfl (fun t ht hW => ⟨⟨1, [(a_t, (oc6 10 4 a_n e_n))], rfl, Or.inl (⟨by omega, rfl, rfl⟩), by rw [ht]; exact hP.sub [0] rfl, hD.sub [0] (by decide) rfl⟩, hS.F ht⟩) hS.2.2 dX6_has_17
set_option maxHeartbeats 4000000 in
set_option maxRecDepth 100000 in
theorem t_isFull_S (l : Launch) (G : g5_G) (a_t a_n : Nat) (sz : Nat) (e_n : Int32) (h_e_n : 0 ≤ e_n.toInt ∧ e_n.toInt ≤ 10) : Met l yX6_isFull (wsG yX6_isFull cX6_isFull 1 (some .boolean)) ({ frames := 0, cells := 0, slots := 0, locals := 0 }) (va_Pc [.ref a_t] (g5_P G [(a_t, (oc6 10 4 a_n e_n))] sz)) (va_Qi (fun (r : Int32) (u : va_W) => ((e_n.toInt = 10) ∧ (r = 1) ∧ (u = [(a_t, (oc6 10 4 a_n e_n))])) ∨ ((e_n.toInt < 10) ∧ (r = 0) ∧ (u = [(a_t, (oc6 10 4 a_n e_n))]))) (g5_B G (va_A [(a_t, (oc6 10 4 a_n e_n))] sz)) (va_A [(a_t, (oc6 10 4 a_n e_n))] sz)) 0 0 (va_A [(a_t, (oc6 10 4 a_n e_n))] sz) := by
  refine Met.ofW (cc := cX6_isFull) (maxL := 1) (ret := (some .boolean)) (by decide) rfl ?_
  intro p e s m args below meth c s₁ B hml hv
  obtain ⟨rfl, hsz, hP, hK, hD0, hN, hT⟩ := hv
  have hx := B.exec
  have hb := B.bytes
  have hr := B.returns
  have hts : ∀ w ∈ tblG, w.before _ s = true := fun w h => atoms_spec (ws := (wsG yX6_isFull cX6_isFull 1 (some .boolean))) B.pre w (List.mem_cons_of_mem _ h)
  have hown : s.vm.findClass RX6 = some m.cls := findClass_of_methodNamed B.named
  have hlocks := B.notSynchronized
  subst hsz
  have hD := hD0.self (sz := s.heap.size)
  generalize hAe : va_A [(a_t, (oc6 10 4 a_n e_n))] s.heap.size = A at hD hT ⊢
  have hA : ∀ q : Nat, s.heap.size ≤ q → A q := fun q h => by rw [← hAe]; exact Or.inr h
  have hS : va_S A s.heap s.heap [] := va_S.rf
  have hP : va_P G.1 vwCl [(a_t, (oc6 10 4 a_n e_n))] s.heap := hP
  have hl := lv_entry ([.ref a_t]) (n := 1) (Nat.le_of_ble_eq_true rfl)
  rw [lg_entry_eq]
  generalize (lg_sl ([.ref a_t]) ++ List.replicate (1 - (lg_sl ([.ref a_t])).length) Slot.unset).toArray = ls at hl ⊢
  have hl : lv_has ls 1 [(0, .ref a_t)] := hl
  refine lv_aload_n hx hb dX6_isFull_0 rfl (lv_at hl 0 rfl) ?_
  refine va_get (D := G.1) (ci := 6) (v := .int e_n) (C := RX6) (T := TX6) (N := 4) hx hb hts inG_X6 hown hK hP 0 rfl rfl 3 (by decide) (hts _ fl_X6_9) (fun _ h9 => h9) rfl dX6_isFull_1 ?_
  refine lv_aload_n hx hb dX6_isFull_4 rfl (lv_at hl 0 rfl) ?_
  refine va_get (D := G.1) (ci := 6) (v := .int 10) (C := RX6) (T := TX6) (N := 4) hx hb hts inG_X6 hown hK hP 0 rfl rfl 0 (by decide) (hts _ fl_X6_15) (fun _ h9 => h9) rfl dX6_isFull_5 ?_
  refine lv_icmp_lt (tgt := 15) hx hb dX6_isFull_8 (by decide) (fun c_1 => ?_) (fun c_1 => ?_)
  ·
    have i_1 : e_n.toInt < 10 := by have z := g5_lt (a := e_n.toInt) (b := 10) (by rfl) (by decide) c_1; omega
    refine lv_iconst (v := 0) hx hb dX6_isFull_15 (by decide) ?_
    exact W.zret (v := 0) hx hb hr rfl (fun t ht hW => ⟨⟨0, [(a_t, (oc6 10 4 a_n e_n))], rfl, Or.inr (⟨by omega, rfl, rfl⟩), by rw [ht]; exact hP.sub [0] rfl, hD.sub [0] (by decide) rfl⟩, hS.F ht⟩) hS.2.2 dX6_isFull_16
  ·
    have i_1 : e_n.toInt ≥ 10 := by have z := g5_ltN (a := e_n.toInt) (b := 10) (by rfl) (by decide) c_1; omega
    refine lv_iconst (v := 1) hx hb dX6_isFull_11 (by decide) ?_
    refine lv_goto (tgt := 16) hx hb dX6_isFull_12 (by decide) ?_
    exact W.zret (v := 1) hx hb hr rfl (fun t ht hW => ⟨⟨1, [(a_t, (oc6 10 4 a_n e_n))], rfl, Or.inl (⟨by omega, rfl, rfl⟩), by rw [ht]; exact hP.sub [0] rfl, hD.sub [0] (by decide) rfl⟩, hS.F ht⟩) hS.2.2 dX6_isFull_16
set_option maxHeartbeats 4000000 in
set_option maxRecDepth 100000 in
theorem t_get_S (l : Launch) (G : g5_G) (a_t a_n : Nat) (sz : Nat) (e_n : Int32) (p_r : Int32) (p_c : Int32) (f_n : Nat → Int32) (h_e_n : 0 ≤ e_n.toInt ∧ e_n.toInt ≤ 10) : Met l yX6_get (wsG yX6_get cX6_get 3 (some .int)) ({ frames := 0, cells := 0, slots := 0, locals := 0 }) (va_Pc [.ref a_t, .int p_r, .int p_c] (g5_P G [(a_t, (oc6 10 4 a_n e_n)), (a_n, (arI G 40 f_n))] sz)) (va_Qi (fun (r : Int32) (u : va_W) => (∃ (o_r : Int32), (o_r = tget f_n e_n.toInt 4 p_r.toInt p_c.toInt) ∧ (r = o_r) ∧ (u = [(a_t, (oc6 10 4 a_n e_n)), (a_n, (arI G 40 f_n))]))) (g5_B G (va_A [(a_t, (oc6 10 4 a_n e_n)), (a_n, (arI G 40 f_n))] sz)) (va_A [(a_t, (oc6 10 4 a_n e_n)), (a_n, (arI G 40 f_n))] sz)) 0 0 (va_A [(a_t, (oc6 10 4 a_n e_n)), (a_n, (arI G 40 f_n))] sz) := by
  refine Met.ofW (cc := cX6_get) (maxL := 3) (ret := (some .int)) (by decide) rfl ?_
  intro p e s m args below meth c s₁ B hml hv
  obtain ⟨rfl, hsz, hP, hK, hD0, hN, hT⟩ := hv
  have hx := B.exec
  have hb := B.bytes
  have hr := B.returns
  have hts : ∀ w ∈ tblG, w.before _ s = true := fun w h => atoms_spec (ws := (wsG yX6_get cX6_get 3 (some .int))) B.pre w (List.mem_cons_of_mem _ h)
  have hown : s.vm.findClass RX6 = some m.cls := findClass_of_methodNamed B.named
  have hlocks := B.notSynchronized
  subst hsz
  have hD := hD0.self (sz := s.heap.size)
  generalize hAe : va_A [(a_t, (oc6 10 4 a_n e_n)), (a_n, (arI G 40 f_n))] s.heap.size = A at hD hT ⊢
  have hA : ∀ q : Nat, s.heap.size ≤ q → A q := fun q h => by rw [← hAe]; exact Or.inr h
  have hS : va_S A s.heap s.heap [] := va_S.rf
  have hP : va_P G.1 vwCl [(a_t, (oc6 10 4 a_n e_n)), (a_n, (arI G 40 f_n))] s.heap := hP
  have hl := lv_entry ([.ref a_t, .int p_r, .int p_c]) (n := 3) (Nat.le_of_ble_eq_true rfl)
  rw [lg_entry_eq]
  generalize (lg_sl ([.ref a_t, .int p_r, .int p_c]) ++ List.replicate (3 - (lg_sl ([.ref a_t, .int p_r, .int p_c])).length) Slot.unset).toArray = ls at hl ⊢
  have hl : lv_has ls 3 [(0, .ref a_t), (1, .int p_r), (2, .int p_c)] := hl
  refine lv_iload_n hx hb dX6_get_0 rfl (lv_at hl 1 rfl) ?_
  refine lv_if_lt (tgt := 24) hx hb dX6_get_1 (by decide) (fun c_1 => ?_) (fun c_1 => ?_)
  ·
    have i_1 : p_r.toInt < 0 := by have z := g5_lt (a := p_r.toInt) (b := 0) (by rfl) (by decide) c_1; omega
    refine lv_iconst (v := (-1)) hx hb dX6_get_24 (by decide) ?_
    exact W.iret (v := (-1)) hx hb hr (fun t ht hW => ⟨⟨(-1), [(a_t, (oc6 10 4 a_n e_n)), (a_n, (arI G 40 f_n))], rfl, ⟨(-1), qt_getN (by omega), rfl, rfl⟩, by rw [ht]; exact hP.sub [0, 1] rfl, hD.sub [0, 1] (by decide) rfl⟩, hS.F ht⟩) hS.2.2 dX6_get_25
  ·
    have i_1 : p_r.toInt ≥ 0 := by have z := g5_ltN (a := p_r.toInt) (b := 0) (by rfl) (by decide) c_1; omega
    refine lv_iload_n hx hb dX6_get_4 rfl (lv_at hl 1 rfl) ?_
    refine lv_aload_n hx hb dX6_get_5 rfl (lv_at hl 0 rfl) ?_
    refine va_get (D := G.1) (ci := 6) (v := .int e_n) (C := RX6) (T := TX6) (N := 4) hx hb hts inG_X6 hown hK hP 0 rfl rfl 3 (by decide) (hts _ fl_X6_9) (fun _ h9 => h9) rfl dX6_get_6 ?_
    refine lv_icmp_ge (tgt := 24) hx hb dX6_get_9 (by decide) (fun c_2 => ?_) (fun c_2 => ?_)
    ·
      have i_2 : p_r.toInt ≥ e_n.toInt := by have z := g5_ge (a := p_r.toInt) (b := e_n.toInt) (by rfl) (by rfl) c_2; omega
      refine lv_iconst (v := (-1)) hx hb dX6_get_24 (by decide) ?_
      exact W.iret (v := (-1)) hx hb hr (fun t ht hW => ⟨⟨(-1), [(a_t, (oc6 10 4 a_n e_n)), (a_n, (arI G 40 f_n))], rfl, ⟨(-1), qt_getN (by omega), rfl, rfl⟩, by rw [ht]; exact hP.sub [0, 1] rfl, hD.sub [0, 1] (by decide) rfl⟩, hS.F ht⟩) hS.2.2 dX6_get_25
    ·
      have i_2 : p_r.toInt < e_n.toInt := by have z := g5_geN (a := p_r.toInt) (b := e_n.toInt) (by rfl) (by rfl) c_2; omega
      refine lv_iload_n hx hb dX6_get_12 rfl (lv_at hl 2 rfl) ?_
      refine lv_if_lt (tgt := 24) hx hb dX6_get_13 (by decide) (fun c_3 => ?_) (fun c_3 => ?_)
      ·
        have i_3 : p_c.toInt < 0 := by have z := g5_lt (a := p_c.toInt) (b := 0) (by rfl) (by decide) c_3; omega
        refine lv_iconst (v := (-1)) hx hb dX6_get_24 (by decide) ?_
        exact W.iret (v := (-1)) hx hb hr (fun t ht hW => ⟨⟨(-1), [(a_t, (oc6 10 4 a_n e_n)), (a_n, (arI G 40 f_n))], rfl, ⟨(-1), qt_getN (by omega), rfl, rfl⟩, by rw [ht]; exact hP.sub [0, 1] rfl, hD.sub [0, 1] (by decide) rfl⟩, hS.F ht⟩) hS.2.2 dX6_get_25
      ·
        have i_3 : p_c.toInt ≥ 0 := by have z := g5_ltN (a := p_c.toInt) (b := 0) (by rfl) (by decide) c_3; omega
        refine lv_iload_n hx hb dX6_get_16 rfl (lv_at hl 2 rfl) ?_
        refine lv_aload_n hx hb dX6_get_17 rfl (lv_at hl 0 rfl) ?_
        refine va_get (D := G.1) (ci := 6) (v := .int 4) (C := RX6) (T := TX6) (N := 4) hx hb hts inG_X6 hown hK hP 0 rfl rfl 1 (by decide) (hts _ fl_X6_18) (fun _ h9 => h9) rfl dX6_get_18 ?_
        refine lv_icmp_lt (tgt := 26) hx hb dX6_get_21 (by decide) (fun c_4 => ?_) (fun c_4 => ?_)
        ·
          have i_4 : p_c.toInt < 4 := by have z := g5_lt (a := p_c.toInt) (b := 4) (by rfl) (by decide) c_4; omega
          refine lv_aload_n hx hb dX6_get_26 rfl (lv_at hl 0 rfl) ?_
          refine va_get (D := G.1) (ci := 6) (v := .ref a_n) (C := RX6) (T := TX6) (N := 4) hx hb hts inG_X6 hown hK hP 0 rfl rfl 2 (by decide) (hts _ fl_X6_21) (fun _ h9 => h9) rfl dX6_get_27 ?_
          refine lv_iload_n hx hb dX6_get_30 rfl (lv_at hl 1 rfl) ?_
          refine lv_aload_n hx hb dX6_get_31 rfl (lv_at hl 0 rfl) ?_
          refine va_get (D := G.1) (ci := 6) (v := .int 4) (C := RX6) (T := TX6) (N := 4) hx hb hts inG_X6 hown hK hP 0 rfl rfl 1 (by decide) (hts _ fl_X6_18) (fun _ h9 => h9) rfl dX6_get_32 ?_
          refine lv_imul hx hb dX6_get_35 ?_
          have t_5 : (p_r * 4).toInt = p_r.toInt * 4 := g5_imul (a := p_r.toInt) (b := 4) (by rfl) (by decide) (by omega) (by omega)
          refine lv_iload_n hx hb dX6_get_36 rfl (lv_at hl 2 rfl) ?_
          refine lv_iadd hx hb dX6_get_37 ?_
          have t_6 : ((p_r * 4) + p_c).toInt = (p_r * 4).toInt + p_c.toInt := g5_iadd (a := (p_r * 4).toInt) (b := p_c.toInt) (by rfl) (by rfl) (by omega) (by omega)
          refine va_iald hx hb hK hP 1 0 rfl rfl (i := ((p_r * 4) + p_c)) (vp_in_iff.mpr ⟨by omega, by omega⟩) dX6_get_38 ?_
          exact W.iret (v := (f_n ((p_r * 4) + p_c).toNatClampNeg)) hx hb hr (fun t ht hW => ⟨⟨(f_n ((p_r * 4) + p_c).toNatClampNeg), [(a_t, (oc6 10 4 a_n e_n)), (a_n, (arI G 40 f_n))], rfl, ⟨(f_n ((p_r * 4) + p_c).toNatClampNeg), qt_get (x := ((p_r * 4) + p_c)) (by omega) (by omega), rfl, rfl⟩, by rw [ht]; exact hP.sub [0, 1] rfl, hD.sub [0, 1] (by decide) rfl⟩, hS.F ht⟩) hS.2.2 dX6_get_39
        ·
          have i_4 : p_c.toInt ≥ 4 := by have z := g5_ltN (a := p_c.toInt) (b := 4) (by rfl) (by decide) c_4; omega
          refine lv_iconst (v := (-1)) hx hb dX6_get_24 (by decide) ?_
          exact W.iret (v := (-1)) hx hb hr (fun t ht hW => ⟨⟨(-1), [(a_t, (oc6 10 4 a_n e_n)), (a_n, (arI G 40 f_n))], rfl, ⟨(-1), qt_getN (by omega), rfl, rfl⟩, by rw [ht]; exact hP.sub [0, 1] rfl, hD.sub [0, 1] (by decide) rfl⟩, hS.F ht⟩) hS.2.2 dX6_get_25
