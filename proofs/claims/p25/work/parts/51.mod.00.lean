set_option maxHeartbeats 4000000 in
set_option maxRecDepth 100000 in
theorem n_isSmallX (l : Launch) (G : g5_G) (sz : Nat) (p_0 : Int32) : Met l yX12_isSmall (wsG yX12_isSmall cX12_isSmall 1 (some .boolean)) ({ frames := 0, cells := 0, slots := 0, locals := 0 }) (va_Pc [.int p_0] (g5_P G [] sz)) (va_Qi (fun (r : Int32) (u : va_W) => ((97 ≤ p_0.toInt ∧ p_0.toInt ≤ 122) ∧ (r = 1) ∧ (u = [])) ∨ ((p_0.toInt < 97 ∨ 122 < p_0.toInt) ∧ (r = 0) ∧ (u = []))) (g5_B G (va_A [] sz)) (va_A [] sz)) 0 0 (va_A [] sz) := by
  refine Met.ofW (cc := cX12_isSmall) (maxL := 1) (ret := (some .boolean)) (by decide) rfl ?_
  intro p e s m args below meth c s₁ B hml hv
  obtain ⟨rfl, hsz, hP, hK, hD0, hN, hT⟩ := hv
  have hx := B.exec
  have hb := B.bytes
  have hr := B.returns
  have hts : ∀ w ∈ tblG, w.before _ s = true := fun w h => atoms_spec (ws := (wsG yX12_isSmall cX12_isSmall 1 (some .boolean))) B.pre w (List.mem_cons_of_mem _ h)
  have hown : s.vm.findClass RX12 = some m.cls := findClass_of_methodNamed B.named
  have hlocks := B.notSynchronized
  subst hsz
  have hD := hD0.self (sz := s.heap.size)
  generalize hAe : va_A [] s.heap.size = A at hD hT ⊢
  have hA : ∀ q : Nat, s.heap.size ≤ q → A q := fun q h => by rw [← hAe]; exact Or.inr h
  have hS : va_S A s.heap s.heap [] := va_S.rf
  have hP : va_P G.1 vwCl [] s.heap := hP
  have hl := lv_entry ([.int p_0]) (n := 1) (Nat.le_of_ble_eq_true rfl)
  rw [lg_entry_eq]
  generalize (lg_sl ([.int p_0]) ++ List.replicate (1 - (lg_sl ([.int p_0])).length) Slot.unset).toArray = ls at hl ⊢
  have hl : lv_has ls 1 [(0, .int p_0)] := hl
  refine lv_iload_n hx hb dX12_isSmall_0 rfl (lv_at hl 0 rfl) ?_
  refine lv_bipush (v := 97) hx hb dX12_isSmall_1 (by decide) ?_
  refine lv_icmp_lt (tgt := 16) hx hb dX12_isSmall_3 (by decide) (fun c_1 => ?_) (fun c_1 => ?_)
  ·
    have i_1 : p_0.toInt < 97 := by have z := g5_lt (a := p_0.toInt) (b := 97) (by rfl) (by decide) c_1; omega
    refine lv_iconst (v := 0) hx hb dX12_isSmall_16 (by decide) ?_
    exact W.zret (v := 0) hx hb hr rfl (fun t ht hW => ⟨⟨0, [], rfl, Or.inr (⟨by omega, rfl, rfl⟩), by rw [ht]; exact hP.sub [] rfl, hD.sub [] (by decide) rfl⟩, hS.F ht⟩) hS.2.2 dX12_isSmall_17
  ·
    have i_1 : p_0.toInt ≥ 97 := by have z := g5_ltN (a := p_0.toInt) (b := 97) (by rfl) (by decide) c_1; omega
    refine lv_iload_n hx hb dX12_isSmall_6 rfl (lv_at hl 0 rfl) ?_
    refine lv_bipush (v := 122) hx hb dX12_isSmall_7 (by decide) ?_
    refine lv_icmp_gt (tgt := 16) hx hb dX12_isSmall_9 (by decide) (fun c_2 => ?_) (fun c_2 => ?_)
    ·
      have i_2 : p_0.toInt > 122 := by have z := g5_gt (a := p_0.toInt) (b := 122) (by rfl) (by decide) c_2; omega
      refine lv_iconst (v := 0) hx hb dX12_isSmall_16 (by decide) ?_
      exact W.zret (v := 0) hx hb hr rfl (fun t ht hW => ⟨⟨0, [], rfl, Or.inr (⟨by omega, rfl, rfl⟩), by rw [ht]; exact hP.sub [] rfl, hD.sub [] (by decide) rfl⟩, hS.F ht⟩) hS.2.2 dX12_isSmall_17
    ·
      have i_2 : p_0.toInt ≤ 122 := by have z := g5_gtN (a := p_0.toInt) (b := 122) (by rfl) (by decide) c_2; omega
      refine lv_iconst (v := 1) hx hb dX12_isSmall_12 (by decide) ?_
      refine lv_goto (tgt := 17) hx hb dX12_isSmall_13 (by decide) ?_
      exact W.zret (v := 1) hx hb hr rfl (fun t ht hW => ⟨⟨1, [], rfl, Or.inl (⟨by omega, rfl, rfl⟩), by rw [ht]; exact hP.sub [] rfl, hD.sub [] (by decide) rfl⟩, hS.F ht⟩) hS.2.2 dX12_isSmall_17
set_option maxHeartbeats 4000000 in
set_option maxRecDepth 100000 in
theorem n_isDigitX (l : Launch) (G : g5_G) (sz : Nat) (p_0 : Int32) : Met l yX12_isDigit (wsG yX12_isDigit cX12_isDigit 1 (some .boolean)) ({ frames := 0, cells := 0, slots := 0, locals := 0 }) (va_Pc [.int p_0] (g5_P G [] sz)) (va_Qi (fun (r : Int32) (u : va_W) => ((48 ≤ p_0.toInt ∧ p_0.toInt ≤ 57) ∧ (r = 1) ∧ (u = [])) ∨ ((p_0.toInt < 48 ∨ 57 < p_0.toInt) ∧ (r = 0) ∧ (u = []))) (g5_B G (va_A [] sz)) (va_A [] sz)) 0 0 (va_A [] sz) := by
  refine Met.ofW (cc := cX12_isDigit) (maxL := 1) (ret := (some .boolean)) (by decide) rfl ?_
  intro p e s m args below meth c s₁ B hml hv
  obtain ⟨rfl, hsz, hP, hK, hD0, hN, hT⟩ := hv
  have hx := B.exec
  have hb := B.bytes
  have hr := B.returns
  have hts : ∀ w ∈ tblG, w.before _ s = true := fun w h => atoms_spec (ws := (wsG yX12_isDigit cX12_isDigit 1 (some .boolean))) B.pre w (List.mem_cons_of_mem _ h)
  have hown : s.vm.findClass RX12 = some m.cls := findClass_of_methodNamed B.named
  have hlocks := B.notSynchronized
  subst hsz
  have hD := hD0.self (sz := s.heap.size)
  generalize hAe : va_A [] s.heap.size = A at hD hT ⊢
  have hA : ∀ q : Nat, s.heap.size ≤ q → A q := fun q h => by rw [← hAe]; exact Or.inr h
  have hS : va_S A s.heap s.heap [] := va_S.rf
  have hP : va_P G.1 vwCl [] s.heap := hP
  have hl := lv_entry ([.int p_0]) (n := 1) (Nat.le_of_ble_eq_true rfl)
  rw [lg_entry_eq]
  generalize (lg_sl ([.int p_0]) ++ List.replicate (1 - (lg_sl ([.int p_0])).length) Slot.unset).toArray = ls at hl ⊢
  have hl : lv_has ls 1 [(0, .int p_0)] := hl
  refine lv_iload_n hx hb dX12_isDigit_0 rfl (lv_at hl 0 rfl) ?_
  refine lv_bipush (v := 48) hx hb dX12_isDigit_1 (by decide) ?_
  refine lv_icmp_lt (tgt := 16) hx hb dX12_isDigit_3 (by decide) (fun c_1 => ?_) (fun c_1 => ?_)
  ·
    have i_1 : p_0.toInt < 48 := by have z := g5_lt (a := p_0.toInt) (b := 48) (by rfl) (by decide) c_1; omega
    refine lv_iconst (v := 0) hx hb dX12_isDigit_16 (by decide) ?_
    exact W.zret (v := 0) hx hb hr rfl (fun t ht hW => ⟨⟨0, [], rfl, Or.inr (⟨by omega, rfl, rfl⟩), by rw [ht]; exact hP.sub [] rfl, hD.sub [] (by decide) rfl⟩, hS.F ht⟩) hS.2.2 dX12_isDigit_17
  ·
    have i_1 : p_0.toInt ≥ 48 := by have z := g5_ltN (a := p_0.toInt) (b := 48) (by rfl) (by decide) c_1; omega
    refine lv_iload_n hx hb dX12_isDigit_6 rfl (lv_at hl 0 rfl) ?_
    refine lv_bipush (v := 57) hx hb dX12_isDigit_7 (by decide) ?_
    refine lv_icmp_gt (tgt := 16) hx hb dX12_isDigit_9 (by decide) (fun c_2 => ?_) (fun c_2 => ?_)
    ·
      have i_2 : p_0.toInt > 57 := by have z := g5_gt (a := p_0.toInt) (b := 57) (by rfl) (by decide) c_2; omega
      refine lv_iconst (v := 0) hx hb dX12_isDigit_16 (by decide) ?_
      exact W.zret (v := 0) hx hb hr rfl (fun t ht hW => ⟨⟨0, [], rfl, Or.inr (⟨by omega, rfl, rfl⟩), by rw [ht]; exact hP.sub [] rfl, hD.sub [] (by decide) rfl⟩, hS.F ht⟩) hS.2.2 dX12_isDigit_17
    ·
      have i_2 : p_0.toInt ≤ 57 := by have z := g5_gtN (a := p_0.toInt) (b := 57) (by rfl) (by decide) c_2; omega
      refine lv_iconst (v := 1) hx hb dX12_isDigit_12 (by decide) ?_
      refine lv_goto (tgt := 17) hx hb dX12_isDigit_13 (by decide) ?_
      exact W.zret (v := 1) hx hb hr rfl (fun t ht hW => ⟨⟨1, [], rfl, Or.inl (⟨by omega, rfl, rfl⟩), by rw [ht]; exact hP.sub [] rfl, hD.sub [] (by decide) rfl⟩, hS.F ht⟩) hS.2.2 dX12_isDigit_17
theorem dgX12_next_0 : ∀ r ∈ ([(0, (.aload_n 0, 1)), (1, (.aload_n 0, 1)), (2, (.getfield 202, 3)), (5, (.putfield 211, 3)), (8, (.aload_n 0, 1)), (9, (.getfield 211, 3)), (12, (.aload_n 0, 1)), (13, (.getfield 192, 3)), (16, (.if_icmp .ge 30, 3)), (19, (.aload_n 0, 1)), (20, (.getfield 23, 3)), (23, (.aload_n 0, 1)), (24, (.getfield 211, 3)), (27, (.iaload, 1)), (28, (.bipush 32, 2)), (30, (.if_icmp .ne 16, 3)), (33, (.aload_n 0, 1)), (34, (.dup, 1)), (35, (.getfield 211, 3)), (38, (.iconst 1, 1)), (39, (.iadd, 1)), (40, (.putfield 211, 3)), (43, (.goto (-35), 3)), (46, (.aload_n 0, 1)), (47, (.aload_n 0, 1)), (48, (.getfield 211, 3)), (51, (.putfield 202, 3)), (54, (.aload_n 0, 1)), (55, (.lconst 0, 1)), (56, (.putfield 214, 3)), (59, (.aload_n 0, 1)), (60, (.aload_n 0, 1)), (61, (.getfield 211, 3)), (64, (.aload_n 0, 1)), (65, (.getfield 192, 3)), (68, (.if_icmp .ne 7, 3)), (71, (.iconst 0, 1)), (72, (.goto 42, 3)), (75, (.aload_n 0, 1)), (76, (.getfield 23, 3))] : List (Nat × (Instr × Nat))), decode cX12_next r.1 = .ok r.2 := by decide +kernel
theorem dX12_next_0 : decode cX12_next 0 = .ok (.aload_n 0, 1) := dgX12_next_0 (0, (.aload_n 0, 1)) (List.mem_of_getElem? (i := 0) rfl)
theorem dX12_next_1 : decode cX12_next 1 = .ok (.aload_n 0, 1) := dgX12_next_0 (1, (.aload_n 0, 1)) (List.mem_of_getElem? (i := 1) rfl)
theorem dX12_next_2 : decode cX12_next 2 = .ok (.getfield 202, 3) := dgX12_next_0 (2, (.getfield 202, 3)) (List.mem_of_getElem? (i := 2) rfl)
theorem dX12_next_5 : decode cX12_next 5 = .ok (.putfield 211, 3) := dgX12_next_0 (5, (.putfield 211, 3)) (List.mem_of_getElem? (i := 3) rfl)
theorem dX12_next_8 : decode cX12_next 8 = .ok (.aload_n 0, 1) := dgX12_next_0 (8, (.aload_n 0, 1)) (List.mem_of_getElem? (i := 4) rfl)
theorem dX12_next_9 : decode cX12_next 9 = .ok (.getfield 211, 3) := dgX12_next_0 (9, (.getfield 211, 3)) (List.mem_of_getElem? (i := 5) rfl)
theorem dX12_next_12 : decode cX12_next 12 = .ok (.aload_n 0, 1) := dgX12_next_0 (12, (.aload_n 0, 1)) (List.mem_of_getElem? (i := 6) rfl)
theorem dX12_next_13 : decode cX12_next 13 = .ok (.getfield 192, 3) := dgX12_next_0 (13, (.getfield 192, 3)) (List.mem_of_getElem? (i := 7) rfl)
theorem dX12_next_16 : decode cX12_next 16 = .ok (.if_icmp .ge 30, 3) := dgX12_next_0 (16, (.if_icmp .ge 30, 3)) (List.mem_of_getElem? (i := 8) rfl)
theorem dX12_next_19 : decode cX12_next 19 = .ok (.aload_n 0, 1) := dgX12_next_0 (19, (.aload_n 0, 1)) (List.mem_of_getElem? (i := 9) rfl)
theorem dX12_next_20 : decode cX12_next 20 = .ok (.getfield 23, 3) := dgX12_next_0 (20, (.getfield 23, 3)) (List.mem_of_getElem? (i := 10) rfl)
theorem dX12_next_23 : decode cX12_next 23 = .ok (.aload_n 0, 1) := dgX12_next_0 (23, (.aload_n 0, 1)) (List.mem_of_getElem? (i := 11) rfl)
theorem dX12_next_24 : decode cX12_next 24 = .ok (.getfield 211, 3) := dgX12_next_0 (24, (.getfield 211, 3)) (List.mem_of_getElem? (i := 12) rfl)
theorem dX12_next_27 : decode cX12_next 27 = .ok (.iaload, 1) := dgX12_next_0 (27, (.iaload, 1)) (List.mem_of_getElem? (i := 13) rfl)
theorem dX12_next_28 : decode cX12_next 28 = .ok (.bipush 32, 2) := dgX12_next_0 (28, (.bipush 32, 2)) (List.mem_of_getElem? (i := 14) rfl)
theorem dX12_next_30 : decode cX12_next 30 = .ok (.if_icmp .ne 16, 3) := dgX12_next_0 (30, (.if_icmp .ne 16, 3)) (List.mem_of_getElem? (i := 15) rfl)
theorem dX12_next_33 : decode cX12_next 33 = .ok (.aload_n 0, 1) := dgX12_next_0 (33, (.aload_n 0, 1)) (List.mem_of_getElem? (i := 16) rfl)
theorem dX12_next_34 : decode cX12_next 34 = .ok (.dup, 1) := dgX12_next_0 (34, (.dup, 1)) (List.mem_of_getElem? (i := 17) rfl)
theorem dX12_next_35 : decode cX12_next 35 = .ok (.getfield 211, 3) := dgX12_next_0 (35, (.getfield 211, 3)) (List.mem_of_getElem? (i := 18) rfl)
theorem dX12_next_38 : decode cX12_next 38 = .ok (.iconst 1, 1) := dgX12_next_0 (38, (.iconst 1, 1)) (List.mem_of_getElem? (i := 19) rfl)
theorem dX12_next_39 : decode cX12_next 39 = .ok (.iadd, 1) := dgX12_next_0 (39, (.iadd, 1)) (List.mem_of_getElem? (i := 20) rfl)
theorem dX12_next_40 : decode cX12_next 40 = .ok (.putfield 211, 3) := dgX12_next_0 (40, (.putfield 211, 3)) (List.mem_of_getElem? (i := 21) rfl)
theorem dX12_next_43 : decode cX12_next 43 = .ok (.goto (-35), 3) := dgX12_next_0 (43, (.goto (-35), 3)) (List.mem_of_getElem? (i := 22) rfl)
theorem dX12_next_46 : decode cX12_next 46 = .ok (.aload_n 0, 1) := dgX12_next_0 (46, (.aload_n 0, 1)) (List.mem_of_getElem? (i := 23) rfl)
theorem dX12_next_47 : decode cX12_next 47 = .ok (.aload_n 0, 1) := dgX12_next_0 (47, (.aload_n 0, 1)) (List.mem_of_getElem? (i := 24) rfl)
theorem dX12_next_48 : decode cX12_next 48 = .ok (.getfield 211, 3) := dgX12_next_0 (48, (.getfield 211, 3)) (List.mem_of_getElem? (i := 25) rfl)
theorem dX12_next_51 : decode cX12_next 51 = .ok (.putfield 202, 3) := dgX12_next_0 (51, (.putfield 202, 3)) (List.mem_of_getElem? (i := 26) rfl)
theorem dX12_next_54 : decode cX12_next 54 = .ok (.aload_n 0, 1) := dgX12_next_0 (54, (.aload_n 0, 1)) (List.mem_of_getElem? (i := 27) rfl)
theorem dX12_next_55 : decode cX12_next 55 = .ok (.lconst 0, 1) := dgX12_next_0 (55, (.lconst 0, 1)) (List.mem_of_getElem? (i := 28) rfl)
theorem dX12_next_56 : decode cX12_next 56 = .ok (.putfield 214, 3) := dgX12_next_0 (56, (.putfield 214, 3)) (List.mem_of_getElem? (i := 29) rfl)
theorem dX12_next_59 : decode cX12_next 59 = .ok (.aload_n 0, 1) := dgX12_next_0 (59, (.aload_n 0, 1)) (List.mem_of_getElem? (i := 30) rfl)
theorem dX12_next_60 : decode cX12_next 60 = .ok (.aload_n 0, 1) := dgX12_next_0 (60, (.aload_n 0, 1)) (List.mem_of_getElem? (i := 31) rfl)
theorem dX12_next_61 : decode cX12_next 61 = .ok (.getfield 211, 3) := dgX12_next_0 (61, (.getfield 211, 3)) (List.mem_of_getElem? (i := 32) rfl)
theorem dX12_next_64 : decode cX12_next 64 = .ok (.aload_n 0, 1) := dgX12_next_0 (64, (.aload_n 0, 1)) (List.mem_of_getElem? (i := 33) rfl)
theorem dX12_next_65 : decode cX12_next 65 = .ok (.getfield 192, 3) := dgX12_next_0 (65, (.getfield 192, 3)) (List.mem_of_getElem? (i := 34) rfl)
theorem dX12_next_68 : decode cX12_next 68 = .ok (.if_icmp .ne 7, 3) := dgX12_next_0 (68, (.if_icmp .ne 7, 3)) (List.mem_of_getElem? (i := 35) rfl)
theorem dX12_next_71 : decode cX12_next 71 = .ok (.iconst 0, 1) := dgX12_next_0 (71, (.iconst 0, 1)) (List.mem_of_getElem? (i := 36) rfl)
theorem dX12_next_72 : decode cX12_next 72 = .ok (.goto 42, 3) := dgX12_next_0 (72, (.goto 42, 3)) (List.mem_of_getElem? (i := 37) rfl)
theorem dX12_next_75 : decode cX12_next 75 = .ok (.aload_n 0, 1) := dgX12_next_0 (75, (.aload_n 0, 1)) (List.mem_of_getElem? (i := 38) rfl)
theorem dX12_next_76 : decode cX12_next 76 = .ok (.getfield 23, 3) := dgX12_next_0 (76, (.getfield 23, 3)) (List.mem_of_getElem? (i := 39) rfl)
theorem dgX12_next_1 : ∀ r ∈ ([(79, (.aload_n 0, 1)), (80, (.getfield 211, 3)), (83, (.iaload, 1)), (84, (.invokestatic 218, 3)), (87, (.ifCond .eq 7, 3)), (90, (.iconst 1, 1)), (91, (.goto 23, 3)), (94, (.aload_n 0, 1)), (95, (.getfield 23, 3)), (98, (.aload_n 0, 1)), (99, (.getfield 211, 3)), (102, (.iaload, 1)), (103, (.invokestatic 221, 3)), (106, (.ifCond .eq 7, 3)), (109, (.iconst 2, 1)), (110, (.goto 4, 3)), (113, (.iconst 3, 1)), (114, (.putfield 224, 3)), (117, (.aload_n 0, 1)), (118, (.getfield 224, 3)), (121, (.iconst 3, 1)), (122, (.if_icmp .ne 27, 3)), (125, (.aload_n 0, 1)), (126, (.aload_n 0, 1)), (127, (.getfield 23, 3)), (130, (.aload_n 0, 1)), (131, (.getfield 211, 3)), (134, (.iaload, 1)), (135, (.i2l, 1)), (136, (.putfield 214, 3)), (139, (.aload_n 0, 1)), (140, (.dup, 1)), (141, (.getfield 202, 3)), (144, (.iconst 1, 1)), (145, (.iadd, 1)), (146, (.putfield 202, 3)), (149, (.aload_n 0, 1)), (150, (.getfield 224, 3)), (153, (.iconst 1, 1)), (154, (.if_icmp .ne 89, 3))] : List (Nat × (Instr × Nat))), decode cX12_next r.1 = .ok r.2 := by decide +kernel
theorem dX12_next_79 : decode cX12_next 79 = .ok (.aload_n 0, 1) := dgX12_next_1 (79, (.aload_n 0, 1)) (List.mem_of_getElem? (i := 0) rfl)
theorem dX12_next_80 : decode cX12_next 80 = .ok (.getfield 211, 3) := dgX12_next_1 (80, (.getfield 211, 3)) (List.mem_of_getElem? (i := 1) rfl)
theorem dX12_next_83 : decode cX12_next 83 = .ok (.iaload, 1) := dgX12_next_1 (83, (.iaload, 1)) (List.mem_of_getElem? (i := 2) rfl)
theorem dX12_next_84 : decode cX12_next 84 = .ok (.invokestatic 218, 3) := dgX12_next_1 (84, (.invokestatic 218, 3)) (List.mem_of_getElem? (i := 3) rfl)
theorem dX12_next_87 : decode cX12_next 87 = .ok (.ifCond .eq 7, 3) := dgX12_next_1 (87, (.ifCond .eq 7, 3)) (List.mem_of_getElem? (i := 4) rfl)
theorem dX12_next_90 : decode cX12_next 90 = .ok (.iconst 1, 1) := dgX12_next_1 (90, (.iconst 1, 1)) (List.mem_of_getElem? (i := 5) rfl)
theorem dX12_next_91 : decode cX12_next 91 = .ok (.goto 23, 3) := dgX12_next_1 (91, (.goto 23, 3)) (List.mem_of_getElem? (i := 6) rfl)
theorem dX12_next_94 : decode cX12_next 94 = .ok (.aload_n 0, 1) := dgX12_next_1 (94, (.aload_n 0, 1)) (List.mem_of_getElem? (i := 7) rfl)
theorem dX12_next_95 : decode cX12_next 95 = .ok (.getfield 23, 3) := dgX12_next_1 (95, (.getfield 23, 3)) (List.mem_of_getElem? (i := 8) rfl)
theorem dX12_next_98 : decode cX12_next 98 = .ok (.aload_n 0, 1) := dgX12_next_1 (98, (.aload_n 0, 1)) (List.mem_of_getElem? (i := 9) rfl)
theorem dX12_next_99 : decode cX12_next 99 = .ok (.getfield 211, 3) := dgX12_next_1 (99, (.getfield 211, 3)) (List.mem_of_getElem? (i := 10) rfl)
theorem dX12_next_102 : decode cX12_next 102 = .ok (.iaload, 1) := dgX12_next_1 (102, (.iaload, 1)) (List.mem_of_getElem? (i := 11) rfl)
theorem dX12_next_103 : decode cX12_next 103 = .ok (.invokestatic 221, 3) := dgX12_next_1 (103, (.invokestatic 221, 3)) (List.mem_of_getElem? (i := 12) rfl)
theorem dX12_next_106 : decode cX12_next 106 = .ok (.ifCond .eq 7, 3) := dgX12_next_1 (106, (.ifCond .eq 7, 3)) (List.mem_of_getElem? (i := 13) rfl)
theorem dX12_next_109 : decode cX12_next 109 = .ok (.iconst 2, 1) := dgX12_next_1 (109, (.iconst 2, 1)) (List.mem_of_getElem? (i := 14) rfl)
theorem dX12_next_110 : decode cX12_next 110 = .ok (.goto 4, 3) := dgX12_next_1 (110, (.goto 4, 3)) (List.mem_of_getElem? (i := 15) rfl)
theorem dX12_next_113 : decode cX12_next 113 = .ok (.iconst 3, 1) := dgX12_next_1 (113, (.iconst 3, 1)) (List.mem_of_getElem? (i := 16) rfl)
theorem dX12_next_114 : decode cX12_next 114 = .ok (.putfield 224, 3) := dgX12_next_1 (114, (.putfield 224, 3)) (List.mem_of_getElem? (i := 17) rfl)
theorem dX12_next_117 : decode cX12_next 117 = .ok (.aload_n 0, 1) := dgX12_next_1 (117, (.aload_n 0, 1)) (List.mem_of_getElem? (i := 18) rfl)
theorem dX12_next_118 : decode cX12_next 118 = .ok (.getfield 224, 3) := dgX12_next_1 (118, (.getfield 224, 3)) (List.mem_of_getElem? (i := 19) rfl)
theorem dX12_next_121 : decode cX12_next 121 = .ok (.iconst 3, 1) := dgX12_next_1 (121, (.iconst 3, 1)) (List.mem_of_getElem? (i := 20) rfl)
theorem dX12_next_122 : decode cX12_next 122 = .ok (.if_icmp .ne 27, 3) := dgX12_next_1 (122, (.if_icmp .ne 27, 3)) (List.mem_of_getElem? (i := 21) rfl)
theorem dX12_next_125 : decode cX12_next 125 = .ok (.aload_n 0, 1) := dgX12_next_1 (125, (.aload_n 0, 1)) (List.mem_of_getElem? (i := 22) rfl)
theorem dX12_next_126 : decode cX12_next 126 = .ok (.aload_n 0, 1) := dgX12_next_1 (126, (.aload_n 0, 1)) (List.mem_of_getElem? (i := 23) rfl)
theorem dX12_next_127 : decode cX12_next 127 = .ok (.getfield 23, 3) := dgX12_next_1 (127, (.getfield 23, 3)) (List.mem_of_getElem? (i := 24) rfl)
theorem dX12_next_130 : decode cX12_next 130 = .ok (.aload_n 0, 1) := dgX12_next_1 (130, (.aload_n 0, 1)) (List.mem_of_getElem? (i := 25) rfl)
theorem dX12_next_131 : decode cX12_next 131 = .ok (.getfield 211, 3) := dgX12_next_1 (131, (.getfield 211, 3)) (List.mem_of_getElem? (i := 26) rfl)
theorem dX12_next_134 : decode cX12_next 134 = .ok (.iaload, 1) := dgX12_next_1 (134, (.iaload, 1)) (List.mem_of_getElem? (i := 27) rfl)
theorem dX12_next_135 : decode cX12_next 135 = .ok (.i2l, 1) := dgX12_next_1 (135, (.i2l, 1)) (List.mem_of_getElem? (i := 28) rfl)
theorem dX12_next_136 : decode cX12_next 136 = .ok (.putfield 214, 3) := dgX12_next_1 (136, (.putfield 214, 3)) (List.mem_of_getElem? (i := 29) rfl)
theorem dX12_next_139 : decode cX12_next 139 = .ok (.aload_n 0, 1) := dgX12_next_1 (139, (.aload_n 0, 1)) (List.mem_of_getElem? (i := 30) rfl)
theorem dX12_next_140 : decode cX12_next 140 = .ok (.dup, 1) := dgX12_next_1 (140, (.dup, 1)) (List.mem_of_getElem? (i := 31) rfl)
theorem dX12_next_141 : decode cX12_next 141 = .ok (.getfield 202, 3) := dgX12_next_1 (141, (.getfield 202, 3)) (List.mem_of_getElem? (i := 32) rfl)
theorem dX12_next_144 : decode cX12_next 144 = .ok (.iconst 1, 1) := dgX12_next_1 (144, (.iconst 1, 1)) (List.mem_of_getElem? (i := 33) rfl)
theorem dX12_next_145 : decode cX12_next 145 = .ok (.iadd, 1) := dgX12_next_1 (145, (.iadd, 1)) (List.mem_of_getElem? (i := 34) rfl)
theorem dX12_next_146 : decode cX12_next 146 = .ok (.putfield 202, 3) := dgX12_next_1 (146, (.putfield 202, 3)) (List.mem_of_getElem? (i := 35) rfl)
theorem dX12_next_149 : decode cX12_next 149 = .ok (.aload_n 0, 1) := dgX12_next_1 (149, (.aload_n 0, 1)) (List.mem_of_getElem? (i := 36) rfl)
theorem dX12_next_150 : decode cX12_next 150 = .ok (.getfield 224, 3) := dgX12_next_1 (150, (.getfield 224, 3)) (List.mem_of_getElem? (i := 37) rfl)
theorem dX12_next_153 : decode cX12_next 153 = .ok (.iconst 1, 1) := dgX12_next_1 (153, (.iconst 1, 1)) (List.mem_of_getElem? (i := 38) rfl)
theorem dX12_next_154 : decode cX12_next 154 = .ok (.if_icmp .ne 89, 3) := dgX12_next_1 (154, (.if_icmp .ne 89, 3)) (List.mem_of_getElem? (i := 39) rfl)
theorem dgX12_next_2 : ∀ r ∈ ([(157, (.aload_n 0, 1)), (158, (.getfield 202, 3)), (161, (.aload_n 0, 1)), (162, (.getfield 192, 3)), (165, (.if_icmp .ge 78, 3)), (168, (.aload_n 0, 1)), (169, (.getfield 23, 3)), (172, (.aload_n 0, 1)), (173, (.getfield 202, 3)), (176, (.iaload, 1)), (177, (.invokestatic 218, 3)), (180, (.ifCond .eq 63, 3)), (183, (.aload_n 0, 1)), (184, (.aload_n 0, 1)), (185, (.getfield 202, 3)), (188, (.aload_n 0, 1)), (189, (.getfield 211, 3)), (192, (.isub, 1)), (193, (.bipush 10, 2)), (195, (.if_icmp .ge 29, 3)), (198, (.aload_n 0, 1)), (199, (.getfield 214, 3)), (202, (.ldc2_w 227, 3)), (205, (.lmul, 1)), (206, (.aload_n 0, 1)), (207, (.getfield 23, 3)), (210, (.aload_n 0, 1)), (211, (.getfield 202, 3)), (214, (.iaload, 1)), (215, (.i2l, 1)), (216, (.ladd, 1)), (217, (.ldc2_w 229, 3)), (220, (.lsub, 1)), (221, (.goto 6, 3)), (224, (.ldc2_w 178, 3)), (227, (.putfield 214, 3)), (230, (.aload_n 0, 1)), (231, (.dup, 1)), (232, (.getfield 202, 3)), (235, (.iconst 1, 1))] : List (Nat × (Instr × Nat))), decode cX12_next r.1 = .ok r.2 := by decide +kernel
theorem dX12_next_157 : decode cX12_next 157 = .ok (.aload_n 0, 1) := dgX12_next_2 (157, (.aload_n 0, 1)) (List.mem_of_getElem? (i := 0) rfl)
theorem dX12_next_158 : decode cX12_next 158 = .ok (.getfield 202, 3) := dgX12_next_2 (158, (.getfield 202, 3)) (List.mem_of_getElem? (i := 1) rfl)
theorem dX12_next_161 : decode cX12_next 161 = .ok (.aload_n 0, 1) := dgX12_next_2 (161, (.aload_n 0, 1)) (List.mem_of_getElem? (i := 2) rfl)
theorem dX12_next_162 : decode cX12_next 162 = .ok (.getfield 192, 3) := dgX12_next_2 (162, (.getfield 192, 3)) (List.mem_of_getElem? (i := 3) rfl)
theorem dX12_next_165 : decode cX12_next 165 = .ok (.if_icmp .ge 78, 3) := dgX12_next_2 (165, (.if_icmp .ge 78, 3)) (List.mem_of_getElem? (i := 4) rfl)
theorem dX12_next_168 : decode cX12_next 168 = .ok (.aload_n 0, 1) := dgX12_next_2 (168, (.aload_n 0, 1)) (List.mem_of_getElem? (i := 5) rfl)
theorem dX12_next_169 : decode cX12_next 169 = .ok (.getfield 23, 3) := dgX12_next_2 (169, (.getfield 23, 3)) (List.mem_of_getElem? (i := 6) rfl)
theorem dX12_next_172 : decode cX12_next 172 = .ok (.aload_n 0, 1) := dgX12_next_2 (172, (.aload_n 0, 1)) (List.mem_of_getElem? (i := 7) rfl)
theorem dX12_next_173 : decode cX12_next 173 = .ok (.getfield 202, 3) := dgX12_next_2 (173, (.getfield 202, 3)) (List.mem_of_getElem? (i := 8) rfl)
theorem dX12_next_176 : decode cX12_next 176 = .ok (.iaload, 1) := dgX12_next_2 (176, (.iaload, 1)) (List.mem_of_getElem? (i := 9) rfl)
theorem dX12_next_177 : decode cX12_next 177 = .ok (.invokestatic 218, 3) := dgX12_next_2 (177, (.invokestatic 218, 3)) (List.mem_of_getElem? (i := 10) rfl)
theorem dX12_next_180 : decode cX12_next 180 = .ok (.ifCond .eq 63, 3) := dgX12_next_2 (180, (.ifCond .eq 63, 3)) (List.mem_of_getElem? (i := 11) rfl)
theorem dX12_next_183 : decode cX12_next 183 = .ok (.aload_n 0, 1) := dgX12_next_2 (183, (.aload_n 0, 1)) (List.mem_of_getElem? (i := 12) rfl)
theorem dX12_next_184 : decode cX12_next 184 = .ok (.aload_n 0, 1) := dgX12_next_2 (184, (.aload_n 0, 1)) (List.mem_of_getElem? (i := 13) rfl)
theorem dX12_next_185 : decode cX12_next 185 = .ok (.getfield 202, 3) := dgX12_next_2 (185, (.getfield 202, 3)) (List.mem_of_getElem? (i := 14) rfl)
theorem dX12_next_188 : decode cX12_next 188 = .ok (.aload_n 0, 1) := dgX12_next_2 (188, (.aload_n 0, 1)) (List.mem_of_getElem? (i := 15) rfl)
theorem dX12_next_189 : decode cX12_next 189 = .ok (.getfield 211, 3) := dgX12_next_2 (189, (.getfield 211, 3)) (List.mem_of_getElem? (i := 16) rfl)
theorem dX12_next_192 : decode cX12_next 192 = .ok (.isub, 1) := dgX12_next_2 (192, (.isub, 1)) (List.mem_of_getElem? (i := 17) rfl)
theorem dX12_next_193 : decode cX12_next 193 = .ok (.bipush 10, 2) := dgX12_next_2 (193, (.bipush 10, 2)) (List.mem_of_getElem? (i := 18) rfl)
theorem dX12_next_195 : decode cX12_next 195 = .ok (.if_icmp .ge 29, 3) := dgX12_next_2 (195, (.if_icmp .ge 29, 3)) (List.mem_of_getElem? (i := 19) rfl)
theorem dX12_next_198 : decode cX12_next 198 = .ok (.aload_n 0, 1) := dgX12_next_2 (198, (.aload_n 0, 1)) (List.mem_of_getElem? (i := 20) rfl)
theorem dX12_next_199 : decode cX12_next 199 = .ok (.getfield 214, 3) := dgX12_next_2 (199, (.getfield 214, 3)) (List.mem_of_getElem? (i := 21) rfl)
theorem dX12_next_202 : decode cX12_next 202 = .ok (.ldc2_w 227, 3) := dgX12_next_2 (202, (.ldc2_w 227, 3)) (List.mem_of_getElem? (i := 22) rfl)
theorem dX12_next_205 : decode cX12_next 205 = .ok (.lmul, 1) := dgX12_next_2 (205, (.lmul, 1)) (List.mem_of_getElem? (i := 23) rfl)
theorem dX12_next_206 : decode cX12_next 206 = .ok (.aload_n 0, 1) := dgX12_next_2 (206, (.aload_n 0, 1)) (List.mem_of_getElem? (i := 24) rfl)
theorem dX12_next_207 : decode cX12_next 207 = .ok (.getfield 23, 3) := dgX12_next_2 (207, (.getfield 23, 3)) (List.mem_of_getElem? (i := 25) rfl)
theorem dX12_next_210 : decode cX12_next 210 = .ok (.aload_n 0, 1) := dgX12_next_2 (210, (.aload_n 0, 1)) (List.mem_of_getElem? (i := 26) rfl)
theorem dX12_next_211 : decode cX12_next 211 = .ok (.getfield 202, 3) := dgX12_next_2 (211, (.getfield 202, 3)) (List.mem_of_getElem? (i := 27) rfl)
theorem dX12_next_214 : decode cX12_next 214 = .ok (.iaload, 1) := dgX12_next_2 (214, (.iaload, 1)) (List.mem_of_getElem? (i := 28) rfl)
theorem dX12_next_215 : decode cX12_next 215 = .ok (.i2l, 1) := dgX12_next_2 (215, (.i2l, 1)) (List.mem_of_getElem? (i := 29) rfl)
theorem dX12_next_216 : decode cX12_next 216 = .ok (.ladd, 1) := dgX12_next_2 (216, (.ladd, 1)) (List.mem_of_getElem? (i := 30) rfl)
theorem dX12_next_217 : decode cX12_next 217 = .ok (.ldc2_w 229, 3) := dgX12_next_2 (217, (.ldc2_w 229, 3)) (List.mem_of_getElem? (i := 31) rfl)
theorem dX12_next_220 : decode cX12_next 220 = .ok (.lsub, 1) := dgX12_next_2 (220, (.lsub, 1)) (List.mem_of_getElem? (i := 32) rfl)
theorem dX12_next_221 : decode cX12_next 221 = .ok (.goto 6, 3) := dgX12_next_2 (221, (.goto 6, 3)) (List.mem_of_getElem? (i := 33) rfl)
theorem dX12_next_224 : decode cX12_next 224 = .ok (.ldc2_w 178, 3) := dgX12_next_2 (224, (.ldc2_w 178, 3)) (List.mem_of_getElem? (i := 34) rfl)
theorem dX12_next_227 : decode cX12_next 227 = .ok (.putfield 214, 3) := dgX12_next_2 (227, (.putfield 214, 3)) (List.mem_of_getElem? (i := 35) rfl)
theorem dX12_next_230 : decode cX12_next 230 = .ok (.aload_n 0, 1) := dgX12_next_2 (230, (.aload_n 0, 1)) (List.mem_of_getElem? (i := 36) rfl)
theorem dX12_next_231 : decode cX12_next 231 = .ok (.dup, 1) := dgX12_next_2 (231, (.dup, 1)) (List.mem_of_getElem? (i := 37) rfl)
theorem dX12_next_232 : decode cX12_next 232 = .ok (.getfield 202, 3) := dgX12_next_2 (232, (.getfield 202, 3)) (List.mem_of_getElem? (i := 38) rfl)
theorem dX12_next_235 : decode cX12_next 235 = .ok (.iconst 1, 1) := dgX12_next_2 (235, (.iconst 1, 1)) (List.mem_of_getElem? (i := 39) rfl)
theorem dgX12_next_3 : ∀ r ∈ ([(236, (.iadd, 1)), (237, (.putfield 202, 3)), (240, (.goto (-91), 3)), (243, (.aload_n 0, 1)), (244, (.getfield 224, 3)), (247, (.iconst 2, 1)), (248, (.if_icmp .ne 87, 3)), (251, (.aload_n 0, 1)), (252, (.getfield 202, 3)), (255, (.aload_n 0, 1)), (256, (.getfield 192, 3)), (259, (.if_icmp .ge 76, 3)), (262, (.aload_n 0, 1)), (263, (.getfield 23, 3)), (266, (.aload_n 0, 1)), (267, (.getfield 202, 3)), (270, (.iaload, 1)), (271, (.invokestatic 221, 3)), (274, (.ifCond .eq 61, 3)), (277, (.aload_n 0, 1)), (278, (.aload_n 0, 1)), (279, (.getfield 214, 3)), (282, (.ldc2_w 190, 3)), (285, (.lcmp, 1)), (286, (.ifCond .le 10, 3)), (289, (.aload_n 0, 1)), (290, (.getfield 214, 3)), (293, (.goto 26, 3)), (296, (.aload_n 0, 1)), (297, (.getfield 214, 3)), (300, (.ldc2_w 156, 3)), (303, (.lmul, 1)), (304, (.aload_n 0, 1)), (305, (.getfield 23, 3)), (308, (.aload_n 0, 1)), (309, (.getfield 202, 3)), (312, (.iaload, 1)), (313, (.i2l, 1)), (314, (.ladd, 1)), (315, (.ldc2_w 231, 3))] : List (Nat × (Instr × Nat))), decode cX12_next r.1 = .ok r.2 := by decide +kernel
theorem dX12_next_236 : decode cX12_next 236 = .ok (.iadd, 1) := dgX12_next_3 (236, (.iadd, 1)) (List.mem_of_getElem? (i := 0) rfl)
theorem dX12_next_237 : decode cX12_next 237 = .ok (.putfield 202, 3) := dgX12_next_3 (237, (.putfield 202, 3)) (List.mem_of_getElem? (i := 1) rfl)
theorem dX12_next_240 : decode cX12_next 240 = .ok (.goto (-91), 3) := dgX12_next_3 (240, (.goto (-91), 3)) (List.mem_of_getElem? (i := 2) rfl)
theorem dX12_next_243 : decode cX12_next 243 = .ok (.aload_n 0, 1) := dgX12_next_3 (243, (.aload_n 0, 1)) (List.mem_of_getElem? (i := 3) rfl)
theorem dX12_next_244 : decode cX12_next 244 = .ok (.getfield 224, 3) := dgX12_next_3 (244, (.getfield 224, 3)) (List.mem_of_getElem? (i := 4) rfl)
theorem dX12_next_247 : decode cX12_next 247 = .ok (.iconst 2, 1) := dgX12_next_3 (247, (.iconst 2, 1)) (List.mem_of_getElem? (i := 5) rfl)
theorem dX12_next_248 : decode cX12_next 248 = .ok (.if_icmp .ne 87, 3) := dgX12_next_3 (248, (.if_icmp .ne 87, 3)) (List.mem_of_getElem? (i := 6) rfl)
theorem dX12_next_251 : decode cX12_next 251 = .ok (.aload_n 0, 1) := dgX12_next_3 (251, (.aload_n 0, 1)) (List.mem_of_getElem? (i := 7) rfl)
theorem dX12_next_252 : decode cX12_next 252 = .ok (.getfield 202, 3) := dgX12_next_3 (252, (.getfield 202, 3)) (List.mem_of_getElem? (i := 8) rfl)
theorem dX12_next_255 : decode cX12_next 255 = .ok (.aload_n 0, 1) := dgX12_next_3 (255, (.aload_n 0, 1)) (List.mem_of_getElem? (i := 9) rfl)
theorem dX12_next_256 : decode cX12_next 256 = .ok (.getfield 192, 3) := dgX12_next_3 (256, (.getfield 192, 3)) (List.mem_of_getElem? (i := 10) rfl)
theorem dX12_next_259 : decode cX12_next 259 = .ok (.if_icmp .ge 76, 3) := dgX12_next_3 (259, (.if_icmp .ge 76, 3)) (List.mem_of_getElem? (i := 11) rfl)
theorem dX12_next_262 : decode cX12_next 262 = .ok (.aload_n 0, 1) := dgX12_next_3 (262, (.aload_n 0, 1)) (List.mem_of_getElem? (i := 12) rfl)
theorem dX12_next_263 : decode cX12_next 263 = .ok (.getfield 23, 3) := dgX12_next_3 (263, (.getfield 23, 3)) (List.mem_of_getElem? (i := 13) rfl)
theorem dX12_next_266 : decode cX12_next 266 = .ok (.aload_n 0, 1) := dgX12_next_3 (266, (.aload_n 0, 1)) (List.mem_of_getElem? (i := 14) rfl)
theorem dX12_next_267 : decode cX12_next 267 = .ok (.getfield 202, 3) := dgX12_next_3 (267, (.getfield 202, 3)) (List.mem_of_getElem? (i := 15) rfl)
theorem dX12_next_270 : decode cX12_next 270 = .ok (.iaload, 1) := dgX12_next_3 (270, (.iaload, 1)) (List.mem_of_getElem? (i := 16) rfl)
theorem dX12_next_271 : decode cX12_next 271 = .ok (.invokestatic 221, 3) := dgX12_next_3 (271, (.invokestatic 221, 3)) (List.mem_of_getElem? (i := 17) rfl)
theorem dX12_next_274 : decode cX12_next 274 = .ok (.ifCond .eq 61, 3) := dgX12_next_3 (274, (.ifCond .eq 61, 3)) (List.mem_of_getElem? (i := 18) rfl)
theorem dX12_next_277 : decode cX12_next 277 = .ok (.aload_n 0, 1) := dgX12_next_3 (277, (.aload_n 0, 1)) (List.mem_of_getElem? (i := 19) rfl)
theorem dX12_next_278 : decode cX12_next 278 = .ok (.aload_n 0, 1) := dgX12_next_3 (278, (.aload_n 0, 1)) (List.mem_of_getElem? (i := 20) rfl)
theorem dX12_next_279 : decode cX12_next 279 = .ok (.getfield 214, 3) := dgX12_next_3 (279, (.getfield 214, 3)) (List.mem_of_getElem? (i := 21) rfl)
theorem dX12_next_282 : decode cX12_next 282 = .ok (.ldc2_w 190, 3) := dgX12_next_3 (282, (.ldc2_w 190, 3)) (List.mem_of_getElem? (i := 22) rfl)
theorem dX12_next_285 : decode cX12_next 285 = .ok (.lcmp, 1) := dgX12_next_3 (285, (.lcmp, 1)) (List.mem_of_getElem? (i := 23) rfl)
theorem dX12_next_286 : decode cX12_next 286 = .ok (.ifCond .le 10, 3) := dgX12_next_3 (286, (.ifCond .le 10, 3)) (List.mem_of_getElem? (i := 24) rfl)
theorem dX12_next_289 : decode cX12_next 289 = .ok (.aload_n 0, 1) := dgX12_next_3 (289, (.aload_n 0, 1)) (List.mem_of_getElem? (i := 25) rfl)
theorem dX12_next_290 : decode cX12_next 290 = .ok (.getfield 214, 3) := dgX12_next_3 (290, (.getfield 214, 3)) (List.mem_of_getElem? (i := 26) rfl)
theorem dX12_next_293 : decode cX12_next 293 = .ok (.goto 26, 3) := dgX12_next_3 (293, (.goto 26, 3)) (List.mem_of_getElem? (i := 27) rfl)
theorem dX12_next_296 : decode cX12_next 296 = .ok (.aload_n 0, 1) := dgX12_next_3 (296, (.aload_n 0, 1)) (List.mem_of_getElem? (i := 28) rfl)
theorem dX12_next_297 : decode cX12_next 297 = .ok (.getfield 214, 3) := dgX12_next_3 (297, (.getfield 214, 3)) (List.mem_of_getElem? (i := 29) rfl)
theorem dX12_next_300 : decode cX12_next 300 = .ok (.ldc2_w 156, 3) := dgX12_next_3 (300, (.ldc2_w 156, 3)) (List.mem_of_getElem? (i := 30) rfl)
theorem dX12_next_303 : decode cX12_next 303 = .ok (.lmul, 1) := dgX12_next_3 (303, (.lmul, 1)) (List.mem_of_getElem? (i := 31) rfl)
theorem dX12_next_304 : decode cX12_next 304 = .ok (.aload_n 0, 1) := dgX12_next_3 (304, (.aload_n 0, 1)) (List.mem_of_getElem? (i := 32) rfl)
theorem dX12_next_305 : decode cX12_next 305 = .ok (.getfield 23, 3) := dgX12_next_3 (305, (.getfield 23, 3)) (List.mem_of_getElem? (i := 33) rfl)
theorem dX12_next_308 : decode cX12_next 308 = .ok (.aload_n 0, 1) := dgX12_next_3 (308, (.aload_n 0, 1)) (List.mem_of_getElem? (i := 34) rfl)
theorem dX12_next_309 : decode cX12_next 309 = .ok (.getfield 202, 3) := dgX12_next_3 (309, (.getfield 202, 3)) (List.mem_of_getElem? (i := 35) rfl)
theorem dX12_next_312 : decode cX12_next 312 = .ok (.iaload, 1) := dgX12_next_3 (312, (.iaload, 1)) (List.mem_of_getElem? (i := 36) rfl)
theorem dX12_next_313 : decode cX12_next 313 = .ok (.i2l, 1) := dgX12_next_3 (313, (.i2l, 1)) (List.mem_of_getElem? (i := 37) rfl)
theorem dX12_next_314 : decode cX12_next 314 = .ok (.ladd, 1) := dgX12_next_3 (314, (.ladd, 1)) (List.mem_of_getElem? (i := 38) rfl)
theorem dX12_next_315 : decode cX12_next 315 = .ok (.ldc2_w 231, 3) := dgX12_next_3 (315, (.ldc2_w 231, 3)) (List.mem_of_getElem? (i := 39) rfl)
theorem dgX12_next_4 : ∀ r ∈ ([(318, (.lsub, 1)), (319, (.putfield 214, 3)), (322, (.aload_n 0, 1)), (323, (.dup, 1)), (324, (.getfield 202, 3)), (327, (.iconst 1, 1)), (328, (.iadd, 1)), (329, (.putfield 202, 3)), (332, (.goto (-89), 3)), (335, (.return_, 1))] : List (Nat × (Instr × Nat))), decode cX12_next r.1 = .ok r.2 := by decide +kernel
theorem dX12_next_318 : decode cX12_next 318 = .ok (.lsub, 1) := dgX12_next_4 (318, (.lsub, 1)) (List.mem_of_getElem? (i := 0) rfl)
theorem dX12_next_319 : decode cX12_next 319 = .ok (.putfield 214, 3) := dgX12_next_4 (319, (.putfield 214, 3)) (List.mem_of_getElem? (i := 1) rfl)
theorem dX12_next_322 : decode cX12_next 322 = .ok (.aload_n 0, 1) := dgX12_next_4 (322, (.aload_n 0, 1)) (List.mem_of_getElem? (i := 2) rfl)
theorem dX12_next_323 : decode cX12_next 323 = .ok (.dup, 1) := dgX12_next_4 (323, (.dup, 1)) (List.mem_of_getElem? (i := 3) rfl)
theorem dX12_next_324 : decode cX12_next 324 = .ok (.getfield 202, 3) := dgX12_next_4 (324, (.getfield 202, 3)) (List.mem_of_getElem? (i := 4) rfl)
theorem dX12_next_327 : decode cX12_next 327 = .ok (.iconst 1, 1) := dgX12_next_4 (327, (.iconst 1, 1)) (List.mem_of_getElem? (i := 5) rfl)
theorem dX12_next_328 : decode cX12_next 328 = .ok (.iadd, 1) := dgX12_next_4 (328, (.iadd, 1)) (List.mem_of_getElem? (i := 6) rfl)
theorem dX12_next_329 : decode cX12_next 329 = .ok (.putfield 202, 3) := dgX12_next_4 (329, (.putfield 202, 3)) (List.mem_of_getElem? (i := 7) rfl)
theorem dX12_next_332 : decode cX12_next 332 = .ok (.goto (-89), 3) := dgX12_next_4 (332, (.goto (-89), 3)) (List.mem_of_getElem? (i := 8) rfl)
theorem dX12_next_335 : decode cX12_next 335 = .ok (.return_, 1) := dgX12_next_4 (335, (.return_, 1)) (List.mem_of_getElem? (i := 9) rfl)
theorem fl_X12_202 : Cond.fieldLink RX12 202 "LateGlassModel" "to" "I" ∈ tblG := tg 1213 (by decide +kernel) (by decide +kernel)
theorem fl_X12_211 : Cond.fieldLink RX12 211 "LateGlassModel" "from" "I" ∈ tblG := tg 1212 (by decide +kernel) (by decide +kernel)
theorem fl_X12_214 : Cond.fieldLink RX12 214 "LateGlassModel" "worth" "J" ∈ tblG := tg 1215 (by decide +kernel) (by decide +kernel)
theorem fl_X12_224 : Cond.fieldLink RX12 224 "LateGlassModel" "sort" "I" ∈ tblG := tg 1214 (by decide +kernel) (by decide +kernel)
theorem ml_X12_218 : Cond.methodLink RX12 218 yX12_isSmall ∈ tblG := tg 1508 (by decide +kernel) (by decide +kernel)
theorem st_X12_isSmall : Cond.static yX12_isSmall ∈ tblG := tg 1509 (by decide +kernel) (by decide +kernel)
theorem cd_X12_isSmall : Cond.code yX12_isSmall cX12_isSmall 1 (some .boolean) ∈ tblG := tg 1510 (by decide +kernel) (by decide +kernel)
theorem gW_X12_isSmall : GoodIn tblG (wsG yX12_isSmall cX12_isSmall 1 (some .boolean)) := tgi cd_X12_isSmall
theorem gS_X12_218 : GoodIn tblG (va_wsS RX12 218 yX12_isSmall (wsG yX12_isSmall cX12_isSmall 1 (some .boolean))) := tgS ml_X12_218 st_X12_isSmall ini_X12 gW_X12_isSmall
theorem hs_X12_isSmall : yX12_isSmall.cls ≠ "java/lang/invoke/MethodHandle" ∧ yX12_isSmall.cls ≠ "java/lang/invoke/VarHandle" ∧ (parseMethodDescriptor yX12_isSmall.desc).map (fun d => d.parameters.length) = some 1 := by decide +kernel
theorem kl_X12_227 : Cond.constantLong RX12 227 32 ∈ tblG := tg 1514 (by decide +kernel) (by decide +kernel)
theorem kl_X12_229 : Cond.constantLong RX12 229 96 ∈ tblG := tg 1515 (by decide +kernel) (by decide +kernel)
theorem ml_X12_221 : Cond.methodLink RX12 221 yX12_isDigit ∈ tblG := tg 1511 (by decide +kernel) (by decide +kernel)
theorem st_X12_isDigit : Cond.static yX12_isDigit ∈ tblG := tg 1512 (by decide +kernel) (by decide +kernel)
theorem cd_X12_isDigit : Cond.code yX12_isDigit cX12_isDigit 1 (some .boolean) ∈ tblG := tg 1513 (by decide +kernel) (by decide +kernel)
theorem gW_X12_isDigit : GoodIn tblG (wsG yX12_isDigit cX12_isDigit 1 (some .boolean)) := tgi cd_X12_isDigit
theorem gS_X12_221 : GoodIn tblG (va_wsS RX12 221 yX12_isDigit (wsG yX12_isDigit cX12_isDigit 1 (some .boolean))) := tgS ml_X12_221 st_X12_isDigit ini_X12 gW_X12_isDigit
theorem hs_X12_isDigit : yX12_isDigit.cls ≠ "java/lang/invoke/MethodHandle" ∧ yX12_isDigit.cls ≠ "java/lang/invoke/VarHandle" ∧ (parseMethodDescriptor yX12_isDigit.desc).map (fun d => d.parameters.length) = some 1 := by decide +kernel
theorem kl_X12_231 : Cond.constantLong RX12 231 48 ∈ tblG := tg 1516 (by decide +kernel) (by decide +kernel)
set_option maxHeartbeats 4000000 in
set_option maxRecDepth 100000 in
theorem n_next (l : Launch) (G : g5_G) (b_o b_tp b_rf b_ro b_im b_ke b_nl b_op b_ar b_pi b_pa b_ws b_hw b_se b_re b_pt b_ip b_ah b_be b_me b_tr b_ld b_wn : Nat) (sz : Nat) (u_th : Int32) (u_sa : Int32) (u_fd : Int32) (u_td : Int32) (u_fr : Int32) (u_to : Int32) (u_so : Int32) (u_fa : Int32) (u_bd : Int32) (u_nc : Int32) (u_co : Int32) (u_le : Int32) (u_pd : Int32) (u_od : Int32) (u_la : Int32) (u_bk : Int32) (u_ce : Int32) (u_ho : Int32) (u_wy : Int32) (u_bt : Int32) (u_ps : Int32) (u_tg : Int32) (u_sn : Int32) (u_ic : Int32) (u_wd : Int32) (u_id : Int32) (u_wo : Int64) (u_va : Int64) (u_su : Int64) (u_st : Int64) (v_tp : Nat → Int32) (h_u_td : 0 ≤ u_td.toInt ∧ u_td.toInt ≤ 400) (h_u_fr : 0 ≤ u_fr.toInt ∧ u_fr.toInt ≤ 400) (h_u_to : 0 ≤ u_to.toInt ∧ u_to.toInt ≤ 400) (h_u_bd : 0 ≤ u_bd.toInt ∧ u_bd.toInt ≤ 1) (h_u_nc : 0 ≤ u_nc.toInt ∧ u_nc.toInt ≤ 12) (h_u_co : 0 ≤ u_co.toInt ∧ u_co.toInt ≤ 400) (h_u_pd : 0 ≤ u_pd.toInt ∧ u_pd.toInt ≤ 400) (h_u_la : 0 ≤ u_la.toInt ∧ u_la.toInt ≤ 4840) (h_u_bk : 0 ≤ u_bk.toInt ∧ u_bk.toInt ≤ 1) (h_u_ce : 0 ≤ u_ce.toInt ∧ u_ce.toInt ≤ 63) (h_u_ho : 0 ≤ u_ho.toInt ∧ u_ho.toInt ≤ 23) (h_u_wy : 0 ≤ u_wy.toInt ∧ u_wy.toInt ≤ 3) (h_u_bt : 0 ≤ u_bt.toInt ∧ u_bt.toInt ≤ 1000000) (h_u_ps : 0 ≤ u_ps.toInt ∧ u_ps.toInt ≤ 200) (h_u_ic : 0 ≤ u_ic.toInt ∧ u_ic.toInt ≤ 1) (h_u_id : 0 ≤ u_id.toInt ∧ u_id.toInt ≤ 1) (e_t : u_to.toInt ≤ u_td.toInt) : Met l yX12_next (wsG yX12_next cX12_next 1 none) ({ frames := 1, cells := 0, slots := 0, locals := 20 }) (va_Pc [.ref b_o] (g5_P G [(b_o, (oc12 u_th u_sa b_rf b_ro b_im b_ke u_fd b_tp u_td u_fr u_to u_so u_wo u_fa u_bd u_nc b_nl u_co b_op b_ar u_le b_pi b_pa u_pd u_od b_ws b_hw u_la b_se b_re u_bk u_va u_su u_ce u_ho u_wy u_bt u_ps b_pt u_tg u_sn b_ip u_ic b_ah b_be b_me u_wd b_tr b_ld u_st b_wn u_id)), (b_tp, (arI G 400 v_tp))] sz)) (va_Qv (fun (u : va_W) => (∃ (o_fr : Int32) (o_to : Int32) (o_so : Int32) (o_wo : Int64), (0 ≤ o_fr.toInt ∧ o_fr.toInt ≤ 400) ∧ (0 ≤ o_to.toInt ∧ o_to.toInt ≤ 400) ∧ (u_to.toInt ≤ o_fr.toInt ∧ o_fr.toInt ≤ o_to.toInt ∧ o_to.toInt ≤ u_td.toInt) ∧ (TKs o_so.toInt o_fr.toInt o_to.toInt) ∧ (u = [(b_o, (oc12 u_th u_sa b_rf b_ro b_im b_ke u_fd b_tp u_td o_fr o_to o_so o_wo u_fa u_bd u_nc b_nl u_co b_op b_ar u_le b_pi b_pa u_pd u_od b_ws b_hw u_la b_se b_re u_bk u_va u_su u_ce u_ho u_wy u_bt u_ps b_pt u_tg u_sn b_ip u_ic b_ah b_be b_me u_wd b_tr b_ld u_st b_wn u_id)), (b_tp, (arI G 400 v_tp))]))) (g5_B G (va_A [(b_o, (oc12 u_th u_sa b_rf b_ro b_im b_ke u_fd b_tp u_td u_fr u_to u_so u_wo u_fa u_bd u_nc b_nl u_co b_op b_ar u_le b_pi b_pa u_pd u_od b_ws b_hw u_la b_se b_re u_bk u_va u_su u_ce u_ho u_wy u_bt u_ps b_pt u_tg u_sn b_ip u_ic b_ah b_be b_me u_wd b_tr b_ld u_st b_wn u_id)), (b_tp, (arI G 400 v_tp))] sz)) (va_A [(b_o, (oc12 u_th u_sa b_rf b_ro b_im b_ke u_fd b_tp u_td u_fr u_to u_so u_wo u_fa u_bd u_nc b_nl u_co b_op b_ar u_le b_pi b_pa u_pd u_od b_ws b_hw u_la b_se b_re u_bk u_va u_su u_ce u_ho u_wy u_bt u_ps b_pt u_tg u_sn b_ip u_ic b_ah b_be b_me u_wd b_tr b_ld u_st b_wn u_id)), (b_tp, (arI G 400 v_tp))] sz)) 0 0 (va_A [(b_o, (oc12 u_th u_sa b_rf b_ro b_im b_ke u_fd b_tp u_td u_fr u_to u_so u_wo u_fa u_bd u_nc b_nl u_co b_op b_ar u_le b_pi b_pa u_pd u_od b_ws b_hw u_la b_se b_re u_bk u_va u_su u_ce u_ho u_wy u_bt u_ps b_pt u_tg u_sn b_ip u_ic b_ah b_be b_me u_wd b_tr b_ld u_st b_wn u_id)), (b_tp, (arI G 400 v_tp))] sz) := by
  refine Met.ofW (cc := cX12_next) (maxL := 1) (ret := none) (by decide) rfl ?_
  intro p e s m args below meth c s₁ B hml hv
  obtain ⟨rfl, hsz, hP, hK, hD0, hN, hT⟩ := hv
  have hx := B.exec
  have hb := B.bytes
  have hr := B.returns
  have hts : ∀ w ∈ tblG, w.before _ s = true := fun w h => atoms_spec (ws := (wsG yX12_next cX12_next 1 none)) B.pre w (List.mem_cons_of_mem _ h)
  have hown : s.vm.findClass RX12 = some m.cls := findClass_of_methodNamed B.named
  have hlocks := B.notSynchronized
  subst hsz
  have hD := hD0.self (sz := s.heap.size)
  generalize hAe : va_A [(b_o, (oc12 u_th u_sa b_rf b_ro b_im b_ke u_fd b_tp u_td u_fr u_to u_so u_wo u_fa u_bd u_nc b_nl u_co b_op b_ar u_le b_pi b_pa u_pd u_od b_ws b_hw u_la b_se b_re u_bk u_va u_su u_ce u_ho u_wy u_bt u_ps b_pt u_tg u_sn b_ip u_ic b_ah b_be b_me u_wd b_tr b_ld u_st b_wn u_id)), (b_tp, (arI G 400 v_tp))] s.heap.size = A at hD hT ⊢
  have hA : ∀ q : Nat, s.heap.size ≤ q → A q := fun q h => by rw [← hAe]; exact Or.inr h
  have hS : va_S A s.heap s.heap [] := va_S.rf
  have hP : va_P G.1 vwCl [(b_o, (oc12 u_th u_sa b_rf b_ro b_im b_ke u_fd b_tp u_td u_fr u_to u_so u_wo u_fa u_bd u_nc b_nl u_co b_op b_ar u_le b_pi b_pa u_pd u_od b_ws b_hw u_la b_se b_re u_bk u_va u_su u_ce u_ho u_wy u_bt u_ps b_pt u_tg u_sn b_ip u_ic b_ah b_be b_me u_wd b_tr b_ld u_st b_wn u_id)), (b_tp, (arI G 400 v_tp))] s.heap := hP
  have hl := lv_entry ([.ref b_o]) (n := 1) (Nat.le_of_ble_eq_true rfl)
  rw [lg_entry_eq]
  generalize (lg_sl ([.ref b_o]) ++ List.replicate (1 - (lg_sl ([.ref b_o])).length) Slot.unset).toArray = ls at hl ⊢
  have hl : lv_has ls 1 [(0, .ref b_o)] := hl
  refine lv_aload_n hx hb dX12_next_0 rfl (lv_at hl 0 rfl) ?_
  refine lv_aload_n hx hb dX12_next_1 rfl (lv_at hl 0 rfl) ?_
  refine va_get (D := G.1) (ci := 12) (v := .int u_to) (C := RX12) (T := TX12) (N := 52) hx hb hts inG_X12 hown hK hP 0 rfl rfl 10 (by decide) (hts _ fl_X12_202) (fun _ h9 => h9) rfl dX12_next_2 ?_
  refine va_put (D := G.1) (ci := 12) (v := .int u_to) (ty := .int) (C := RX12) (T := TX12) (N := 52) hx hb hts inG_X12 tyX12 tyX12_ok nmX12 hown hK hP hD hS 0 rfl rfl 9 (by decide) (hts _ fl_X12_211) (fun _ h9 => h9) rfl (by decide +kernel) rfl rfl (Nat.le_of_ble_eq_true rfl) dX12_next_5 (fun H locs hP hD hS => ?_)
  refine g5_rs [(b_o, (oc12 u_th u_sa b_rf b_ro b_im b_ke u_fd b_tp u_td u_to u_to u_so u_wo u_fa u_bd u_nc b_nl u_co b_op b_ar u_le b_pi b_pa u_pd u_od b_ws b_hw u_la b_se b_re u_bk u_va u_su u_ce u_ho u_wy u_bt u_ps b_pt u_tg u_sn b_ip u_ic b_ah b_be b_me u_wd b_tr b_ld u_st b_wn u_id)), (b_tp, (arI G 400 v_tp))] hP hD (fun hP hD => ?_)
  refine g5_loop (α := (Int32)) (fun (k8_fr : (Int32)) (ls : Array Slot) (H : Heap) (locs : List Loc) => lv_has ls 1 [(0, .ref b_o)] ∧ va_P G.1 vwCl [(b_o, (oc12 u_th u_sa b_rf b_ro b_im b_ke u_fd b_tp u_td k8_fr u_to u_so u_wo u_fa u_bd u_nc b_nl u_co b_op b_ar u_le b_pi b_pa u_pd u_od b_ws b_hw u_la b_se b_re u_bk u_va u_su u_ce u_ho u_wy u_bt u_ps b_pt u_tg u_sn b_ip u_ic b_ah b_be b_me u_wd b_tr b_ld u_st b_wn u_id)), (b_tp, (arI G 400 v_tp))] H ∧ va_D A [(b_o, (oc12 u_th u_sa b_rf b_ro b_im b_ke u_fd b_tp u_td k8_fr u_to u_so u_wo u_fa u_bd u_nc b_nl u_co b_op b_ar u_le b_pi b_pa u_pd u_od b_ws b_hw u_la b_se b_re u_bk u_va u_su u_ce u_ho u_wy u_bt u_ps b_pt u_tg u_sn b_ip u_ic b_ah b_be b_me u_wd b_tr b_ld u_st b_wn u_id)), (b_tp, (arI G 400 v_tp))] ∧ va_S A s.heap H locs ∧ (0 ≤ k8_fr.toInt ∧ k8_fr.toInt ≤ 400) ∧ (u_to.toInt ≤ k8_fr.toInt ∧ k8_fr.toInt ≤ u_td.toInt)) (fun (k8_fr : (Int32)) => Int.toNat (400 - k8_fr.toInt)) u_to ⟨lv_sub hl [0] rfl, hP, hD, hS, h_u_to, by omega⟩ ?_
  rintro k8_fr ls H locs ⟨hl, hP, hD, hS, i_1, i_2⟩ ih_8_3
  have hl : lv_has ls 1 [(0, .ref b_o)] := hl
  have i_1 : 0 ≤ k8_fr.toInt ∧ k8_fr.toInt ≤ 400 := i_1
  have i_2 : u_to.toInt ≤ k8_fr.toInt ∧ k8_fr.toInt ≤ u_td.toInt := i_2
  refine g5_rs [(b_o, (oc12 u_th u_sa b_rf b_ro b_im b_ke u_fd b_tp u_td k8_fr u_to u_so u_wo u_fa u_bd u_nc b_nl u_co b_op b_ar u_le b_pi b_pa u_pd u_od b_ws b_hw u_la b_se b_re u_bk u_va u_su u_ce u_ho u_wy u_bt u_ps b_pt u_tg u_sn b_ip u_ic b_ah b_be b_me u_wd b_tr b_ld u_st b_wn u_id)), (b_tp, (arI G 400 v_tp))] hP hD (fun hP hD => ?_)
  refine lv_aload_n hx hb dX12_next_8 rfl (lv_at hl 0 rfl) ?_
  refine va_get (D := G.1) (ci := 12) (v := .int k8_fr) (C := RX12) (T := TX12) (N := 52) hx hb hts inG_X12 hown hK hP 0 rfl rfl 9 (by decide) (hts _ fl_X12_211) (fun _ h9 => h9) rfl dX12_next_9 ?_
  refine lv_aload_n hx hb dX12_next_12 rfl (lv_at hl 0 rfl) ?_
  refine va_get (D := G.1) (ci := 12) (v := .int u_td) (C := RX12) (T := TX12) (N := 52) hx hb hts inG_X12 hown hK hP 0 rfl rfl 8 (by decide) (hts _ fl_X12_192) (fun _ h9 => h9) rfl dX12_next_13 ?_
  refine lv_icmp_ge (tgt := 46) hx hb dX12_next_16 (by decide) (fun c_4 => ?_) (fun c_4 => ?_)
  ·
    have i_4 : k8_fr.toInt ≥ u_td.toInt := by have z := g5_ge (a := k8_fr.toInt) (b := u_td.toInt) (by rfl) (by rfl) c_4; omega
    refine lv_aload_n hx hb dX12_next_46 rfl (lv_at hl 0 rfl) ?_
    refine lv_aload_n hx hb dX12_next_47 rfl (lv_at hl 0 rfl) ?_
    refine va_get (D := G.1) (ci := 12) (v := .int k8_fr) (C := RX12) (T := TX12) (N := 52) hx hb hts inG_X12 hown hK hP 0 rfl rfl 9 (by decide) (hts _ fl_X12_211) (fun _ h9 => h9) rfl dX12_next_48 ?_
    refine va_put (D := G.1) (ci := 12) (v := .int k8_fr) (ty := .int) (C := RX12) (T := TX12) (N := 52) hx hb hts inG_X12 tyX12 tyX12_ok nmX12 hown hK hP hD hS 0 rfl rfl 10 (by decide) (hts _ fl_X12_202) (fun _ h9 => h9) rfl (by decide +kernel) rfl rfl (Nat.le_of_ble_eq_true rfl) dX12_next_51 (fun H locs hP hD hS => ?_)
    refine g5_rs [(b_o, (oc12 u_th u_sa b_rf b_ro b_im b_ke u_fd b_tp u_td k8_fr k8_fr u_so u_wo u_fa u_bd u_nc b_nl u_co b_op b_ar u_le b_pi b_pa u_pd u_od b_ws b_hw u_la b_se b_re u_bk u_va u_su u_ce u_ho u_wy u_bt u_ps b_pt u_tg u_sn b_ip u_ic b_ah b_be b_me u_wd b_tr b_ld u_st b_wn u_id)), (b_tp, (arI G 400 v_tp))] hP hD (fun hP hD => ?_)
    refine lv_aload_n hx hb dX12_next_54 rfl (lv_at hl 0 rfl) ?_
    refine lv_lconst (v := 0) hx hb dX12_next_55 (by decide) ?_
    refine va_put (D := G.1) (ci := 12) (v := .long 0) (ty := .long) (C := RX12) (T := TX12) (N := 52) hx hb hts inG_X12 tyX12 tyX12_ok nmX12 hown hK hP hD hS 0 rfl rfl 12 (by decide) (hts _ fl_X12_214) (fun _ h9 => h9) rfl (by decide +kernel) rfl rfl (Nat.le_of_ble_eq_true rfl) dX12_next_56 (fun H locs hP hD hS => ?_)
    refine g5_rs [(b_o, (oc12 u_th u_sa b_rf b_ro b_im b_ke u_fd b_tp u_td k8_fr k8_fr u_so 0 u_fa u_bd u_nc b_nl u_co b_op b_ar u_le b_pi b_pa u_pd u_od b_ws b_hw u_la b_se b_re u_bk u_va u_su u_ce u_ho u_wy u_bt u_ps b_pt u_tg u_sn b_ip u_ic b_ah b_be b_me u_wd b_tr b_ld u_st b_wn u_id)), (b_tp, (arI G 400 v_tp))] hP hD (fun hP hD => ?_)
    refine lv_aload_n hx hb dX12_next_59 rfl (lv_at hl 0 rfl) ?_
    refine lv_aload_n hx hb dX12_next_60 rfl (lv_at hl 0 rfl) ?_
    refine va_get (D := G.1) (ci := 12) (v := .int k8_fr) (C := RX12) (T := TX12) (N := 52) hx hb hts inG_X12 hown hK hP 0 rfl rfl 9 (by decide) (hts _ fl_X12_211) (fun _ h9 => h9) rfl dX12_next_61 ?_
    refine lv_aload_n hx hb dX12_next_64 rfl (lv_at hl 0 rfl) ?_
    refine va_get (D := G.1) (ci := 12) (v := .int u_td) (C := RX12) (T := TX12) (N := 52) hx hb hts inG_X12 hown hK hP 0 rfl rfl 8 (by decide) (hts _ fl_X12_192) (fun _ h9 => h9) rfl dX12_next_65 ?_
    refine lv_icmp_ne (tgt := 75) hx hb dX12_next_68 (by decide) (fun c_5 => ?_) (fun c_5 => ?_)
    ·
      have n_5 : gNe (k8_fr.toInt) (u_td.toInt) := by have z := g5_ne (a := k8_fr.toInt) (b := u_td.toInt) (by rfl) (by rfl) c_5; unfold gNe; omega
      exact absurd (show k8_fr.toInt = u_td.toInt by omega) n_5
    ·
      have i_5 : k8_fr.toInt = u_td.toInt := by have z := g5_neN (a := k8_fr.toInt) (b := u_td.toInt) (by rfl) (by rfl) c_5; omega
      refine lv_iconst (v := 0) hx hb dX12_next_71 (by decide) ?_
      refine lv_goto (tgt := 114) hx hb dX12_next_72 (by decide) ?_
      refine va_put (D := G.1) (ci := 12) (v := .int 0) (ty := .int) (C := RX12) (T := TX12) (N := 52) hx hb hts inG_X12 tyX12 tyX12_ok nmX12 hown hK hP hD hS 0 rfl rfl 11 (by decide) (hts _ fl_X12_224) (fun _ h9 => h9) rfl (by decide +kernel) rfl rfl (Nat.le_of_ble_eq_true rfl) dX12_next_114 (fun H locs hP hD hS => ?_)
      refine g5_rs [(b_o, (oc12 u_th u_sa b_rf b_ro b_im b_ke u_fd b_tp u_td k8_fr k8_fr 0 0 u_fa u_bd u_nc b_nl u_co b_op b_ar u_le b_pi b_pa u_pd u_od b_ws b_hw u_la b_se b_re u_bk u_va u_su u_ce u_ho u_wy u_bt u_ps b_pt u_tg u_sn b_ip u_ic b_ah b_be b_me u_wd b_tr b_ld u_st b_wn u_id)), (b_tp, (arI G 400 v_tp))] hP hD (fun hP hD => ?_)
      refine lv_aload_n hx hb dX12_next_117 rfl (lv_at hl 0 rfl) ?_
      refine va_get (D := G.1) (ci := 12) (v := .int 0) (C := RX12) (T := TX12) (N := 52) hx hb hts inG_X12 hown hK hP 0 rfl rfl 11 (by decide) (hts _ fl_X12_224) (fun _ h9 => h9) rfl dX12_next_118 ?_
      refine lv_iconst (v := 3) hx hb dX12_next_121 (by decide) ?_
      refine lv_icmp_ne (tgt := 149) hx hb dX12_next_122 (by decide) (fun c_6 => ?_) (fun c_6 => ?_)
      ·
        refine g5_loop (α := (Int32) × (Int64)) (fun (q : (Int32) × (Int64)) (ls : Array Slot) (H : Heap) (locs : List Loc) => match q with | (k149_to, k149_wo) => lv_has ls 1 [(0, .ref b_o)] ∧ va_P G.1 vwCl [(b_o, (oc12 u_th u_sa b_rf b_ro b_im b_ke u_fd b_tp u_td k8_fr k149_to 0 k149_wo u_fa u_bd u_nc b_nl u_co b_op b_ar u_le b_pi b_pa u_pd u_od b_ws b_hw u_la b_se b_re u_bk u_va u_su u_ce u_ho u_wy u_bt u_ps b_pt u_tg u_sn b_ip u_ic b_ah b_be b_me u_wd b_tr b_ld u_st b_wn u_id)), (b_tp, (arI G 400 v_tp))] H ∧ va_D A [(b_o, (oc12 u_th u_sa b_rf b_ro b_im b_ke u_fd b_tp u_td k8_fr k149_to 0 k149_wo u_fa u_bd u_nc b_nl u_co b_op b_ar u_le b_pi b_pa u_pd u_od b_ws b_hw u_la b_se b_re u_bk u_va u_su u_ce u_ho u_wy u_bt u_ps b_pt u_tg u_sn b_ip u_ic b_ah b_be b_me u_wd b_tr b_ld u_st b_wn u_id)), (b_tp, (arI G 400 v_tp))] ∧ va_S A s.heap H locs ∧ (0 ≤ k149_to.toInt ∧ k149_to.toInt ≤ 400) ∧ (k8_fr.toInt ≤ k149_to.toInt ∧ k149_to.toInt ≤ u_td.toInt)) (fun (q : (Int32) × (Int64)) => match q with | (k149_to, k149_wo) => Int.toNat (400 - k149_to.toInt)) (k8_fr, 0) ⟨lv_sub hl [0] rfl, hP, hD, hS, i_1, by omega⟩ ?_
        rintro ⟨k149_to, k149_wo⟩ ls H locs ⟨hl, hP, hD, hS, i_7, i_8⟩ ih_149_9
        have hl : lv_has ls 1 [(0, .ref b_o)] := hl
        have i_7 : 0 ≤ k149_to.toInt ∧ k149_to.toInt ≤ 400 := i_7
        have i_8 : k8_fr.toInt ≤ k149_to.toInt ∧ k149_to.toInt ≤ u_td.toInt := i_8
        refine g5_rs [(b_o, (oc12 u_th u_sa b_rf b_ro b_im b_ke u_fd b_tp u_td k8_fr k149_to 0 k149_wo u_fa u_bd u_nc b_nl u_co b_op b_ar u_le b_pi b_pa u_pd u_od b_ws b_hw u_la b_se b_re u_bk u_va u_su u_ce u_ho u_wy u_bt u_ps b_pt u_tg u_sn b_ip u_ic b_ah b_be b_me u_wd b_tr b_ld u_st b_wn u_id)), (b_tp, (arI G 400 v_tp))] hP hD (fun hP hD => ?_)
        refine lv_aload_n hx hb dX12_next_149 rfl (lv_at hl 0 rfl) ?_
        refine va_get (D := G.1) (ci := 12) (v := .int 0) (C := RX12) (T := TX12) (N := 52) hx hb hts inG_X12 hown hK hP 0 rfl rfl 11 (by decide) (hts _ fl_X12_224) (fun _ h9 => h9) rfl dX12_next_150 ?_
        refine lv_iconst (v := 1) hx hb dX12_next_153 (by decide) ?_
        refine lv_icmp_ne (tgt := 243) hx hb dX12_next_154 (by decide) (fun c_10 => ?_) (fun c_10 => ?_)
        ·
          refine g5_loop (α := (Int32) × (Int64)) (fun (q : (Int32) × (Int64)) (ls : Array Slot) (H : Heap) (locs : List Loc) => match q with | (k243_to, k243_wo) => lv_has ls 1 [(0, .ref b_o)] ∧ va_P G.1 vwCl [(b_o, (oc12 u_th u_sa b_rf b_ro b_im b_ke u_fd b_tp u_td k8_fr k243_to 0 k243_wo u_fa u_bd u_nc b_nl u_co b_op b_ar u_le b_pi b_pa u_pd u_od b_ws b_hw u_la b_se b_re u_bk u_va u_su u_ce u_ho u_wy u_bt u_ps b_pt u_tg u_sn b_ip u_ic b_ah b_be b_me u_wd b_tr b_ld u_st b_wn u_id)), (b_tp, (arI G 400 v_tp))] H ∧ va_D A [(b_o, (oc12 u_th u_sa b_rf b_ro b_im b_ke u_fd b_tp u_td k8_fr k243_to 0 k243_wo u_fa u_bd u_nc b_nl u_co b_op b_ar u_le b_pi b_pa u_pd u_od b_ws b_hw u_la b_se b_re u_bk u_va u_su u_ce u_ho u_wy u_bt u_ps b_pt u_tg u_sn b_ip u_ic b_ah b_be b_me u_wd b_tr b_ld u_st b_wn u_id)), (b_tp, (arI G 400 v_tp))] ∧ va_S A s.heap H locs ∧ (0 ≤ k243_to.toInt ∧ k243_to.toInt ≤ 400) ∧ (k8_fr.toInt ≤ k243_to.toInt ∧ k243_to.toInt ≤ u_td.toInt)) (fun (q : (Int32) × (Int64)) => match q with | (k243_to, k243_wo) => Int.toNat (400 - k243_to.toInt)) (k149_to, k149_wo) ⟨lv_sub hl [0] rfl, hP, hD, hS, i_7, by omega⟩ ?_
          rintro ⟨k243_to, k243_wo⟩ ls H locs ⟨hl, hP, hD, hS, i_11, i_12⟩ ih_243_13
          have hl : lv_has ls 1 [(0, .ref b_o)] := hl
          have i_11 : 0 ≤ k243_to.toInt ∧ k243_to.toInt ≤ 400 := i_11
          have i_12 : k8_fr.toInt ≤ k243_to.toInt ∧ k243_to.toInt ≤ u_td.toInt := i_12
          refine g5_rs [(b_o, (oc12 u_th u_sa b_rf b_ro b_im b_ke u_fd b_tp u_td k8_fr k243_to 0 k243_wo u_fa u_bd u_nc b_nl u_co b_op b_ar u_le b_pi b_pa u_pd u_od b_ws b_hw u_la b_se b_re u_bk u_va u_su u_ce u_ho u_wy u_bt u_ps b_pt u_tg u_sn b_ip u_ic b_ah b_be b_me u_wd b_tr b_ld u_st b_wn u_id)), (b_tp, (arI G 400 v_tp))] hP hD (fun hP hD => ?_)
          refine lv_aload_n hx hb dX12_next_243 rfl (lv_at hl 0 rfl) ?_
          refine va_get (D := G.1) (ci := 12) (v := .int 0) (C := RX12) (T := TX12) (N := 52) hx hb hts inG_X12 hown hK hP 0 rfl rfl 11 (by decide) (hts _ fl_X12_224) (fun _ h9 => h9) rfl dX12_next_244 ?_
          refine lv_iconst (v := 2) hx hb dX12_next_247 (by decide) ?_
          refine lv_icmp_ne (tgt := 335) hx hb dX12_next_248 (by decide) (fun c_14 => ?_) (fun c_14 => ?_)
          ·
            exact W.vret hx hb hr (fun t ht hW => ⟨⟨[(b_o, (oc12 u_th u_sa b_rf b_ro b_im b_ke u_fd b_tp u_td k8_fr k243_to 0 k243_wo u_fa u_bd u_nc b_nl u_co b_op b_ar u_le b_pi b_pa u_pd u_od b_ws b_hw u_la b_se b_re u_bk u_va u_su u_ce u_ho u_wy u_bt u_ps b_pt u_tg u_sn b_ip u_ic b_ah b_be b_me u_wd b_tr b_ld u_st b_wn u_id)), (b_tp, (arI G 400 v_tp))], rfl, ⟨k8_fr, k243_to, 0, k243_wo, i_1, i_11, by omega, Or.inl (by decide), rfl⟩, by rw [ht]; exact hP.sub [0, 1] rfl, hD.sub [0, 1] (by decide) rfl⟩, hS.F ht⟩) hS.2.2 dX12_next_335
          ·
            exact absurd c_14 (by decide)
        ·
          exact absurd c_10 (by decide)
      ·
        exact absurd c_6 (by decide)
  ·
    have i_4 : k8_fr.toInt < u_td.toInt := by have z := g5_geN (a := k8_fr.toInt) (b := u_td.toInt) (by rfl) (by rfl) c_4; omega
    refine lv_aload_n hx hb dX12_next_19 rfl (lv_at hl 0 rfl) ?_
    refine va_get (D := G.1) (ci := 12) (v := .ref b_tp) (C := RX12) (T := TX12) (N := 52) hx hb hts inG_X12 hown hK hP 0 rfl rfl 7 (by decide) (hts _ fl_X12_23) (fun _ h9 => h9) rfl dX12_next_20 ?_
    refine lv_aload_n hx hb dX12_next_23 rfl (lv_at hl 0 rfl) ?_
    refine va_get (D := G.1) (ci := 12) (v := .int k8_fr) (C := RX12) (T := TX12) (N := 52) hx hb hts inG_X12 hown hK hP 0 rfl rfl 9 (by decide) (hts _ fl_X12_211) (fun _ h9 => h9) rfl dX12_next_24 ?_
    refine va_iald hx hb hK hP 1 0 rfl rfl (i := k8_fr) (vp_in_iff.mpr ⟨by omega, by omega⟩) dX12_next_27 ?_
    refine lv_bipush (v := 32) hx hb dX12_next_28 (by decide) ?_
    refine lv_icmp_ne (tgt := 46) hx hb dX12_next_30 (by decide) (fun c_15 => ?_) (fun c_15 => ?_)
    ·
      have n_15 : gNe ((v_tp k8_fr.toNatClampNeg).toInt) (32) := by have z := g5_ne (a := (v_tp k8_fr.toNatClampNeg).toInt) (b := 32) (by rfl) (by decide) c_15; unfold gNe; omega
      refine lv_aload_n hx hb dX12_next_46 rfl (lv_at hl 0 rfl) ?_
      refine lv_aload_n hx hb dX12_next_47 rfl (lv_at hl 0 rfl) ?_
      refine va_get (D := G.1) (ci := 12) (v := .int k8_fr) (C := RX12) (T := TX12) (N := 52) hx hb hts inG_X12 hown hK hP 0 rfl rfl 9 (by decide) (hts _ fl_X12_211) (fun _ h9 => h9) rfl dX12_next_48 ?_
      refine va_put (D := G.1) (ci := 12) (v := .int k8_fr) (ty := .int) (C := RX12) (T := TX12) (N := 52) hx hb hts inG_X12 tyX12 tyX12_ok nmX12 hown hK hP hD hS 0 rfl rfl 10 (by decide) (hts _ fl_X12_202) (fun _ h9 => h9) rfl (by decide +kernel) rfl rfl (Nat.le_of_ble_eq_true rfl) dX12_next_51 (fun H locs hP hD hS => ?_)
      refine g5_rs [(b_o, (oc12 u_th u_sa b_rf b_ro b_im b_ke u_fd b_tp u_td k8_fr k8_fr u_so u_wo u_fa u_bd u_nc b_nl u_co b_op b_ar u_le b_pi b_pa u_pd u_od b_ws b_hw u_la b_se b_re u_bk u_va u_su u_ce u_ho u_wy u_bt u_ps b_pt u_tg u_sn b_ip u_ic b_ah b_be b_me u_wd b_tr b_ld u_st b_wn u_id)), (b_tp, (arI G 400 v_tp))] hP hD (fun hP hD => ?_)
      refine lv_aload_n hx hb dX12_next_54 rfl (lv_at hl 0 rfl) ?_
      refine lv_lconst (v := 0) hx hb dX12_next_55 (by decide) ?_
      refine va_put (D := G.1) (ci := 12) (v := .long 0) (ty := .long) (C := RX12) (T := TX12) (N := 52) hx hb hts inG_X12 tyX12 tyX12_ok nmX12 hown hK hP hD hS 0 rfl rfl 12 (by decide) (hts _ fl_X12_214) (fun _ h9 => h9) rfl (by decide +kernel) rfl rfl (Nat.le_of_ble_eq_true rfl) dX12_next_56 (fun H locs hP hD hS => ?_)
      refine g5_rs [(b_o, (oc12 u_th u_sa b_rf b_ro b_im b_ke u_fd b_tp u_td k8_fr k8_fr u_so 0 u_fa u_bd u_nc b_nl u_co b_op b_ar u_le b_pi b_pa u_pd u_od b_ws b_hw u_la b_se b_re u_bk u_va u_su u_ce u_ho u_wy u_bt u_ps b_pt u_tg u_sn b_ip u_ic b_ah b_be b_me u_wd b_tr b_ld u_st b_wn u_id)), (b_tp, (arI G 400 v_tp))] hP hD (fun hP hD => ?_)
      refine lv_aload_n hx hb dX12_next_59 rfl (lv_at hl 0 rfl) ?_
      refine lv_aload_n hx hb dX12_next_60 rfl (lv_at hl 0 rfl) ?_
      refine va_get (D := G.1) (ci := 12) (v := .int k8_fr) (C := RX12) (T := TX12) (N := 52) hx hb hts inG_X12 hown hK hP 0 rfl rfl 9 (by decide) (hts _ fl_X12_211) (fun _ h9 => h9) rfl dX12_next_61 ?_
      refine lv_aload_n hx hb dX12_next_64 rfl (lv_at hl 0 rfl) ?_
      refine va_get (D := G.1) (ci := 12) (v := .int u_td) (C := RX12) (T := TX12) (N := 52) hx hb hts inG_X12 hown hK hP 0 rfl rfl 8 (by decide) (hts _ fl_X12_192) (fun _ h9 => h9) rfl dX12_next_65 ?_
      refine lv_icmp_ne (tgt := 75) hx hb dX12_next_68 (by decide) (fun c_16 => ?_) (fun c_16 => ?_)
      ·
        have n_16 : gNe (k8_fr.toInt) (u_td.toInt) := by have z := g5_ne (a := k8_fr.toInt) (b := u_td.toInt) (by rfl) (by rfl) c_16; unfold gNe; omega
        refine lv_aload_n hx hb dX12_next_75 rfl (lv_at hl 0 rfl) ?_
        refine va_get (D := G.1) (ci := 12) (v := .ref b_tp) (C := RX12) (T := TX12) (N := 52) hx hb hts inG_X12 hown hK hP 0 rfl rfl 7 (by decide) (hts _ fl_X12_23) (fun _ h9 => h9) rfl dX12_next_76 ?_
        refine lv_aload_n hx hb dX12_next_79 rfl (lv_at hl 0 rfl) ?_
        refine va_get (D := G.1) (ci := 12) (v := .int k8_fr) (C := RX12) (T := TX12) (N := 52) hx hb hts inG_X12 hown hK hP 0 rfl rfl 9 (by decide) (hts _ fl_X12_211) (fun _ h9 => h9) rfl dX12_next_80 ?_
        refine va_iald hx hb hK hP 1 0 rfl rfl (i := k8_fr) (vp_in_iff.mpr ⟨by omega, by omega⟩) dX12_next_83 ?_
        obtain ⟨hPc, hDc, hFc⟩ := g5_sub3 (wc := []) hP hD hS hA [] (by decide) rfl
        refine va_calli (va_runS (As := [.int (v_tp k8_fr.toNatClampNeg)]) (rest := [.ref b_o]) ⟨hx, hb, hml, hown, hts⟩ (n_isSmallX l G H.size (v_tp k8_fr.toNatClampNeg)) (va_cwS 1 hts gS_X12_218 rfl rfl rfl hs_X12_isSmall ⟨Nat.le_of_ble_eq_true rfl, Nat.le_of_ble_eq_true rfl⟩) (g5_preS hPc hK hDc hN hT hS hFc) rfl rfl hl.1 rfl (lv_room (Nat.le_of_ble_eq_true rfl)) dX12_next_84 ⟨Nat.le_of_ble_eq_true rfl, Nat.le_of_ble_eq_true rfl⟩) hS (fun q _ h => hFc q h) hFc (fun r u t H1 locs ht hvm hw hB hz1 hk1 hS => ?_)
        obtain ⟨hP1, hD1⟩ := hB
        rw [ht] at hP1
        rcases hw with ⟨i_17, rfl, rfl⟩ | ⟨i_18, rfl, rfl⟩
        ·
          have i_17 : 97 ≤ (v_tp k8_fr.toNatClampNeg).toInt ∧ (v_tp k8_fr.toNatClampNeg).toInt ≤ 122 := i_17
          have hP := g5_same hP hk1
          generalize H1 = H at hP hS ⊢
          refine lv_if_eq (tgt := 94) hx hb dX12_next_87 (by decide) (fun c_19 => ?_) (fun c_19 => ?_)
          ·
            exact absurd c_19 (by decide)
          ·
            refine lv_iconst (v := 1) hx hb dX12_next_90 (by decide) ?_
            refine lv_goto (tgt := 114) hx hb dX12_next_91 (by decide) ?_
            refine va_put (D := G.1) (ci := 12) (v := .int 1) (ty := .int) (C := RX12) (T := TX12) (N := 52) hx hb hts inG_X12 tyX12 tyX12_ok nmX12 hown hK hP hD hS 0 rfl rfl 11 (by decide) (hts _ fl_X12_224) (fun _ h9 => h9) rfl (by decide +kernel) rfl rfl (Nat.le_of_ble_eq_true rfl) dX12_next_114 (fun H locs hP hD hS => ?_)
            refine g5_rs [(b_o, (oc12 u_th u_sa b_rf b_ro b_im b_ke u_fd b_tp u_td k8_fr k8_fr 1 0 u_fa u_bd u_nc b_nl u_co b_op b_ar u_le b_pi b_pa u_pd u_od b_ws b_hw u_la b_se b_re u_bk u_va u_su u_ce u_ho u_wy u_bt u_ps b_pt u_tg u_sn b_ip u_ic b_ah b_be b_me u_wd b_tr b_ld u_st b_wn u_id)), (b_tp, (arI G 400 v_tp))] hP hD (fun hP hD => ?_)
            refine lv_aload_n hx hb dX12_next_117 rfl (lv_at hl 0 rfl) ?_
            refine va_get (D := G.1) (ci := 12) (v := .int 1) (C := RX12) (T := TX12) (N := 52) hx hb hts inG_X12 hown hK hP 0 rfl rfl 11 (by decide) (hts _ fl_X12_224) (fun _ h9 => h9) rfl dX12_next_118 ?_
            refine lv_iconst (v := 3) hx hb dX12_next_121 (by decide) ?_
            refine lv_icmp_ne (tgt := 149) hx hb dX12_next_122 (by decide) (fun c_20 => ?_) (fun c_20 => ?_)
            ·
              refine g5_loop (α := (Int32) × (Int64)) (fun (q : (Int32) × (Int64)) (ls : Array Slot) (H : Heap) (locs : List Loc) => match q with | (k149_to, k149_wo) => lv_has ls 1 [(0, .ref b_o)] ∧ va_P G.1 vwCl [(b_o, (oc12 u_th u_sa b_rf b_ro b_im b_ke u_fd b_tp u_td k8_fr k149_to 1 k149_wo u_fa u_bd u_nc b_nl u_co b_op b_ar u_le b_pi b_pa u_pd u_od b_ws b_hw u_la b_se b_re u_bk u_va u_su u_ce u_ho u_wy u_bt u_ps b_pt u_tg u_sn b_ip u_ic b_ah b_be b_me u_wd b_tr b_ld u_st b_wn u_id)), (b_tp, (arI G 400 v_tp))] H ∧ va_D A [(b_o, (oc12 u_th u_sa b_rf b_ro b_im b_ke u_fd b_tp u_td k8_fr k149_to 1 k149_wo u_fa u_bd u_nc b_nl u_co b_op b_ar u_le b_pi b_pa u_pd u_od b_ws b_hw u_la b_se b_re u_bk u_va u_su u_ce u_ho u_wy u_bt u_ps b_pt u_tg u_sn b_ip u_ic b_ah b_be b_me u_wd b_tr b_ld u_st b_wn u_id)), (b_tp, (arI G 400 v_tp))] ∧ va_S A s.heap H locs ∧ (0 ≤ k149_to.toInt ∧ k149_to.toInt ≤ 400) ∧ (k8_fr.toInt ≤ k149_to.toInt ∧ k149_to.toInt ≤ u_td.toInt) ∧ (k8_fr.toInt < k149_to.toInt ∨ (97 ≤ (v_tp k8_fr.toNatClampNeg).toInt ∧ (v_tp k8_fr.toNatClampNeg).toInt ≤ 122 ∧ k149_to.toInt = k8_fr.toInt))) (fun (q : (Int32) × (Int64)) => match q with | (k149_to, k149_wo) => Int.toNat (400 - k149_to.toInt)) (k8_fr, 0) ⟨lv_sub hl [0] rfl, hP, hD, hS, i_1, by omega, Or.inr ⟨by omega, by omega, by omega⟩⟩ ?_
              rintro ⟨k149_to, k149_wo⟩ ls H locs ⟨hl, hP, hD, hS, i_21, i_22, i_23⟩ ih_149_24
              have hl : lv_has ls 1 [(0, .ref b_o)] := hl
              have i_21 : 0 ≤ k149_to.toInt ∧ k149_to.toInt ≤ 400 := i_21
              have i_22 : k8_fr.toInt ≤ k149_to.toInt ∧ k149_to.toInt ≤ u_td.toInt := i_22
              have i_23 : k8_fr.toInt < k149_to.toInt ∨ (97 ≤ (v_tp k8_fr.toNatClampNeg).toInt ∧ (v_tp k8_fr.toNatClampNeg).toInt ≤ 122 ∧ k149_to.toInt = k8_fr.toInt) := i_23
              refine g5_rs [(b_o, (oc12 u_th u_sa b_rf b_ro b_im b_ke u_fd b_tp u_td k8_fr k149_to 1 k149_wo u_fa u_bd u_nc b_nl u_co b_op b_ar u_le b_pi b_pa u_pd u_od b_ws b_hw u_la b_se b_re u_bk u_va u_su u_ce u_ho u_wy u_bt u_ps b_pt u_tg u_sn b_ip u_ic b_ah b_be b_me u_wd b_tr b_ld u_st b_wn u_id)), (b_tp, (arI G 400 v_tp))] hP hD (fun hP hD => ?_)
              refine lv_aload_n hx hb dX12_next_149 rfl (lv_at hl 0 rfl) ?_
              refine va_get (D := G.1) (ci := 12) (v := .int 1) (C := RX12) (T := TX12) (N := 52) hx hb hts inG_X12 hown hK hP 0 rfl rfl 11 (by decide) (hts _ fl_X12_224) (fun _ h9 => h9) rfl dX12_next_150 ?_
              refine lv_iconst (v := 1) hx hb dX12_next_153 (by decide) ?_
              refine lv_icmp_ne (tgt := 243) hx hb dX12_next_154 (by decide) (fun c_25 => ?_) (fun c_25 => ?_)
              ·
                exact absurd c_25 (by decide)
              ·
                refine lv_aload_n hx hb dX12_next_157 rfl (lv_at hl 0 rfl) ?_
                refine va_get (D := G.1) (ci := 12) (v := .int k149_to) (C := RX12) (T := TX12) (N := 52) hx hb hts inG_X12 hown hK hP 0 rfl rfl 10 (by decide) (hts _ fl_X12_202) (fun _ h9 => h9) rfl dX12_next_158 ?_
                refine lv_aload_n hx hb dX12_next_161 rfl (lv_at hl 0 rfl) ?_
                refine va_get (D := G.1) (ci := 12) (v := .int u_td) (C := RX12) (T := TX12) (N := 52) hx hb hts inG_X12 hown hK hP 0 rfl rfl 8 (by decide) (hts _ fl_X12_192) (fun _ h9 => h9) rfl dX12_next_162 ?_
                refine lv_icmp_ge (tgt := 243) hx hb dX12_next_165 (by decide) (fun c_26 => ?_) (fun c_26 => ?_)
                ·
                  have i_26 : k149_to.toInt ≥ u_td.toInt := by have z := g5_ge (a := k149_to.toInt) (b := u_td.toInt) (by rfl) (by rfl) c_26; omega
                  refine g5_loop (α := (Int32) × (Int64)) (fun (q : (Int32) × (Int64)) (ls : Array Slot) (H : Heap) (locs : List Loc) => match q with | (k243_to, k243_wo) => lv_has ls 1 [(0, .ref b_o)] ∧ va_P G.1 vwCl [(b_o, (oc12 u_th u_sa b_rf b_ro b_im b_ke u_fd b_tp u_td k8_fr k243_to 1 k243_wo u_fa u_bd u_nc b_nl u_co b_op b_ar u_le b_pi b_pa u_pd u_od b_ws b_hw u_la b_se b_re u_bk u_va u_su u_ce u_ho u_wy u_bt u_ps b_pt u_tg u_sn b_ip u_ic b_ah b_be b_me u_wd b_tr b_ld u_st b_wn u_id)), (b_tp, (arI G 400 v_tp))] H ∧ va_D A [(b_o, (oc12 u_th u_sa b_rf b_ro b_im b_ke u_fd b_tp u_td k8_fr k243_to 1 k243_wo u_fa u_bd u_nc b_nl u_co b_op b_ar u_le b_pi b_pa u_pd u_od b_ws b_hw u_la b_se b_re u_bk u_va u_su u_ce u_ho u_wy u_bt u_ps b_pt u_tg u_sn b_ip u_ic b_ah b_be b_me u_wd b_tr b_ld u_st b_wn u_id)), (b_tp, (arI G 400 v_tp))] ∧ va_S A s.heap H locs ∧ (0 ≤ k243_to.toInt ∧ k243_to.toInt ≤ 400) ∧ (k8_fr.toInt ≤ k243_to.toInt ∧ k243_to.toInt ≤ u_td.toInt) ∧ (k8_fr.toInt < k243_to.toInt)) (fun (q : (Int32) × (Int64)) => match q with | (k243_to, k243_wo) => Int.toNat (400 - k243_to.toInt)) (k149_to, k149_wo) ⟨lv_sub hl [0] rfl, hP, hD, hS, i_21, by omega, by omega⟩ ?_
                  rintro ⟨k243_to, k243_wo⟩ ls H locs ⟨hl, hP, hD, hS, i_27, i_28, i_29⟩ ih_243_30
                  have hl : lv_has ls 1 [(0, .ref b_o)] := hl
                  have i_27 : 0 ≤ k243_to.toInt ∧ k243_to.toInt ≤ 400 := i_27
                  have i_28 : k8_fr.toInt ≤ k243_to.toInt ∧ k243_to.toInt ≤ u_td.toInt := i_28
                  have i_29 : k8_fr.toInt < k243_to.toInt := i_29
                  refine g5_rs [(b_o, (oc12 u_th u_sa b_rf b_ro b_im b_ke u_fd b_tp u_td k8_fr k243_to 1 k243_wo u_fa u_bd u_nc b_nl u_co b_op b_ar u_le b_pi b_pa u_pd u_od b_ws b_hw u_la b_se b_re u_bk u_va u_su u_ce u_ho u_wy u_bt u_ps b_pt u_tg u_sn b_ip u_ic b_ah b_be b_me u_wd b_tr b_ld u_st b_wn u_id)), (b_tp, (arI G 400 v_tp))] hP hD (fun hP hD => ?_)
                  refine lv_aload_n hx hb dX12_next_243 rfl (lv_at hl 0 rfl) ?_
                  refine va_get (D := G.1) (ci := 12) (v := .int 1) (C := RX12) (T := TX12) (N := 52) hx hb hts inG_X12 hown hK hP 0 rfl rfl 11 (by decide) (hts _ fl_X12_224) (fun _ h9 => h9) rfl dX12_next_244 ?_
                  refine lv_iconst (v := 2) hx hb dX12_next_247 (by decide) ?_
                  refine lv_icmp_ne (tgt := 335) hx hb dX12_next_248 (by decide) (fun c_31 => ?_) (fun c_31 => ?_)
                  ·
                    exact W.vret hx hb hr (fun t ht hW => ⟨⟨[(b_o, (oc12 u_th u_sa b_rf b_ro b_im b_ke u_fd b_tp u_td k8_fr k243_to 1 k243_wo u_fa u_bd u_nc b_nl u_co b_op b_ar u_le b_pi b_pa u_pd u_od b_ws b_hw u_la b_se b_re u_bk u_va u_su u_ce u_ho u_wy u_bt u_ps b_pt u_tg u_sn b_ip u_ic b_ah b_be b_me u_wd b_tr b_ld u_st b_wn u_id)), (b_tp, (arI G 400 v_tp))], rfl, ⟨k8_fr, k243_to, 1, k243_wo, i_1, i_27, by omega, Or.inr (by omega), rfl⟩, by rw [ht]; exact hP.sub [0, 1] rfl, hD.sub [0, 1] (by decide) rfl⟩, hS.F ht⟩) hS.2.2 dX12_next_335
                  ·
                    exact absurd c_31 (by decide)
                ·
                  have i_26 : k149_to.toInt < u_td.toInt := by have z := g5_geN (a := k149_to.toInt) (b := u_td.toInt) (by rfl) (by rfl) c_26; omega
                  refine lv_aload_n hx hb dX12_next_168 rfl (lv_at hl 0 rfl) ?_
                  refine va_get (D := G.1) (ci := 12) (v := .ref b_tp) (C := RX12) (T := TX12) (N := 52) hx hb hts inG_X12 hown hK hP 0 rfl rfl 7 (by decide) (hts _ fl_X12_23) (fun _ h9 => h9) rfl dX12_next_169 ?_
                  refine lv_aload_n hx hb dX12_next_172 rfl (lv_at hl 0 rfl) ?_
                  refine va_get (D := G.1) (ci := 12) (v := .int k149_to) (C := RX12) (T := TX12) (N := 52) hx hb hts inG_X12 hown hK hP 0 rfl rfl 10 (by decide) (hts _ fl_X12_202) (fun _ h9 => h9) rfl dX12_next_173 ?_
                  refine va_iald hx hb hK hP 1 0 rfl rfl (i := k149_to) (vp_in_iff.mpr ⟨by omega, by omega⟩) dX12_next_176 ?_
                  obtain ⟨hPc, hDc, hFc⟩ := g5_sub3 (wc := []) hP hD hS hA [] (by decide) rfl
                  refine va_calli (va_runS (As := [.int (v_tp k149_to.toNatClampNeg)]) (rest := []) ⟨hx, hb, hml, hown, hts⟩ (n_isSmallX l G H.size (v_tp k149_to.toNatClampNeg)) (va_cwS 1 hts gS_X12_218 rfl rfl rfl hs_X12_isSmall ⟨Nat.le_of_ble_eq_true rfl, Nat.le_of_ble_eq_true rfl⟩) (g5_preS hPc hK hDc hN hT hS hFc) rfl rfl hl.1 rfl (lv_room (Nat.le_of_ble_eq_true rfl)) dX12_next_177 ⟨Nat.le_of_ble_eq_true rfl, Nat.le_of_ble_eq_true rfl⟩) hS (fun q _ h => hFc q h) hFc (fun r u t H1 locs ht hvm hw hB hz1 hk1 hS => ?_)
                  obtain ⟨hP1, hD1⟩ := hB
                  rw [ht] at hP1
                  rcases hw with ⟨i_32, rfl, rfl⟩ | ⟨i_33, rfl, rfl⟩
                  ·
                    have i_32 : 97 ≤ (v_tp k149_to.toNatClampNeg).toInt ∧ (v_tp k149_to.toNatClampNeg).toInt ≤ 122 := i_32
                    have hP := g5_same hP hk1
                    generalize H1 = H at hP hS ⊢
                    refine lv_if_eq (tgt := 243) hx hb dX12_next_180 (by decide) (fun c_34 => ?_) (fun c_34 => ?_)
                    ·
                      exact absurd c_34 (by decide)
                    ·
                      refine lv_aload_n hx hb dX12_next_183 rfl (lv_at hl 0 rfl) ?_
                      refine lv_aload_n hx hb dX12_next_184 rfl (lv_at hl 0 rfl) ?_
                      refine va_get (D := G.1) (ci := 12) (v := .int k149_to) (C := RX12) (T := TX12) (N := 52) hx hb hts inG_X12 hown hK hP 0 rfl rfl 10 (by decide) (hts _ fl_X12_202) (fun _ h9 => h9) rfl dX12_next_185 ?_
                      refine lv_aload_n hx hb dX12_next_188 rfl (lv_at hl 0 rfl) ?_
                      refine va_get (D := G.1) (ci := 12) (v := .int k8_fr) (C := RX12) (T := TX12) (N := 52) hx hb hts inG_X12 hown hK hP 0 rfl rfl 9 (by decide) (hts _ fl_X12_211) (fun _ h9 => h9) rfl dX12_next_189 ?_
                      refine lv_isub hx hb dX12_next_192 ?_
                      have t_35 : (k149_to - k8_fr).toInt = k149_to.toInt - k8_fr.toInt := g5_isub (a := k149_to.toInt) (b := k8_fr.toInt) (by rfl) (by rfl) (by omega) (by omega)
                      refine lv_bipush (v := 10) hx hb dX12_next_193 (by decide) ?_
                      refine lv_icmp_ge (tgt := 224) hx hb dX12_next_195 (by decide) (fun c_36 => ?_) (fun c_36 => ?_)
                      ·
                        have i_36 : (k149_to.toInt - k8_fr.toInt) ≥ 10 := by have z := g5_ge (a := (k149_to - k8_fr).toInt) (b := 10) (by rfl) (by decide) c_36; omega
                        refine lv_ldc2 (v := (-1)) hx hb hown (hts _ kl_X12_178) dX12_next_224 ?_
                        refine va_put (D := G.1) (ci := 12) (v := .long (-1)) (ty := .long) (C := RX12) (T := TX12) (N := 52) hx hb hts inG_X12 tyX12 tyX12_ok nmX12 hown hK hP hD hS 0 rfl rfl 12 (by decide) (hts _ fl_X12_214) (fun _ h9 => h9) rfl (by decide +kernel) rfl rfl (Nat.le_of_ble_eq_true rfl) dX12_next_227 (fun H locs hP hD hS => ?_)
                        refine g5_rs [(b_o, (oc12 u_th u_sa b_rf b_ro b_im b_ke u_fd b_tp u_td k8_fr k149_to 1 (-1) u_fa u_bd u_nc b_nl u_co b_op b_ar u_le b_pi b_pa u_pd u_od b_ws b_hw u_la b_se b_re u_bk u_va u_su u_ce u_ho u_wy u_bt u_ps b_pt u_tg u_sn b_ip u_ic b_ah b_be b_me u_wd b_tr b_ld u_st b_wn u_id)), (b_tp, (arI G 400 v_tp))] hP hD (fun hP hD => ?_)
                        refine lv_aload_n hx hb dX12_next_230 rfl (lv_at hl 0 rfl) ?_
                        refine lv_dup hx hb dX12_next_231 rfl ?_
                        refine va_get (D := G.1) (ci := 12) (v := .int k149_to) (C := RX12) (T := TX12) (N := 52) hx hb hts inG_X12 hown hK hP 0 rfl rfl 10 (by decide) (hts _ fl_X12_202) (fun _ h9 => h9) rfl dX12_next_232 ?_
                        refine lv_iconst (v := 1) hx hb dX12_next_235 (by decide) ?_
                        refine lv_iadd hx hb dX12_next_236 ?_
                        have t_37 : (k149_to + 1).toInt = k149_to.toInt + 1 := g5_iadd (a := k149_to.toInt) (b := 1) (by rfl) (by decide) (by omega) (by omega)
                        refine va_put (D := G.1) (ci := 12) (v := .int (k149_to + 1)) (ty := .int) (C := RX12) (T := TX12) (N := 52) hx hb hts inG_X12 tyX12 tyX12_ok nmX12 hown hK hP hD hS 0 rfl rfl 10 (by decide) (hts _ fl_X12_202) (fun _ h9 => h9) rfl (by decide +kernel) rfl rfl (Nat.le_of_ble_eq_true rfl) dX12_next_237 (fun H locs hP hD hS => ?_)
                        refine g5_rs [(b_o, (oc12 u_th u_sa b_rf b_ro b_im b_ke u_fd b_tp u_td k8_fr (k149_to + 1) 1 (-1) u_fa u_bd u_nc b_nl u_co b_op b_ar u_le b_pi b_pa u_pd u_od b_ws b_hw u_la b_se b_re u_bk u_va u_su u_ce u_ho u_wy u_bt u_ps b_pt u_tg u_sn b_ip u_ic b_ah b_be b_me u_wd b_tr b_ld u_st b_wn u_id)), (b_tp, (arI G 400 v_tp))] hP hD (fun hP hD => ?_)
                        refine lv_goto (tgt := 149) hx hb dX12_next_240 (by decide) ?_
                        exact ih_149_24 ((k149_to + 1), (-1)) ls H locs (show Int.toNat (400 - (k149_to + 1).toInt) < Int.toNat (400 - k149_to.toInt) from g_up (show k149_to.toInt < (k149_to + 1).toInt by omega) (show k149_to.toInt < 400 by omega)) ⟨lv_sub hl [0] rfl, hP, hD, hS, ⟨by omega, by omega⟩, by omega, Or.inl (by omega)⟩
                      ·
                        have i_36 : (k149_to.toInt - k8_fr.toInt) < 10 := by have z := g5_geN (a := (k149_to - k8_fr).toInt) (b := 10) (by rfl) (by decide) c_36; omega
                        refine lv_aload_n hx hb dX12_next_198 rfl (lv_at hl 0 rfl) ?_
                        refine va_get (D := G.1) (ci := 12) (v := .long k149_wo) (C := RX12) (T := TX12) (N := 52) hx hb hts inG_X12 hown hK hP 0 rfl rfl 12 (by decide) (hts _ fl_X12_214) (fun _ h9 => h9) rfl dX12_next_199 ?_
                        refine lv_ldc2 (v := 32) hx hb hown (hts _ kl_X12_227) dX12_next_202 ?_
                        refine lv_lmul hx hb dX12_next_205 ?_
                        refine lv_aload_n hx hb dX12_next_206 rfl (lv_at hl 0 rfl) ?_
                        refine va_get (D := G.1) (ci := 12) (v := .ref b_tp) (C := RX12) (T := TX12) (N := 52) hx hb hts inG_X12 hown hK hP 0 rfl rfl 7 (by decide) (hts _ fl_X12_23) (fun _ h9 => h9) rfl dX12_next_207 ?_
                        refine lv_aload_n hx hb dX12_next_210 rfl (lv_at hl 0 rfl) ?_
                        refine va_get (D := G.1) (ci := 12) (v := .int k149_to) (C := RX12) (T := TX12) (N := 52) hx hb hts inG_X12 hown hK hP 0 rfl rfl 10 (by decide) (hts _ fl_X12_202) (fun _ h9 => h9) rfl dX12_next_211 ?_
                        refine va_iald hx hb hK hP 1 0 rfl rfl (i := k149_to) (vp_in_iff.mpr ⟨by omega, by omega⟩) dX12_next_214 ?_
                        refine lv_i2l (v := (v_tp k149_to.toNatClampNeg).toInt64) hx hb dX12_next_215 rfl ?_
                        refine lv_ladd hx hb dX12_next_216 ?_
                        refine lv_ldc2 (v := 96) hx hb hown (hts _ kl_X12_229) dX12_next_217 ?_
                        refine lv_lsub hx hb dX12_next_220 ?_
                        refine lv_goto (tgt := 227) hx hb dX12_next_221 (by decide) ?_
                        refine va_put (D := G.1) (ci := 12) (v := .long (((k149_wo * 32) + ((v_tp k149_to.toNatClampNeg).toInt64)) - 96)) (ty := .long) (C := RX12) (T := TX12) (N := 52) hx hb hts inG_X12 tyX12 tyX12_ok nmX12 hown hK hP hD hS 0 rfl rfl 12 (by decide) (hts _ fl_X12_214) (fun _ h9 => h9) rfl (by decide +kernel) rfl rfl (Nat.le_of_ble_eq_true rfl) dX12_next_227 (fun H locs hP hD hS => ?_)
                        refine g5_rs [(b_o, (oc12 u_th u_sa b_rf b_ro b_im b_ke u_fd b_tp u_td k8_fr k149_to 1 (((k149_wo * 32) + ((v_tp k149_to.toNatClampNeg).toInt64)) - 96) u_fa u_bd u_nc b_nl u_co b_op b_ar u_le b_pi b_pa u_pd u_od b_ws b_hw u_la b_se b_re u_bk u_va u_su u_ce u_ho u_wy u_bt u_ps b_pt u_tg u_sn b_ip u_ic b_ah b_be b_me u_wd b_tr b_ld u_st b_wn u_id)), (b_tp, (arI G 400 v_tp))] hP hD (fun hP hD => ?_)
                        refine lv_aload_n hx hb dX12_next_230 rfl (lv_at hl 0 rfl) ?_
                        refine lv_dup hx hb dX12_next_231 rfl ?_
                        refine va_get (D := G.1) (ci := 12) (v := .int k149_to) (C := RX12) (T := TX12) (N := 52) hx hb hts inG_X12 hown hK hP 0 rfl rfl 10 (by decide) (hts _ fl_X12_202) (fun _ h9 => h9) rfl dX12_next_232 ?_
                        refine lv_iconst (v := 1) hx hb dX12_next_235 (by decide) ?_
                        refine lv_iadd hx hb dX12_next_236 ?_
                        have t_38 : (k149_to + 1).toInt = k149_to.toInt + 1 := g5_iadd (a := k149_to.toInt) (b := 1) (by rfl) (by decide) (by omega) (by omega)
                        refine va_put (D := G.1) (ci := 12) (v := .int (k149_to + 1)) (ty := .int) (C := RX12) (T := TX12) (N := 52) hx hb hts inG_X12 tyX12 tyX12_ok nmX12 hown hK hP hD hS 0 rfl rfl 10 (by decide) (hts _ fl_X12_202) (fun _ h9 => h9) rfl (by decide +kernel) rfl rfl (Nat.le_of_ble_eq_true rfl) dX12_next_237 (fun H locs hP hD hS => ?_)
                        refine g5_rs [(b_o, (oc12 u_th u_sa b_rf b_ro b_im b_ke u_fd b_tp u_td k8_fr (k149_to + 1) 1 (((k149_wo * 32) + ((v_tp k149_to.toNatClampNeg).toInt64)) - 96) u_fa u_bd u_nc b_nl u_co b_op b_ar u_le b_pi b_pa u_pd u_od b_ws b_hw u_la b_se b_re u_bk u_va u_su u_ce u_ho u_wy u_bt u_ps b_pt u_tg u_sn b_ip u_ic b_ah b_be b_me u_wd b_tr b_ld u_st b_wn u_id)), (b_tp, (arI G 400 v_tp))] hP hD (fun hP hD => ?_)
                        refine lv_goto (tgt := 149) hx hb dX12_next_240 (by decide) ?_
                        exact ih_149_24 ((k149_to + 1), (((k149_wo * 32) + ((v_tp k149_to.toNatClampNeg).toInt64)) - 96)) ls H locs (show Int.toNat (400 - (k149_to + 1).toInt) < Int.toNat (400 - k149_to.toInt) from g_up (show k149_to.toInt < (k149_to + 1).toInt by omega) (show k149_to.toInt < 400 by omega)) ⟨lv_sub hl [0] rfl, hP, hD, hS, ⟨by omega, by omega⟩, by omega, Or.inl (by omega)⟩
                  ·
                    have i_33 : (v_tp k149_to.toNatClampNeg).toInt < 97 ∨ 122 < (v_tp k149_to.toNatClampNeg).toInt := i_33
                    have hP := g5_same hP hk1
                    generalize H1 = H at hP hS ⊢
                    refine lv_if_eq (tgt := 243) hx hb dX12_next_180 (by decide) (fun c_39 => ?_) (fun c_39 => ?_)
                    ·
                      refine g5_loop (α := (Int32) × (Int64)) (fun (q : (Int32) × (Int64)) (ls : Array Slot) (H : Heap) (locs : List Loc) => match q with | (k243_to, k243_wo) => lv_has ls 1 [(0, .ref b_o)] ∧ va_P G.1 vwCl [(b_o, (oc12 u_th u_sa b_rf b_ro b_im b_ke u_fd b_tp u_td k8_fr k243_to 1 k243_wo u_fa u_bd u_nc b_nl u_co b_op b_ar u_le b_pi b_pa u_pd u_od b_ws b_hw u_la b_se b_re u_bk u_va u_su u_ce u_ho u_wy u_bt u_ps b_pt u_tg u_sn b_ip u_ic b_ah b_be b_me u_wd b_tr b_ld u_st b_wn u_id)), (b_tp, (arI G 400 v_tp))] H ∧ va_D A [(b_o, (oc12 u_th u_sa b_rf b_ro b_im b_ke u_fd b_tp u_td k8_fr k243_to 1 k243_wo u_fa u_bd u_nc b_nl u_co b_op b_ar u_le b_pi b_pa u_pd u_od b_ws b_hw u_la b_se b_re u_bk u_va u_su u_ce u_ho u_wy u_bt u_ps b_pt u_tg u_sn b_ip u_ic b_ah b_be b_me u_wd b_tr b_ld u_st b_wn u_id)), (b_tp, (arI G 400 v_tp))] ∧ va_S A s.heap H locs ∧ (0 ≤ k243_to.toInt ∧ k243_to.toInt ≤ 400) ∧ (k8_fr.toInt ≤ k243_to.toInt ∧ k243_to.toInt ≤ u_td.toInt) ∧ (k8_fr.toInt < k243_to.toInt)) (fun (q : (Int32) × (Int64)) => match q with | (k243_to, k243_wo) => Int.toNat (400 - k243_to.toInt)) (k149_to, k149_wo) ⟨lv_sub hl [0] rfl, hP, hD, hS, i_21, by omega, tk_exit i_23 i_33⟩ ?_
                      rintro ⟨k243_to, k243_wo⟩ ls H locs ⟨hl, hP, hD, hS, i_40, i_41, i_42⟩ ih_243_43
                      have hl : lv_has ls 1 [(0, .ref b_o)] := hl
                      have i_40 : 0 ≤ k243_to.toInt ∧ k243_to.toInt ≤ 400 := i_40
                      have i_41 : k8_fr.toInt ≤ k243_to.toInt ∧ k243_to.toInt ≤ u_td.toInt := i_41
                      have i_42 : k8_fr.toInt < k243_to.toInt := i_42
                      refine g5_rs [(b_o, (oc12 u_th u_sa b_rf b_ro b_im b_ke u_fd b_tp u_td k8_fr k243_to 1 k243_wo u_fa u_bd u_nc b_nl u_co b_op b_ar u_le b_pi b_pa u_pd u_od b_ws b_hw u_la b_se b_re u_bk u_va u_su u_ce u_ho u_wy u_bt u_ps b_pt u_tg u_sn b_ip u_ic b_ah b_be b_me u_wd b_tr b_ld u_st b_wn u_id)), (b_tp, (arI G 400 v_tp))] hP hD (fun hP hD => ?_)
                      refine lv_aload_n hx hb dX12_next_243 rfl (lv_at hl 0 rfl) ?_
                      refine va_get (D := G.1) (ci := 12) (v := .int 1) (C := RX12) (T := TX12) (N := 52) hx hb hts inG_X12 hown hK hP 0 rfl rfl 11 (by decide) (hts _ fl_X12_224) (fun _ h9 => h9) rfl dX12_next_244 ?_
                      refine lv_iconst (v := 2) hx hb dX12_next_247 (by decide) ?_
                      refine lv_icmp_ne (tgt := 335) hx hb dX12_next_248 (by decide) (fun c_44 => ?_) (fun c_44 => ?_)
                      ·
                        exact W.vret hx hb hr (fun t ht hW => ⟨⟨[(b_o, (oc12 u_th u_sa b_rf b_ro b_im b_ke u_fd b_tp u_td k8_fr k243_to 1 k243_wo u_fa u_bd u_nc b_nl u_co b_op b_ar u_le b_pi b_pa u_pd u_od b_ws b_hw u_la b_se b_re u_bk u_va u_su u_ce u_ho u_wy u_bt u_ps b_pt u_tg u_sn b_ip u_ic b_ah b_be b_me u_wd b_tr b_ld u_st b_wn u_id)), (b_tp, (arI G 400 v_tp))], rfl, ⟨k8_fr, k243_to, 1, k243_wo, i_1, i_40, by omega, Or.inr (by omega), rfl⟩, by rw [ht]; exact hP.sub [0, 1] rfl, hD.sub [0, 1] (by decide) rfl⟩, hS.F ht⟩) hS.2.2 dX12_next_335
                      ·
                        exact absurd c_44 (by decide)
                    ·
                      exact absurd c_39 (by decide)
            ·
              exact absurd c_20 (by decide)
        ·
          have i_18 : (v_tp k8_fr.toNatClampNeg).toInt < 97 ∨ 122 < (v_tp k8_fr.toNatClampNeg).toInt := i_18
          have hP := g5_same hP hk1
          generalize H1 = H at hP hS ⊢
          refine lv_if_eq (tgt := 94) hx hb dX12_next_87 (by decide) (fun c_45 => ?_) (fun c_45 => ?_)
          ·
            refine lv_aload_n hx hb dX12_next_94 rfl (lv_at hl 0 rfl) ?_
            refine va_get (D := G.1) (ci := 12) (v := .ref b_tp) (C := RX12) (T := TX12) (N := 52) hx hb hts inG_X12 hown hK hP 0 rfl rfl 7 (by decide) (hts _ fl_X12_23) (fun _ h9 => h9) rfl dX12_next_95 ?_
            refine lv_aload_n hx hb dX12_next_98 rfl (lv_at hl 0 rfl) ?_
            refine va_get (D := G.1) (ci := 12) (v := .int k8_fr) (C := RX12) (T := TX12) (N := 52) hx hb hts inG_X12 hown hK hP 0 rfl rfl 9 (by decide) (hts _ fl_X12_211) (fun _ h9 => h9) rfl dX12_next_99 ?_
            refine va_iald hx hb hK hP 1 0 rfl rfl (i := k8_fr) (vp_in_iff.mpr ⟨by omega, by omega⟩) dX12_next_102 ?_
            obtain ⟨hPc, hDc, hFc⟩ := g5_sub3 (wc := []) hP hD hS hA [] (by decide) rfl
            refine va_calli (va_runS (As := [.int (v_tp k8_fr.toNatClampNeg)]) (rest := [.ref b_o]) ⟨hx, hb, hml, hown, hts⟩ (n_isDigitX l G H.size (v_tp k8_fr.toNatClampNeg)) (va_cwS 1 hts gS_X12_221 rfl rfl rfl hs_X12_isDigit ⟨Nat.le_of_ble_eq_true rfl, Nat.le_of_ble_eq_true rfl⟩) (g5_preS hPc hK hDc hN hT hS hFc) rfl rfl hl.1 rfl (lv_room (Nat.le_of_ble_eq_true rfl)) dX12_next_103 ⟨Nat.le_of_ble_eq_true rfl, Nat.le_of_ble_eq_true rfl⟩) hS (fun q _ h => hFc q h) hFc (fun r u t H1 locs ht hvm hw hB hz1 hk1 hS => ?_)
            obtain ⟨hP1, hD1⟩ := hB
            rw [ht] at hP1
            rcases hw with ⟨i_46, rfl, rfl⟩ | ⟨i_47, rfl, rfl⟩
            ·
              have i_46 : 48 ≤ (v_tp k8_fr.toNatClampNeg).toInt ∧ (v_tp k8_fr.toNatClampNeg).toInt ≤ 57 := i_46
              have hP := g5_same hP hk1
              generalize H1 = H at hP hS ⊢
              refine lv_if_eq (tgt := 113) hx hb dX12_next_106 (by decide) (fun c_48 => ?_) (fun c_48 => ?_)
              ·
                exact absurd c_48 (by decide)
              ·
                refine lv_iconst (v := 2) hx hb dX12_next_109 (by decide) ?_
                refine lv_goto (tgt := 114) hx hb dX12_next_110 (by decide) ?_
                refine va_put (D := G.1) (ci := 12) (v := .int 2) (ty := .int) (C := RX12) (T := TX12) (N := 52) hx hb hts inG_X12 tyX12 tyX12_ok nmX12 hown hK hP hD hS 0 rfl rfl 11 (by decide) (hts _ fl_X12_224) (fun _ h9 => h9) rfl (by decide +kernel) rfl rfl (Nat.le_of_ble_eq_true rfl) dX12_next_114 (fun H locs hP hD hS => ?_)
                refine g5_rs [(b_o, (oc12 u_th u_sa b_rf b_ro b_im b_ke u_fd b_tp u_td k8_fr k8_fr 2 0 u_fa u_bd u_nc b_nl u_co b_op b_ar u_le b_pi b_pa u_pd u_od b_ws b_hw u_la b_se b_re u_bk u_va u_su u_ce u_ho u_wy u_bt u_ps b_pt u_tg u_sn b_ip u_ic b_ah b_be b_me u_wd b_tr b_ld u_st b_wn u_id)), (b_tp, (arI G 400 v_tp))] hP hD (fun hP hD => ?_)
                refine lv_aload_n hx hb dX12_next_117 rfl (lv_at hl 0 rfl) ?_
                refine va_get (D := G.1) (ci := 12) (v := .int 2) (C := RX12) (T := TX12) (N := 52) hx hb hts inG_X12 hown hK hP 0 rfl rfl 11 (by decide) (hts _ fl_X12_224) (fun _ h9 => h9) rfl dX12_next_118 ?_
                refine lv_iconst (v := 3) hx hb dX12_next_121 (by decide) ?_
                refine lv_icmp_ne (tgt := 149) hx hb dX12_next_122 (by decide) (fun c_49 => ?_) (fun c_49 => ?_)
                ·
                  refine g5_loop (α := (Int32) × (Int64)) (fun (q : (Int32) × (Int64)) (ls : Array Slot) (H : Heap) (locs : List Loc) => match q with | (k149_to, k149_wo) => lv_has ls 1 [(0, .ref b_o)] ∧ va_P G.1 vwCl [(b_o, (oc12 u_th u_sa b_rf b_ro b_im b_ke u_fd b_tp u_td k8_fr k149_to 2 k149_wo u_fa u_bd u_nc b_nl u_co b_op b_ar u_le b_pi b_pa u_pd u_od b_ws b_hw u_la b_se b_re u_bk u_va u_su u_ce u_ho u_wy u_bt u_ps b_pt u_tg u_sn b_ip u_ic b_ah b_be b_me u_wd b_tr b_ld u_st b_wn u_id)), (b_tp, (arI G 400 v_tp))] H ∧ va_D A [(b_o, (oc12 u_th u_sa b_rf b_ro b_im b_ke u_fd b_tp u_td k8_fr k149_to 2 k149_wo u_fa u_bd u_nc b_nl u_co b_op b_ar u_le b_pi b_pa u_pd u_od b_ws b_hw u_la b_se b_re u_bk u_va u_su u_ce u_ho u_wy u_bt u_ps b_pt u_tg u_sn b_ip u_ic b_ah b_be b_me u_wd b_tr b_ld u_st b_wn u_id)), (b_tp, (arI G 400 v_tp))] ∧ va_S A s.heap H locs ∧ (0 ≤ k149_to.toInt ∧ k149_to.toInt ≤ 400) ∧ (k8_fr.toInt ≤ k149_to.toInt ∧ k149_to.toInt ≤ u_td.toInt) ∧ (k149_to.toInt = k8_fr.toInt)) (fun (q : (Int32) × (Int64)) => match q with | (k149_to, k149_wo) => Int.toNat (400 - k149_to.toInt)) (k8_fr, 0) ⟨lv_sub hl [0] rfl, hP, hD, hS, i_1, by omega, by omega⟩ ?_
                  rintro ⟨k149_to, k149_wo⟩ ls H locs ⟨hl, hP, hD, hS, i_50, i_51, i_52⟩ ih_149_53
                  have hl : lv_has ls 1 [(0, .ref b_o)] := hl
                  have i_50 : 0 ≤ k149_to.toInt ∧ k149_to.toInt ≤ 400 := i_50
                  have i_51 : k8_fr.toInt ≤ k149_to.toInt ∧ k149_to.toInt ≤ u_td.toInt := i_51
                  have i_52 : k149_to.toInt = k8_fr.toInt := i_52
                  refine g5_rs [(b_o, (oc12 u_th u_sa b_rf b_ro b_im b_ke u_fd b_tp u_td k8_fr k149_to 2 k149_wo u_fa u_bd u_nc b_nl u_co b_op b_ar u_le b_pi b_pa u_pd u_od b_ws b_hw u_la b_se b_re u_bk u_va u_su u_ce u_ho u_wy u_bt u_ps b_pt u_tg u_sn b_ip u_ic b_ah b_be b_me u_wd b_tr b_ld u_st b_wn u_id)), (b_tp, (arI G 400 v_tp))] hP hD (fun hP hD => ?_)
                  refine lv_aload_n hx hb dX12_next_149 rfl (lv_at hl 0 rfl) ?_
                  refine va_get (D := G.1) (ci := 12) (v := .int 2) (C := RX12) (T := TX12) (N := 52) hx hb hts inG_X12 hown hK hP 0 rfl rfl 11 (by decide) (hts _ fl_X12_224) (fun _ h9 => h9) rfl dX12_next_150 ?_
                  refine lv_iconst (v := 1) hx hb dX12_next_153 (by decide) ?_
                  refine lv_icmp_ne (tgt := 243) hx hb dX12_next_154 (by decide) (fun c_54 => ?_) (fun c_54 => ?_)
                  ·
                    refine g5_loop (α := (Int32) × (Int64)) (fun (q : (Int32) × (Int64)) (ls : Array Slot) (H : Heap) (locs : List Loc) => match q with | (k243_to, k243_wo) => lv_has ls 1 [(0, .ref b_o)] ∧ va_P G.1 vwCl [(b_o, (oc12 u_th u_sa b_rf b_ro b_im b_ke u_fd b_tp u_td k8_fr k243_to 2 k243_wo u_fa u_bd u_nc b_nl u_co b_op b_ar u_le b_pi b_pa u_pd u_od b_ws b_hw u_la b_se b_re u_bk u_va u_su u_ce u_ho u_wy u_bt u_ps b_pt u_tg u_sn b_ip u_ic b_ah b_be b_me u_wd b_tr b_ld u_st b_wn u_id)), (b_tp, (arI G 400 v_tp))] H ∧ va_D A [(b_o, (oc12 u_th u_sa b_rf b_ro b_im b_ke u_fd b_tp u_td k8_fr k243_to 2 k243_wo u_fa u_bd u_nc b_nl u_co b_op b_ar u_le b_pi b_pa u_pd u_od b_ws b_hw u_la b_se b_re u_bk u_va u_su u_ce u_ho u_wy u_bt u_ps b_pt u_tg u_sn b_ip u_ic b_ah b_be b_me u_wd b_tr b_ld u_st b_wn u_id)), (b_tp, (arI G 400 v_tp))] ∧ va_S A s.heap H locs ∧ (0 ≤ k243_to.toInt ∧ k243_to.toInt ≤ 400) ∧ (k8_fr.toInt ≤ k243_to.toInt ∧ k243_to.toInt ≤ u_td.toInt) ∧ (k8_fr.toInt < k243_to.toInt ∨ (48 ≤ (v_tp k8_fr.toNatClampNeg).toInt ∧ (v_tp k8_fr.toNatClampNeg).toInt ≤ 57 ∧ k243_to.toInt = k8_fr.toInt))) (fun (q : (Int32) × (Int64)) => match q with | (k243_to, k243_wo) => Int.toNat (400 - k243_to.toInt)) (k149_to, k149_wo) ⟨lv_sub hl [0] rfl, hP, hD, hS, i_50, by omega, Or.inr ⟨by omega, by omega, by omega⟩⟩ ?_
                    rintro ⟨k243_to, k243_wo⟩ ls H locs ⟨hl, hP, hD, hS, i_55, i_56, i_57⟩ ih_243_58
                    have hl : lv_has ls 1 [(0, .ref b_o)] := hl
                    have i_55 : 0 ≤ k243_to.toInt ∧ k243_to.toInt ≤ 400 := i_55
                    have i_56 : k8_fr.toInt ≤ k243_to.toInt ∧ k243_to.toInt ≤ u_td.toInt := i_56
                    have i_57 : k8_fr.toInt < k243_to.toInt ∨ (48 ≤ (v_tp k8_fr.toNatClampNeg).toInt ∧ (v_tp k8_fr.toNatClampNeg).toInt ≤ 57 ∧ k243_to.toInt = k8_fr.toInt) := i_57
                    refine g5_rs [(b_o, (oc12 u_th u_sa b_rf b_ro b_im b_ke u_fd b_tp u_td k8_fr k243_to 2 k243_wo u_fa u_bd u_nc b_nl u_co b_op b_ar u_le b_pi b_pa u_pd u_od b_ws b_hw u_la b_se b_re u_bk u_va u_su u_ce u_ho u_wy u_bt u_ps b_pt u_tg u_sn b_ip u_ic b_ah b_be b_me u_wd b_tr b_ld u_st b_wn u_id)), (b_tp, (arI G 400 v_tp))] hP hD (fun hP hD => ?_)
                    refine lv_aload_n hx hb dX12_next_243 rfl (lv_at hl 0 rfl) ?_
                    refine va_get (D := G.1) (ci := 12) (v := .int 2) (C := RX12) (T := TX12) (N := 52) hx hb hts inG_X12 hown hK hP 0 rfl rfl 11 (by decide) (hts _ fl_X12_224) (fun _ h9 => h9) rfl dX12_next_244 ?_
                    refine lv_iconst (v := 2) hx hb dX12_next_247 (by decide) ?_
                    refine lv_icmp_ne (tgt := 335) hx hb dX12_next_248 (by decide) (fun c_59 => ?_) (fun c_59 => ?_)
                    ·
                      exact absurd c_59 (by decide)
                    ·
                      refine lv_aload_n hx hb dX12_next_251 rfl (lv_at hl 0 rfl) ?_
                      refine va_get (D := G.1) (ci := 12) (v := .int k243_to) (C := RX12) (T := TX12) (N := 52) hx hb hts inG_X12 hown hK hP 0 rfl rfl 10 (by decide) (hts _ fl_X12_202) (fun _ h9 => h9) rfl dX12_next_252 ?_
                      refine lv_aload_n hx hb dX12_next_255 rfl (lv_at hl 0 rfl) ?_
                      refine va_get (D := G.1) (ci := 12) (v := .int u_td) (C := RX12) (T := TX12) (N := 52) hx hb hts inG_X12 hown hK hP 0 rfl rfl 8 (by decide) (hts _ fl_X12_192) (fun _ h9 => h9) rfl dX12_next_256 ?_
                      refine lv_icmp_ge (tgt := 335) hx hb dX12_next_259 (by decide) (fun c_60 => ?_) (fun c_60 => ?_)
                      ·
                        have i_60 : k243_to.toInt ≥ u_td.toInt := by have z := g5_ge (a := k243_to.toInt) (b := u_td.toInt) (by rfl) (by rfl) c_60; omega
                        exact W.vret hx hb hr (fun t ht hW => ⟨⟨[(b_o, (oc12 u_th u_sa b_rf b_ro b_im b_ke u_fd b_tp u_td k8_fr k243_to 2 k243_wo u_fa u_bd u_nc b_nl u_co b_op b_ar u_le b_pi b_pa u_pd u_od b_ws b_hw u_la b_se b_re u_bk u_va u_su u_ce u_ho u_wy u_bt u_ps b_pt u_tg u_sn b_ip u_ic b_ah b_be b_me u_wd b_tr b_ld u_st b_wn u_id)), (b_tp, (arI G 400 v_tp))], rfl, ⟨k8_fr, k243_to, 2, k243_wo, i_1, i_55, by omega, Or.inr (by omega), rfl⟩, by rw [ht]; exact hP.sub [0, 1] rfl, hD.sub [0, 1] (by decide) rfl⟩, hS.F ht⟩) hS.2.2 dX12_next_335
                      ·
                        have i_60 : k243_to.toInt < u_td.toInt := by have z := g5_geN (a := k243_to.toInt) (b := u_td.toInt) (by rfl) (by rfl) c_60; omega
                        refine lv_aload_n hx hb dX12_next_262 rfl (lv_at hl 0 rfl) ?_
                        refine va_get (D := G.1) (ci := 12) (v := .ref b_tp) (C := RX12) (T := TX12) (N := 52) hx hb hts inG_X12 hown hK hP 0 rfl rfl 7 (by decide) (hts _ fl_X12_23) (fun _ h9 => h9) rfl dX12_next_263 ?_
                        refine lv_aload_n hx hb dX12_next_266 rfl (lv_at hl 0 rfl) ?_
                        refine va_get (D := G.1) (ci := 12) (v := .int k243_to) (C := RX12) (T := TX12) (N := 52) hx hb hts inG_X12 hown hK hP 0 rfl rfl 10 (by decide) (hts _ fl_X12_202) (fun _ h9 => h9) rfl dX12_next_267 ?_
                        refine va_iald hx hb hK hP 1 0 rfl rfl (i := k243_to) (vp_in_iff.mpr ⟨by omega, by omega⟩) dX12_next_270 ?_
                        obtain ⟨hPc, hDc, hFc⟩ := g5_sub3 (wc := []) hP hD hS hA [] (by decide) rfl
                        refine va_calli (va_runS (As := [.int (v_tp k243_to.toNatClampNeg)]) (rest := []) ⟨hx, hb, hml, hown, hts⟩ (n_isDigitX l G H.size (v_tp k243_to.toNatClampNeg)) (va_cwS 1 hts gS_X12_221 rfl rfl rfl hs_X12_isDigit ⟨Nat.le_of_ble_eq_true rfl, Nat.le_of_ble_eq_true rfl⟩) (g5_preS hPc hK hDc hN hT hS hFc) rfl rfl hl.1 rfl (lv_room (Nat.le_of_ble_eq_true rfl)) dX12_next_271 ⟨Nat.le_of_ble_eq_true rfl, Nat.le_of_ble_eq_true rfl⟩) hS (fun q _ h => hFc q h) hFc (fun r u t H1 locs ht hvm hw hB hz1 hk1 hS => ?_)
                        obtain ⟨hP1, hD1⟩ := hB
                        rw [ht] at hP1
                        rcases hw with ⟨i_61, rfl, rfl⟩ | ⟨i_62, rfl, rfl⟩
                        ·
                          have i_61 : 48 ≤ (v_tp k243_to.toNatClampNeg).toInt ∧ (v_tp k243_to.toNatClampNeg).toInt ≤ 57 := i_61
                          have hP := g5_same hP hk1
                          generalize H1 = H at hP hS ⊢
                          refine lv_if_eq (tgt := 335) hx hb dX12_next_274 (by decide) (fun c_63 => ?_) (fun c_63 => ?_)
                          ·
                            exact absurd c_63 (by decide)
                          ·
                            refine lv_aload_n hx hb dX12_next_277 rfl (lv_at hl 0 rfl) ?_
                            refine lv_aload_n hx hb dX12_next_278 rfl (lv_at hl 0 rfl) ?_
                            refine va_get (D := G.1) (ci := 12) (v := .long k243_wo) (C := RX12) (T := TX12) (N := 52) hx hb hts inG_X12 hown hK hP 0 rfl rfl 12 (by decide) (hts _ fl_X12_214) (fun _ h9 => h9) rfl dX12_next_279 ?_
                            refine lv_ldc2 (v := 1000000) hx hb hown (hts _ kl_X12_190) dX12_next_282 ?_
                            refine W.lcmp hx hb dX12_next_285 ?_
                            refine lv_if_le (tgt := 296) hx hb dX12_next_286 (by decide) (fun c_64 => ?_) (fun c_64 => ?_)
                            ·
                              have i_64 : (lg_cmp k243_wo 1000000).toInt ≤ 0 := by have z := g5_le (a := (lg_cmp k243_wo 1000000).toInt) (b := 0) (by rfl) (by decide) c_64; omega
                              refine lv_aload_n hx hb dX12_next_296 rfl (lv_at hl 0 rfl) ?_
                              refine va_get (D := G.1) (ci := 12) (v := .long k243_wo) (C := RX12) (T := TX12) (N := 52) hx hb hts inG_X12 hown hK hP 0 rfl rfl 12 (by decide) (hts _ fl_X12_214) (fun _ h9 => h9) rfl dX12_next_297 ?_
                              refine lv_ldc2 (v := 10) hx hb hown (hts _ kl_X12_156) dX12_next_300 ?_
                              refine lv_lmul hx hb dX12_next_303 ?_
                              refine lv_aload_n hx hb dX12_next_304 rfl (lv_at hl 0 rfl) ?_
                              refine va_get (D := G.1) (ci := 12) (v := .ref b_tp) (C := RX12) (T := TX12) (N := 52) hx hb hts inG_X12 hown hK hP 0 rfl rfl 7 (by decide) (hts _ fl_X12_23) (fun _ h9 => h9) rfl dX12_next_305 ?_
                              refine lv_aload_n hx hb dX12_next_308 rfl (lv_at hl 0 rfl) ?_
                              refine va_get (D := G.1) (ci := 12) (v := .int k243_to) (C := RX12) (T := TX12) (N := 52) hx hb hts inG_X12 hown hK hP 0 rfl rfl 10 (by decide) (hts _ fl_X12_202) (fun _ h9 => h9) rfl dX12_next_309 ?_
                              refine va_iald hx hb hK hP 1 0 rfl rfl (i := k243_to) (vp_in_iff.mpr ⟨by omega, by omega⟩) dX12_next_312 ?_
                              refine lv_i2l (v := (v_tp k243_to.toNatClampNeg).toInt64) hx hb dX12_next_313 rfl ?_
                              refine lv_ladd hx hb dX12_next_314 ?_
                              refine lv_ldc2 (v := 48) hx hb hown (hts _ kl_X12_231) dX12_next_315 ?_
                              refine lv_lsub hx hb dX12_next_318 ?_
                              refine va_put (D := G.1) (ci := 12) (v := .long (((k243_wo * 10) + ((v_tp k243_to.toNatClampNeg).toInt64)) - 48)) (ty := .long) (C := RX12) (T := TX12) (N := 52) hx hb hts inG_X12 tyX12 tyX12_ok nmX12 hown hK hP hD hS 0 rfl rfl 12 (by decide) (hts _ fl_X12_214) (fun _ h9 => h9) rfl (by decide +kernel) rfl rfl (Nat.le_of_ble_eq_true rfl) dX12_next_319 (fun H locs hP hD hS => ?_)
                              refine g5_rs [(b_o, (oc12 u_th u_sa b_rf b_ro b_im b_ke u_fd b_tp u_td k8_fr k243_to 2 (((k243_wo * 10) + ((v_tp k243_to.toNatClampNeg).toInt64)) - 48) u_fa u_bd u_nc b_nl u_co b_op b_ar u_le b_pi b_pa u_pd u_od b_ws b_hw u_la b_se b_re u_bk u_va u_su u_ce u_ho u_wy u_bt u_ps b_pt u_tg u_sn b_ip u_ic b_ah b_be b_me u_wd b_tr b_ld u_st b_wn u_id)), (b_tp, (arI G 400 v_tp))] hP hD (fun hP hD => ?_)
                              refine lv_aload_n hx hb dX12_next_322 rfl (lv_at hl 0 rfl) ?_
                              refine lv_dup hx hb dX12_next_323 rfl ?_
                              refine va_get (D := G.1) (ci := 12) (v := .int k243_to) (C := RX12) (T := TX12) (N := 52) hx hb hts inG_X12 hown hK hP 0 rfl rfl 10 (by decide) (hts _ fl_X12_202) (fun _ h9 => h9) rfl dX12_next_324 ?_
                              refine lv_iconst (v := 1) hx hb dX12_next_327 (by decide) ?_
                              refine lv_iadd hx hb dX12_next_328 ?_
                              have t_65 : (k243_to + 1).toInt = k243_to.toInt + 1 := g5_iadd (a := k243_to.toInt) (b := 1) (by rfl) (by decide) (by omega) (by omega)
                              refine va_put (D := G.1) (ci := 12) (v := .int (k243_to + 1)) (ty := .int) (C := RX12) (T := TX12) (N := 52) hx hb hts inG_X12 tyX12 tyX12_ok nmX12 hown hK hP hD hS 0 rfl rfl 10 (by decide) (hts _ fl_X12_202) (fun _ h9 => h9) rfl (by decide +kernel) rfl rfl (Nat.le_of_ble_eq_true rfl) dX12_next_329 (fun H locs hP hD hS => ?_)
                              refine g5_rs [(b_o, (oc12 u_th u_sa b_rf b_ro b_im b_ke u_fd b_tp u_td k8_fr (k243_to + 1) 2 (((k243_wo * 10) + ((v_tp k243_to.toNatClampNeg).toInt64)) - 48) u_fa u_bd u_nc b_nl u_co b_op b_ar u_le b_pi b_pa u_pd u_od b_ws b_hw u_la b_se b_re u_bk u_va u_su u_ce u_ho u_wy u_bt u_ps b_pt u_tg u_sn b_ip u_ic b_ah b_be b_me u_wd b_tr b_ld u_st b_wn u_id)), (b_tp, (arI G 400 v_tp))] hP hD (fun hP hD => ?_)
                              refine lv_goto (tgt := 243) hx hb dX12_next_332 (by decide) ?_
                              exact ih_243_58 ((k243_to + 1), (((k243_wo * 10) + ((v_tp k243_to.toNatClampNeg).toInt64)) - 48)) ls H locs (show Int.toNat (400 - (k243_to + 1).toInt) < Int.toNat (400 - k243_to.toInt) from g_up (show k243_to.toInt < (k243_to + 1).toInt by omega) (show k243_to.toInt < 400 by omega)) ⟨lv_sub hl [0] rfl, hP, hD, hS, ⟨by omega, by omega⟩, by omega, Or.inl (by omega)⟩
                            ·
                              have i_64 : (lg_cmp k243_wo 1000000).toInt > 0 := by have z := g5_leN (a := (lg_cmp k243_wo 1000000).toInt) (b := 0) (by rfl) (by decide) c_64; omega
                              refine lv_aload_n hx hb dX12_next_289 rfl (lv_at hl 0 rfl) ?_
                              refine va_get (D := G.1) (ci := 12) (v := .long k243_wo) (C := RX12) (T := TX12) (N := 52) hx hb hts inG_X12 hown hK hP 0 rfl rfl 12 (by decide) (hts _ fl_X12_214) (fun _ h9 => h9) rfl dX12_next_290 ?_
                              refine lv_goto (tgt := 319) hx hb dX12_next_293 (by decide) ?_
                              refine va_put (D := G.1) (ci := 12) (v := .long k243_wo) (ty := .long) (C := RX12) (T := TX12) (N := 52) hx hb hts inG_X12 tyX12 tyX12_ok nmX12 hown hK hP hD hS 0 rfl rfl 12 (by decide) (hts _ fl_X12_214) (fun _ h9 => h9) rfl (by decide +kernel) rfl rfl (Nat.le_of_ble_eq_true rfl) dX12_next_319 (fun H locs hP hD hS => ?_)
                              refine g5_rs [(b_o, (oc12 u_th u_sa b_rf b_ro b_im b_ke u_fd b_tp u_td k8_fr k243_to 2 k243_wo u_fa u_bd u_nc b_nl u_co b_op b_ar u_le b_pi b_pa u_pd u_od b_ws b_hw u_la b_se b_re u_bk u_va u_su u_ce u_ho u_wy u_bt u_ps b_pt u_tg u_sn b_ip u_ic b_ah b_be b_me u_wd b_tr b_ld u_st b_wn u_id)), (b_tp, (arI G 400 v_tp))] hP hD (fun hP hD => ?_)
                              refine lv_aload_n hx hb dX12_next_322 rfl (lv_at hl 0 rfl) ?_
                              refine lv_dup hx hb dX12_next_323 rfl ?_
                              refine va_get (D := G.1) (ci := 12) (v := .int k243_to) (C := RX12) (T := TX12) (N := 52) hx hb hts inG_X12 hown hK hP 0 rfl rfl 10 (by decide) (hts _ fl_X12_202) (fun _ h9 => h9) rfl dX12_next_324 ?_
                              refine lv_iconst (v := 1) hx hb dX12_next_327 (by decide) ?_
                              refine lv_iadd hx hb dX12_next_328 ?_
                              have t_66 : (k243_to + 1).toInt = k243_to.toInt + 1 := g5_iadd (a := k243_to.toInt) (b := 1) (by rfl) (by decide) (by omega) (by omega)
                              refine va_put (D := G.1) (ci := 12) (v := .int (k243_to + 1)) (ty := .int) (C := RX12) (T := TX12) (N := 52) hx hb hts inG_X12 tyX12 tyX12_ok nmX12 hown hK hP hD hS 0 rfl rfl 10 (by decide) (hts _ fl_X12_202) (fun _ h9 => h9) rfl (by decide +kernel) rfl rfl (Nat.le_of_ble_eq_true rfl) dX12_next_329 (fun H locs hP hD hS => ?_)
                              refine g5_rs [(b_o, (oc12 u_th u_sa b_rf b_ro b_im b_ke u_fd b_tp u_td k8_fr (k243_to + 1) 2 k243_wo u_fa u_bd u_nc b_nl u_co b_op b_ar u_le b_pi b_pa u_pd u_od b_ws b_hw u_la b_se b_re u_bk u_va u_su u_ce u_ho u_wy u_bt u_ps b_pt u_tg u_sn b_ip u_ic b_ah b_be b_me u_wd b_tr b_ld u_st b_wn u_id)), (b_tp, (arI G 400 v_tp))] hP hD (fun hP hD => ?_)
                              refine lv_goto (tgt := 243) hx hb dX12_next_332 (by decide) ?_
                              exact ih_243_58 ((k243_to + 1), k243_wo) ls H locs (show Int.toNat (400 - (k243_to + 1).toInt) < Int.toNat (400 - k243_to.toInt) from g_up (show k243_to.toInt < (k243_to + 1).toInt by omega) (show k243_to.toInt < 400 by omega)) ⟨lv_sub hl [0] rfl, hP, hD, hS, ⟨by omega, by omega⟩, by omega, Or.inl (by omega)⟩
                        ·
                          have i_62 : (v_tp k243_to.toNatClampNeg).toInt < 48 ∨ 57 < (v_tp k243_to.toNatClampNeg).toInt := i_62
                          have hP := g5_same hP hk1
                          generalize H1 = H at hP hS ⊢
                          refine lv_if_eq (tgt := 335) hx hb dX12_next_274 (by decide) (fun c_67 => ?_) (fun c_67 => ?_)
                          ·
                            exact W.vret hx hb hr (fun t ht hW => ⟨⟨[(b_o, (oc12 u_th u_sa b_rf b_ro b_im b_ke u_fd b_tp u_td k8_fr k243_to 2 k243_wo u_fa u_bd u_nc b_nl u_co b_op b_ar u_le b_pi b_pa u_pd u_od b_ws b_hw u_la b_se b_re u_bk u_va u_su u_ce u_ho u_wy u_bt u_ps b_pt u_tg u_sn b_ip u_ic b_ah b_be b_me u_wd b_tr b_ld u_st b_wn u_id)), (b_tp, (arI G 400 v_tp))], rfl, ⟨k8_fr, k243_to, 2, k243_wo, i_1, i_55, by omega, Or.inr (tk_exit i_57 i_62), rfl⟩, by rw [ht]; exact hP.sub [0, 1] rfl, hD.sub [0, 1] (by decide) rfl⟩, hS.F ht⟩) hS.2.2 dX12_next_335
                          ·
                            exact absurd c_67 (by decide)
                  ·
                    exact absurd c_54 (by decide)
                ·
                  exact absurd c_49 (by decide)
            ·
              have i_47 : (v_tp k8_fr.toNatClampNeg).toInt < 48 ∨ 57 < (v_tp k8_fr.toNatClampNeg).toInt := i_47
              have hP := g5_same hP hk1
              generalize H1 = H at hP hS ⊢
              refine lv_if_eq (tgt := 113) hx hb dX12_next_106 (by decide) (fun c_68 => ?_) (fun c_68 => ?_)
              ·
                refine lv_iconst (v := 3) hx hb dX12_next_113 (by decide) ?_
                refine va_put (D := G.1) (ci := 12) (v := .int 3) (ty := .int) (C := RX12) (T := TX12) (N := 52) hx hb hts inG_X12 tyX12 tyX12_ok nmX12 hown hK hP hD hS 0 rfl rfl 11 (by decide) (hts _ fl_X12_224) (fun _ h9 => h9) rfl (by decide +kernel) rfl rfl (Nat.le_of_ble_eq_true rfl) dX12_next_114 (fun H locs hP hD hS => ?_)
                refine g5_rs [(b_o, (oc12 u_th u_sa b_rf b_ro b_im b_ke u_fd b_tp u_td k8_fr k8_fr 3 0 u_fa u_bd u_nc b_nl u_co b_op b_ar u_le b_pi b_pa u_pd u_od b_ws b_hw u_la b_se b_re u_bk u_va u_su u_ce u_ho u_wy u_bt u_ps b_pt u_tg u_sn b_ip u_ic b_ah b_be b_me u_wd b_tr b_ld u_st b_wn u_id)), (b_tp, (arI G 400 v_tp))] hP hD (fun hP hD => ?_)
                refine lv_aload_n hx hb dX12_next_117 rfl (lv_at hl 0 rfl) ?_
                refine va_get (D := G.1) (ci := 12) (v := .int 3) (C := RX12) (T := TX12) (N := 52) hx hb hts inG_X12 hown hK hP 0 rfl rfl 11 (by decide) (hts _ fl_X12_224) (fun _ h9 => h9) rfl dX12_next_118 ?_
                refine lv_iconst (v := 3) hx hb dX12_next_121 (by decide) ?_
                refine lv_icmp_ne (tgt := 149) hx hb dX12_next_122 (by decide) (fun c_69 => ?_) (fun c_69 => ?_)
                ·
                  exact absurd c_69 (by decide)
                ·
                  refine lv_aload_n hx hb dX12_next_125 rfl (lv_at hl 0 rfl) ?_
                  refine lv_aload_n hx hb dX12_next_126 rfl (lv_at hl 0 rfl) ?_
                  refine va_get (D := G.1) (ci := 12) (v := .ref b_tp) (C := RX12) (T := TX12) (N := 52) hx hb hts inG_X12 hown hK hP 0 rfl rfl 7 (by decide) (hts _ fl_X12_23) (fun _ h9 => h9) rfl dX12_next_127 ?_
                  refine lv_aload_n hx hb dX12_next_130 rfl (lv_at hl 0 rfl) ?_
                  refine va_get (D := G.1) (ci := 12) (v := .int k8_fr) (C := RX12) (T := TX12) (N := 52) hx hb hts inG_X12 hown hK hP 0 rfl rfl 9 (by decide) (hts _ fl_X12_211) (fun _ h9 => h9) rfl dX12_next_131 ?_
                  refine va_iald hx hb hK hP 1 0 rfl rfl (i := k8_fr) (vp_in_iff.mpr ⟨by omega, by omega⟩) dX12_next_134 ?_
                  refine lv_i2l (v := (v_tp k8_fr.toNatClampNeg).toInt64) hx hb dX12_next_135 rfl ?_
                  refine va_put (D := G.1) (ci := 12) (v := .long (v_tp k8_fr.toNatClampNeg).toInt64) (ty := .long) (C := RX12) (T := TX12) (N := 52) hx hb hts inG_X12 tyX12 tyX12_ok nmX12 hown hK hP hD hS 0 rfl rfl 12 (by decide) (hts _ fl_X12_214) (fun _ h9 => h9) rfl (by decide +kernel) rfl rfl (Nat.le_of_ble_eq_true rfl) dX12_next_136 (fun H locs hP hD hS => ?_)
                  refine g5_rs [(b_o, (oc12 u_th u_sa b_rf b_ro b_im b_ke u_fd b_tp u_td k8_fr k8_fr 3 ((v_tp k8_fr.toNatClampNeg).toInt64) u_fa u_bd u_nc b_nl u_co b_op b_ar u_le b_pi b_pa u_pd u_od b_ws b_hw u_la b_se b_re u_bk u_va u_su u_ce u_ho u_wy u_bt u_ps b_pt u_tg u_sn b_ip u_ic b_ah b_be b_me u_wd b_tr b_ld u_st b_wn u_id)), (b_tp, (arI G 400 v_tp))] hP hD (fun hP hD => ?_)
                  refine lv_aload_n hx hb dX12_next_139 rfl (lv_at hl 0 rfl) ?_
                  refine lv_dup hx hb dX12_next_140 rfl ?_
                  refine va_get (D := G.1) (ci := 12) (v := .int k8_fr) (C := RX12) (T := TX12) (N := 52) hx hb hts inG_X12 hown hK hP 0 rfl rfl 10 (by decide) (hts _ fl_X12_202) (fun _ h9 => h9) rfl dX12_next_141 ?_
                  refine lv_iconst (v := 1) hx hb dX12_next_144 (by decide) ?_
                  refine lv_iadd hx hb dX12_next_145 ?_
                  have t_70 : (k8_fr + 1).toInt = k8_fr.toInt + 1 := g5_iadd (a := k8_fr.toInt) (b := 1) (by rfl) (by decide) (by omega) (by omega)
                  refine va_put (D := G.1) (ci := 12) (v := .int (k8_fr + 1)) (ty := .int) (C := RX12) (T := TX12) (N := 52) hx hb hts inG_X12 tyX12 tyX12_ok nmX12 hown hK hP hD hS 0 rfl rfl 10 (by decide) (hts _ fl_X12_202) (fun _ h9 => h9) rfl (by decide +kernel) rfl rfl (Nat.le_of_ble_eq_true rfl) dX12_next_146 (fun H locs hP hD hS => ?_)
                  refine g5_rs [(b_o, (oc12 u_th u_sa b_rf b_ro b_im b_ke u_fd b_tp u_td k8_fr (k8_fr + 1) 3 ((v_tp k8_fr.toNatClampNeg).toInt64) u_fa u_bd u_nc b_nl u_co b_op b_ar u_le b_pi b_pa u_pd u_od b_ws b_hw u_la b_se b_re u_bk u_va u_su u_ce u_ho u_wy u_bt u_ps b_pt u_tg u_sn b_ip u_ic b_ah b_be b_me u_wd b_tr b_ld u_st b_wn u_id)), (b_tp, (arI G 400 v_tp))] hP hD (fun hP hD => ?_)
                  refine g5_loop (α := (Int32) × (Int64)) (fun (q : (Int32) × (Int64)) (ls : Array Slot) (H : Heap) (locs : List Loc) => match q with | (k149_to, k149_wo) => lv_has ls 1 [(0, .ref b_o)] ∧ va_P G.1 vwCl [(b_o, (oc12 u_th u_sa b_rf b_ro b_im b_ke u_fd b_tp u_td k8_fr k149_to 3 k149_wo u_fa u_bd u_nc b_nl u_co b_op b_ar u_le b_pi b_pa u_pd u_od b_ws b_hw u_la b_se b_re u_bk u_va u_su u_ce u_ho u_wy u_bt u_ps b_pt u_tg u_sn b_ip u_ic b_ah b_be b_me u_wd b_tr b_ld u_st b_wn u_id)), (b_tp, (arI G 400 v_tp))] H ∧ va_D A [(b_o, (oc12 u_th u_sa b_rf b_ro b_im b_ke u_fd b_tp u_td k8_fr k149_to 3 k149_wo u_fa u_bd u_nc b_nl u_co b_op b_ar u_le b_pi b_pa u_pd u_od b_ws b_hw u_la b_se b_re u_bk u_va u_su u_ce u_ho u_wy u_bt u_ps b_pt u_tg u_sn b_ip u_ic b_ah b_be b_me u_wd b_tr b_ld u_st b_wn u_id)), (b_tp, (arI G 400 v_tp))] ∧ va_S A s.heap H locs ∧ (0 ≤ k149_to.toInt ∧ k149_to.toInt ≤ 400) ∧ (k8_fr.toInt ≤ k149_to.toInt ∧ k149_to.toInt ≤ u_td.toInt) ∧ (k8_fr.toInt < k149_to.toInt)) (fun (q : (Int32) × (Int64)) => match q with | (k149_to, k149_wo) => Int.toNat (400 - k149_to.toInt)) ((k8_fr + 1), (v_tp k8_fr.toNatClampNeg).toInt64) ⟨lv_sub hl [0] rfl, hP, hD, hS, ⟨by omega, by omega⟩, by omega, by omega⟩ ?_
                  rintro ⟨k149_to, k149_wo⟩ ls H locs ⟨hl, hP, hD, hS, i_71, i_72, i_73⟩ ih_149_74
                  have hl : lv_has ls 1 [(0, .ref b_o)] := hl
                  have i_71 : 0 ≤ k149_to.toInt ∧ k149_to.toInt ≤ 400 := i_71
                  have i_72 : k8_fr.toInt ≤ k149_to.toInt ∧ k149_to.toInt ≤ u_td.toInt := i_72
                  have i_73 : k8_fr.toInt < k149_to.toInt := i_73
                  refine g5_rs [(b_o, (oc12 u_th u_sa b_rf b_ro b_im b_ke u_fd b_tp u_td k8_fr k149_to 3 k149_wo u_fa u_bd u_nc b_nl u_co b_op b_ar u_le b_pi b_pa u_pd u_od b_ws b_hw u_la b_se b_re u_bk u_va u_su u_ce u_ho u_wy u_bt u_ps b_pt u_tg u_sn b_ip u_ic b_ah b_be b_me u_wd b_tr b_ld u_st b_wn u_id)), (b_tp, (arI G 400 v_tp))] hP hD (fun hP hD => ?_)
                  refine lv_aload_n hx hb dX12_next_149 rfl (lv_at hl 0 rfl) ?_
                  refine va_get (D := G.1) (ci := 12) (v := .int 3) (C := RX12) (T := TX12) (N := 52) hx hb hts inG_X12 hown hK hP 0 rfl rfl 11 (by decide) (hts _ fl_X12_224) (fun _ h9 => h9) rfl dX12_next_150 ?_
                  refine lv_iconst (v := 1) hx hb dX12_next_153 (by decide) ?_
                  refine lv_icmp_ne (tgt := 243) hx hb dX12_next_154 (by decide) (fun c_75 => ?_) (fun c_75 => ?_)
                  ·
                    refine g5_loop (α := (Int32) × (Int64)) (fun (q : (Int32) × (Int64)) (ls : Array Slot) (H : Heap) (locs : List Loc) => match q with | (k243_to, k243_wo) => lv_has ls 1 [(0, .ref b_o)] ∧ va_P G.1 vwCl [(b_o, (oc12 u_th u_sa b_rf b_ro b_im b_ke u_fd b_tp u_td k8_fr k243_to 3 k243_wo u_fa u_bd u_nc b_nl u_co b_op b_ar u_le b_pi b_pa u_pd u_od b_ws b_hw u_la b_se b_re u_bk u_va u_su u_ce u_ho u_wy u_bt u_ps b_pt u_tg u_sn b_ip u_ic b_ah b_be b_me u_wd b_tr b_ld u_st b_wn u_id)), (b_tp, (arI G 400 v_tp))] H ∧ va_D A [(b_o, (oc12 u_th u_sa b_rf b_ro b_im b_ke u_fd b_tp u_td k8_fr k243_to 3 k243_wo u_fa u_bd u_nc b_nl u_co b_op b_ar u_le b_pi b_pa u_pd u_od b_ws b_hw u_la b_se b_re u_bk u_va u_su u_ce u_ho u_wy u_bt u_ps b_pt u_tg u_sn b_ip u_ic b_ah b_be b_me u_wd b_tr b_ld u_st b_wn u_id)), (b_tp, (arI G 400 v_tp))] ∧ va_S A s.heap H locs ∧ (0 ≤ k243_to.toInt ∧ k243_to.toInt ≤ 400) ∧ (k8_fr.toInt ≤ k243_to.toInt ∧ k243_to.toInt ≤ u_td.toInt) ∧ (k8_fr.toInt < k243_to.toInt)) (fun (q : (Int32) × (Int64)) => match q with | (k243_to, k243_wo) => Int.toNat (400 - k243_to.toInt)) (k149_to, k149_wo) ⟨lv_sub hl [0] rfl, hP, hD, hS, i_71, by omega, by omega⟩ ?_
                    rintro ⟨k243_to, k243_wo⟩ ls H locs ⟨hl, hP, hD, hS, i_76, i_77, i_78⟩ ih_243_79
                    have hl : lv_has ls 1 [(0, .ref b_o)] := hl
                    have i_76 : 0 ≤ k243_to.toInt ∧ k243_to.toInt ≤ 400 := i_76
                    have i_77 : k8_fr.toInt ≤ k243_to.toInt ∧ k243_to.toInt ≤ u_td.toInt := i_77
                    have i_78 : k8_fr.toInt < k243_to.toInt := i_78
                    refine g5_rs [(b_o, (oc12 u_th u_sa b_rf b_ro b_im b_ke u_fd b_tp u_td k8_fr k243_to 3 k243_wo u_fa u_bd u_nc b_nl u_co b_op b_ar u_le b_pi b_pa u_pd u_od b_ws b_hw u_la b_se b_re u_bk u_va u_su u_ce u_ho u_wy u_bt u_ps b_pt u_tg u_sn b_ip u_ic b_ah b_be b_me u_wd b_tr b_ld u_st b_wn u_id)), (b_tp, (arI G 400 v_tp))] hP hD (fun hP hD => ?_)
                    refine lv_aload_n hx hb dX12_next_243 rfl (lv_at hl 0 rfl) ?_
                    refine va_get (D := G.1) (ci := 12) (v := .int 3) (C := RX12) (T := TX12) (N := 52) hx hb hts inG_X12 hown hK hP 0 rfl rfl 11 (by decide) (hts _ fl_X12_224) (fun _ h9 => h9) rfl dX12_next_244 ?_
                    refine lv_iconst (v := 2) hx hb dX12_next_247 (by decide) ?_
                    refine lv_icmp_ne (tgt := 335) hx hb dX12_next_248 (by decide) (fun c_80 => ?_) (fun c_80 => ?_)
                    ·
                      exact W.vret hx hb hr (fun t ht hW => ⟨⟨[(b_o, (oc12 u_th u_sa b_rf b_ro b_im b_ke u_fd b_tp u_td k8_fr k243_to 3 k243_wo u_fa u_bd u_nc b_nl u_co b_op b_ar u_le b_pi b_pa u_pd u_od b_ws b_hw u_la b_se b_re u_bk u_va u_su u_ce u_ho u_wy u_bt u_ps b_pt u_tg u_sn b_ip u_ic b_ah b_be b_me u_wd b_tr b_ld u_st b_wn u_id)), (b_tp, (arI G 400 v_tp))], rfl, ⟨k8_fr, k243_to, 3, k243_wo, i_1, i_76, by omega, Or.inr (by omega), rfl⟩, by rw [ht]; exact hP.sub [0, 1] rfl, hD.sub [0, 1] (by decide) rfl⟩, hS.F ht⟩) hS.2.2 dX12_next_335
                    ·
                      exact absurd c_80 (by decide)
                  ·
                    exact absurd c_75 (by decide)
              ·
                exact absurd c_68 (by decide)
          ·
            exact absurd c_45 (by decide)
      ·
        have i_16 : k8_fr.toInt = u_td.toInt := by have z := g5_neN (a := k8_fr.toInt) (b := u_td.toInt) (by rfl) (by rfl) c_16; omega
        omega
    ·
      have i_15 : (v_tp k8_fr.toNatClampNeg).toInt = 32 := by have z := g5_neN (a := (v_tp k8_fr.toNatClampNeg).toInt) (b := 32) (by rfl) (by decide) c_15; omega
      refine lv_aload_n hx hb dX12_next_33 rfl (lv_at hl 0 rfl) ?_
      refine lv_dup hx hb dX12_next_34 rfl ?_
      refine va_get (D := G.1) (ci := 12) (v := .int k8_fr) (C := RX12) (T := TX12) (N := 52) hx hb hts inG_X12 hown hK hP 0 rfl rfl 9 (by decide) (hts _ fl_X12_211) (fun _ h9 => h9) rfl dX12_next_35 ?_
      refine lv_iconst (v := 1) hx hb dX12_next_38 (by decide) ?_
      refine lv_iadd hx hb dX12_next_39 ?_
      have t_81 : (k8_fr + 1).toInt = k8_fr.toInt + 1 := g5_iadd (a := k8_fr.toInt) (b := 1) (by rfl) (by decide) (by omega) (by omega)
      refine va_put (D := G.1) (ci := 12) (v := .int (k8_fr + 1)) (ty := .int) (C := RX12) (T := TX12) (N := 52) hx hb hts inG_X12 tyX12 tyX12_ok nmX12 hown hK hP hD hS 0 rfl rfl 9 (by decide) (hts _ fl_X12_211) (fun _ h9 => h9) rfl (by decide +kernel) rfl rfl (Nat.le_of_ble_eq_true rfl) dX12_next_40 (fun H locs hP hD hS => ?_)
      refine g5_rs [(b_o, (oc12 u_th u_sa b_rf b_ro b_im b_ke u_fd b_tp u_td (k8_fr + 1) u_to u_so u_wo u_fa u_bd u_nc b_nl u_co b_op b_ar u_le b_pi b_pa u_pd u_od b_ws b_hw u_la b_se b_re u_bk u_va u_su u_ce u_ho u_wy u_bt u_ps b_pt u_tg u_sn b_ip u_ic b_ah b_be b_me u_wd b_tr b_ld u_st b_wn u_id)), (b_tp, (arI G 400 v_tp))] hP hD (fun hP hD => ?_)
      refine lv_goto (tgt := 8) hx hb dX12_next_43 (by decide) ?_
      exact ih_8_3 (k8_fr + 1) ls H locs (show Int.toNat (400 - (k8_fr + 1).toInt) < Int.toNat (400 - k8_fr.toInt) from g_up (show k8_fr.toInt < (k8_fr + 1).toInt by omega) (show k8_fr.toInt < 400 by omega)) ⟨lv_sub hl [0] rfl, hP, hD, hS, ⟨by omega, by omega⟩, by omega⟩
theorem dgX12_isWord_0 : ∀ r ∈ ([(0, (.aload_n 0, 1)), (1, (.getfield 224, 3)), (4, (.iconst 1, 1)), (5, (.if_icmp .ne 16, 3)), (8, (.aload_n 0, 1)), (9, (.getfield 214, 3)), (12, (.lload_n 1, 1)), (13, (.lcmp, 1)), (14, (.ifCond .ne 7, 3)), (17, (.iconst 1, 1)), (18, (.goto 4, 3)), (21, (.iconst 0, 1)), (22, (.ireturn, 1))] : List (Nat × (Instr × Nat))), decode cX12_isWord r.1 = .ok r.2 := by decide +kernel
theorem dX12_isWord_0 : decode cX12_isWord 0 = .ok (.aload_n 0, 1) := dgX12_isWord_0 (0, (.aload_n 0, 1)) (List.mem_of_getElem? (i := 0) rfl)
theorem dX12_isWord_1 : decode cX12_isWord 1 = .ok (.getfield 224, 3) := dgX12_isWord_0 (1, (.getfield 224, 3)) (List.mem_of_getElem? (i := 1) rfl)
theorem dX12_isWord_4 : decode cX12_isWord 4 = .ok (.iconst 1, 1) := dgX12_isWord_0 (4, (.iconst 1, 1)) (List.mem_of_getElem? (i := 2) rfl)
theorem dX12_isWord_5 : decode cX12_isWord 5 = .ok (.if_icmp .ne 16, 3) := dgX12_isWord_0 (5, (.if_icmp .ne 16, 3)) (List.mem_of_getElem? (i := 3) rfl)
theorem dX12_isWord_8 : decode cX12_isWord 8 = .ok (.aload_n 0, 1) := dgX12_isWord_0 (8, (.aload_n 0, 1)) (List.mem_of_getElem? (i := 4) rfl)
theorem dX12_isWord_9 : decode cX12_isWord 9 = .ok (.getfield 214, 3) := dgX12_isWord_0 (9, (.getfield 214, 3)) (List.mem_of_getElem? (i := 5) rfl)
theorem dX12_isWord_12 : decode cX12_isWord 12 = .ok (.lload_n 1, 1) := dgX12_isWord_0 (12, (.lload_n 1, 1)) (List.mem_of_getElem? (i := 6) rfl)
theorem dX12_isWord_13 : decode cX12_isWord 13 = .ok (.lcmp, 1) := dgX12_isWord_0 (13, (.lcmp, 1)) (List.mem_of_getElem? (i := 7) rfl)
theorem dX12_isWord_14 : decode cX12_isWord 14 = .ok (.ifCond .ne 7, 3) := dgX12_isWord_0 (14, (.ifCond .ne 7, 3)) (List.mem_of_getElem? (i := 8) rfl)
theorem dX12_isWord_17 : decode cX12_isWord 17 = .ok (.iconst 1, 1) := dgX12_isWord_0 (17, (.iconst 1, 1)) (List.mem_of_getElem? (i := 9) rfl)
theorem dX12_isWord_18 : decode cX12_isWord 18 = .ok (.goto 4, 3) := dgX12_isWord_0 (18, (.goto 4, 3)) (List.mem_of_getElem? (i := 10) rfl)
theorem dX12_isWord_21 : decode cX12_isWord 21 = .ok (.iconst 0, 1) := dgX12_isWord_0 (21, (.iconst 0, 1)) (List.mem_of_getElem? (i := 11) rfl)
theorem dX12_isWord_22 : decode cX12_isWord 22 = .ok (.ireturn, 1) := dgX12_isWord_0 (22, (.ireturn, 1)) (List.mem_of_getElem? (i := 12) rfl)
set_option maxHeartbeats 4000000 in
set_option maxRecDepth 100000 in
theorem n_isWord (l : Launch) (G : g5_G) (b_o b_rf b_ro b_im b_ke b_tp b_nl b_op b_ar b_pi b_pa b_ws b_hw b_se b_re b_pt b_ip b_ah b_be b_me b_tr b_ld b_wn : Nat) (sz : Nat) (u_th : Int32) (u_sa : Int32) (u_fd : Int32) (u_td : Int32) (u_fr : Int32) (u_to : Int32) (u_so : Int32) (u_fa : Int32) (u_bd : Int32) (u_nc : Int32) (u_co : Int32) (u_le : Int32) (u_pd : Int32) (u_od : Int32) (u_la : Int32) (u_bk : Int32) (u_ce : Int32) (u_ho : Int32) (u_wy : Int32) (u_bt : Int32) (u_ps : Int32) (u_tg : Int32) (u_sn : Int32) (u_ic : Int32) (u_wd : Int32) (u_id : Int32) (u_wo : Int64) (u_va : Int64) (u_su : Int64) (u_st : Int64) (p_1 : Int64) (h_u_td : 0 ≤ u_td.toInt ∧ u_td.toInt ≤ 400) (h_u_fr : 0 ≤ u_fr.toInt ∧ u_fr.toInt ≤ 400) (h_u_to : 0 ≤ u_to.toInt ∧ u_to.toInt ≤ 400) (h_u_bd : 0 ≤ u_bd.toInt ∧ u_bd.toInt ≤ 1) (h_u_nc : 0 ≤ u_nc.toInt ∧ u_nc.toInt ≤ 12) (h_u_co : 0 ≤ u_co.toInt ∧ u_co.toInt ≤ 400) (h_u_pd : 0 ≤ u_pd.toInt ∧ u_pd.toInt ≤ 400) (h_u_la : 0 ≤ u_la.toInt ∧ u_la.toInt ≤ 4840) (h_u_bk : 0 ≤ u_bk.toInt ∧ u_bk.toInt ≤ 1) (h_u_ce : 0 ≤ u_ce.toInt ∧ u_ce.toInt ≤ 63) (h_u_ho : 0 ≤ u_ho.toInt ∧ u_ho.toInt ≤ 23) (h_u_wy : 0 ≤ u_wy.toInt ∧ u_wy.toInt ≤ 3) (h_u_bt : 0 ≤ u_bt.toInt ∧ u_bt.toInt ≤ 1000000) (h_u_ps : 0 ≤ u_ps.toInt ∧ u_ps.toInt ≤ 200) (h_u_ic : 0 ≤ u_ic.toInt ∧ u_ic.toInt ≤ 1) (h_u_id : 0 ≤ u_id.toInt ∧ u_id.toInt ≤ 1) : Met l yX12_isWord (wsG yX12_isWord cX12_isWord 3 (some .boolean)) ({ frames := 0, cells := 0, slots := 0, locals := 0 }) (va_Pc [.ref b_o, .long p_1] (g5_P G [(b_o, (oc12 u_th u_sa b_rf b_ro b_im b_ke u_fd b_tp u_td u_fr u_to u_so u_wo u_fa u_bd u_nc b_nl u_co b_op b_ar u_le b_pi b_pa u_pd u_od b_ws b_hw u_la b_se b_re u_bk u_va u_su u_ce u_ho u_wy u_bt u_ps b_pt u_tg u_sn b_ip u_ic b_ah b_be b_me u_wd b_tr b_ld u_st b_wn u_id))] sz)) (va_Qi (fun (r : Int32) (u : va_W) => ((u_so.toInt = 1) ∧ (r = 1) ∧ (u = [(b_o, (oc12 u_th u_sa b_rf b_ro b_im b_ke u_fd b_tp u_td u_fr u_to u_so u_wo u_fa u_bd u_nc b_nl u_co b_op b_ar u_le b_pi b_pa u_pd u_od b_ws b_hw u_la b_se b_re u_bk u_va u_su u_ce u_ho u_wy u_bt u_ps b_pt u_tg u_sn b_ip u_ic b_ah b_be b_me u_wd b_tr b_ld u_st b_wn u_id))])) ∨ ((r = 0) ∧ (u = [(b_o, (oc12 u_th u_sa b_rf b_ro b_im b_ke u_fd b_tp u_td u_fr u_to u_so u_wo u_fa u_bd u_nc b_nl u_co b_op b_ar u_le b_pi b_pa u_pd u_od b_ws b_hw u_la b_se b_re u_bk u_va u_su u_ce u_ho u_wy u_bt u_ps b_pt u_tg u_sn b_ip u_ic b_ah b_be b_me u_wd b_tr b_ld u_st b_wn u_id))]))) (g5_B G (va_A [(b_o, (oc12 u_th u_sa b_rf b_ro b_im b_ke u_fd b_tp u_td u_fr u_to u_so u_wo u_fa u_bd u_nc b_nl u_co b_op b_ar u_le b_pi b_pa u_pd u_od b_ws b_hw u_la b_se b_re u_bk u_va u_su u_ce u_ho u_wy u_bt u_ps b_pt u_tg u_sn b_ip u_ic b_ah b_be b_me u_wd b_tr b_ld u_st b_wn u_id))] sz)) (va_A [(b_o, (oc12 u_th u_sa b_rf b_ro b_im b_ke u_fd b_tp u_td u_fr u_to u_so u_wo u_fa u_bd u_nc b_nl u_co b_op b_ar u_le b_pi b_pa u_pd u_od b_ws b_hw u_la b_se b_re u_bk u_va u_su u_ce u_ho u_wy u_bt u_ps b_pt u_tg u_sn b_ip u_ic b_ah b_be b_me u_wd b_tr b_ld u_st b_wn u_id))] sz)) 0 0 (va_A [(b_o, (oc12 u_th u_sa b_rf b_ro b_im b_ke u_fd b_tp u_td u_fr u_to u_so u_wo u_fa u_bd u_nc b_nl u_co b_op b_ar u_le b_pi b_pa u_pd u_od b_ws b_hw u_la b_se b_re u_bk u_va u_su u_ce u_ho u_wy u_bt u_ps b_pt u_tg u_sn b_ip u_ic b_ah b_be b_me u_wd b_tr b_ld u_st b_wn u_id))] sz) := by
  refine Met.ofW (cc := cX12_isWord) (maxL := 3) (ret := (some .boolean)) (by decide) rfl ?_
  intro p e s m args below meth c s₁ B hml hv
  obtain ⟨rfl, hsz, hP, hK, hD0, hN, hT⟩ := hv
  have hx := B.exec
  have hb := B.bytes
  have hr := B.returns
  have hts : ∀ w ∈ tblG, w.before _ s = true := fun w h => atoms_spec (ws := (wsG yX12_isWord cX12_isWord 3 (some .boolean))) B.pre w (List.mem_cons_of_mem _ h)
  have hown : s.vm.findClass RX12 = some m.cls := findClass_of_methodNamed B.named
  have hlocks := B.notSynchronized
  subst hsz
  have hD := hD0.self (sz := s.heap.size)
  generalize hAe : va_A [(b_o, (oc12 u_th u_sa b_rf b_ro b_im b_ke u_fd b_tp u_td u_fr u_to u_so u_wo u_fa u_bd u_nc b_nl u_co b_op b_ar u_le b_pi b_pa u_pd u_od b_ws b_hw u_la b_se b_re u_bk u_va u_su u_ce u_ho u_wy u_bt u_ps b_pt u_tg u_sn b_ip u_ic b_ah b_be b_me u_wd b_tr b_ld u_st b_wn u_id))] s.heap.size = A at hD hT ⊢
  have hA : ∀ q : Nat, s.heap.size ≤ q → A q := fun q h => by rw [← hAe]; exact Or.inr h
  have hS : va_S A s.heap s.heap [] := va_S.rf
  have hP : va_P G.1 vwCl [(b_o, (oc12 u_th u_sa b_rf b_ro b_im b_ke u_fd b_tp u_td u_fr u_to u_so u_wo u_fa u_bd u_nc b_nl u_co b_op b_ar u_le b_pi b_pa u_pd u_od b_ws b_hw u_la b_se b_re u_bk u_va u_su u_ce u_ho u_wy u_bt u_ps b_pt u_tg u_sn b_ip u_ic b_ah b_be b_me u_wd b_tr b_ld u_st b_wn u_id))] s.heap := hP
  have hl := lv_entry ([.ref b_o, .long p_1]) (n := 3) (Nat.le_of_ble_eq_true rfl)
  rw [lg_entry_eq]
  generalize (lg_sl ([.ref b_o, .long p_1]) ++ List.replicate (3 - (lg_sl ([.ref b_o, .long p_1])).length) Slot.unset).toArray = ls at hl ⊢
  have hl : lv_has ls 3 [(0, .ref b_o), (1, .long p_1)] := hl
  refine lv_aload_n hx hb dX12_isWord_0 rfl (lv_at hl 0 rfl) ?_
  refine va_get (D := G.1) (ci := 12) (v := .int u_so) (C := RX12) (T := TX12) (N := 52) hx hb hts inG_X12 hown hK hP 0 rfl rfl 11 (by decide) (hts _ fl_X12_224) (fun _ h9 => h9) rfl dX12_isWord_1 ?_
  refine lv_iconst (v := 1) hx hb dX12_isWord_4 (by decide) ?_
  refine lv_icmp_ne (tgt := 21) hx hb dX12_isWord_5 (by decide) (fun c_1 => ?_) (fun c_1 => ?_)
  ·
    have n_1 : gNe (u_so.toInt) (1) := by have z := g5_ne (a := u_so.toInt) (b := 1) (by rfl) (by decide) c_1; unfold gNe; omega
    refine lv_iconst (v := 0) hx hb dX12_isWord_21 (by decide) ?_
    exact W.zret (v := 0) hx hb hr rfl (fun t ht hW => ⟨⟨0, [(b_o, (oc12 u_th u_sa b_rf b_ro b_im b_ke u_fd b_tp u_td u_fr u_to u_so u_wo u_fa u_bd u_nc b_nl u_co b_op b_ar u_le b_pi b_pa u_pd u_od b_ws b_hw u_la b_se b_re u_bk u_va u_su u_ce u_ho u_wy u_bt u_ps b_pt u_tg u_sn b_ip u_ic b_ah b_be b_me u_wd b_tr b_ld u_st b_wn u_id))], rfl, Or.inr (⟨rfl, rfl⟩), by rw [ht]; exact hP.sub [0] rfl, hD.sub [0] (by decide) rfl⟩, hS.F ht⟩) hS.2.2 dX12_isWord_22
  ·
    have i_1 : u_so.toInt = 1 := by have z := g5_neN (a := u_so.toInt) (b := 1) (by rfl) (by decide) c_1; omega
    refine lv_aload_n hx hb dX12_isWord_8 rfl (lv_at hl 0 rfl) ?_
    refine va_get (D := G.1) (ci := 12) (v := .long u_wo) (C := RX12) (T := TX12) (N := 52) hx hb hts inG_X12 hown hK hP 0 rfl rfl 12 (by decide) (hts _ fl_X12_214) (fun _ h9 => h9) rfl dX12_isWord_9 ?_
    refine lv_lload_n hx hb dX12_isWord_12 rfl (lv_at hl 1 rfl) ?_
    refine W.lcmp hx hb dX12_isWord_13 ?_
    refine lv_if_ne (tgt := 21) hx hb dX12_isWord_14 (by decide) (fun c_2 => ?_) (fun c_2 => ?_)
    ·
      have n_2 : gNe ((lg_cmp u_wo p_1).toInt) (0) := by have z := g5_ne (a := (lg_cmp u_wo p_1).toInt) (b := 0) (by rfl) (by decide) c_2; unfold gNe; omega
      refine lv_iconst (v := 0) hx hb dX12_isWord_21 (by decide) ?_
      exact W.zret (v := 0) hx hb hr rfl (fun t ht hW => ⟨⟨0, [(b_o, (oc12 u_th u_sa b_rf b_ro b_im b_ke u_fd b_tp u_td u_fr u_to u_so u_wo u_fa u_bd u_nc b_nl u_co b_op b_ar u_le b_pi b_pa u_pd u_od b_ws b_hw u_la b_se b_re u_bk u_va u_su u_ce u_ho u_wy u_bt u_ps b_pt u_tg u_sn b_ip u_ic b_ah b_be b_me u_wd b_tr b_ld u_st b_wn u_id))], rfl, Or.inr (⟨rfl, rfl⟩), by rw [ht]; exact hP.sub [0] rfl, hD.sub [0] (by decide) rfl⟩, hS.F ht⟩) hS.2.2 dX12_isWord_22
    ·
      have i_2 : (lg_cmp u_wo p_1).toInt = 0 := by have z := g5_neN (a := (lg_cmp u_wo p_1).toInt) (b := 0) (by rfl) (by decide) c_2; omega
      refine lv_iconst (v := 1) hx hb dX12_isWord_17 (by decide) ?_
      refine lv_goto (tgt := 22) hx hb dX12_isWord_18 (by decide) ?_
      exact W.zret (v := 1) hx hb hr rfl (fun t ht hW => ⟨⟨1, [(b_o, (oc12 u_th u_sa b_rf b_ro b_im b_ke u_fd b_tp u_td u_fr u_to u_so u_wo u_fa u_bd u_nc b_nl u_co b_op b_ar u_le b_pi b_pa u_pd u_od b_ws b_hw u_la b_se b_re u_bk u_va u_su u_ce u_ho u_wy u_bt u_ps b_pt u_tg u_sn b_ip u_ic b_ah b_be b_me u_wd b_tr b_ld u_st b_wn u_id))], rfl, Or.inl (⟨by omega, rfl, rfl⟩), by rw [ht]; exact hP.sub [0] rfl, hD.sub [0] (by decide) rfl⟩, hS.F ht⟩) hS.2.2 dX12_isWord_22
theorem dgX12_isSign_0 : ∀ r ∈ ([(0, (.aload_n 0, 1)), (1, (.getfield 224, 3)), (4, (.iconst 3, 1)), (5, (.if_icmp .ne 17, 3)), (8, (.aload_n 0, 1)), (9, (.getfield 214, 3)), (12, (.iload_n 1, 1)), (13, (.i2l, 1)), (14, (.lcmp, 1)), (15, (.ifCond .ne 7, 3)), (18, (.iconst 1, 1)), (19, (.goto 4, 3)), (22, (.iconst 0, 1)), (23, (.ireturn, 1))] : List (Nat × (Instr × Nat))), decode cX12_isSign r.1 = .ok r.2 := by decide +kernel
theorem dX12_isSign_0 : decode cX12_isSign 0 = .ok (.aload_n 0, 1) := dgX12_isSign_0 (0, (.aload_n 0, 1)) (List.mem_of_getElem? (i := 0) rfl)
theorem dX12_isSign_1 : decode cX12_isSign 1 = .ok (.getfield 224, 3) := dgX12_isSign_0 (1, (.getfield 224, 3)) (List.mem_of_getElem? (i := 1) rfl)
theorem dX12_isSign_4 : decode cX12_isSign 4 = .ok (.iconst 3, 1) := dgX12_isSign_0 (4, (.iconst 3, 1)) (List.mem_of_getElem? (i := 2) rfl)
theorem dX12_isSign_5 : decode cX12_isSign 5 = .ok (.if_icmp .ne 17, 3) := dgX12_isSign_0 (5, (.if_icmp .ne 17, 3)) (List.mem_of_getElem? (i := 3) rfl)
theorem dX12_isSign_8 : decode cX12_isSign 8 = .ok (.aload_n 0, 1) := dgX12_isSign_0 (8, (.aload_n 0, 1)) (List.mem_of_getElem? (i := 4) rfl)
theorem dX12_isSign_9 : decode cX12_isSign 9 = .ok (.getfield 214, 3) := dgX12_isSign_0 (9, (.getfield 214, 3)) (List.mem_of_getElem? (i := 5) rfl)
theorem dX12_isSign_12 : decode cX12_isSign 12 = .ok (.iload_n 1, 1) := dgX12_isSign_0 (12, (.iload_n 1, 1)) (List.mem_of_getElem? (i := 6) rfl)
theorem dX12_isSign_13 : decode cX12_isSign 13 = .ok (.i2l, 1) := dgX12_isSign_0 (13, (.i2l, 1)) (List.mem_of_getElem? (i := 7) rfl)
theorem dX12_isSign_14 : decode cX12_isSign 14 = .ok (.lcmp, 1) := dgX12_isSign_0 (14, (.lcmp, 1)) (List.mem_of_getElem? (i := 8) rfl)
theorem dX12_isSign_15 : decode cX12_isSign 15 = .ok (.ifCond .ne 7, 3) := dgX12_isSign_0 (15, (.ifCond .ne 7, 3)) (List.mem_of_getElem? (i := 9) rfl)
theorem dX12_isSign_18 : decode cX12_isSign 18 = .ok (.iconst 1, 1) := dgX12_isSign_0 (18, (.iconst 1, 1)) (List.mem_of_getElem? (i := 10) rfl)
theorem dX12_isSign_19 : decode cX12_isSign 19 = .ok (.goto 4, 3) := dgX12_isSign_0 (19, (.goto 4, 3)) (List.mem_of_getElem? (i := 11) rfl)
theorem dX12_isSign_22 : decode cX12_isSign 22 = .ok (.iconst 0, 1) := dgX12_isSign_0 (22, (.iconst 0, 1)) (List.mem_of_getElem? (i := 12) rfl)
theorem dX12_isSign_23 : decode cX12_isSign 23 = .ok (.ireturn, 1) := dgX12_isSign_0 (23, (.ireturn, 1)) (List.mem_of_getElem? (i := 13) rfl)
set_option maxHeartbeats 4000000 in
set_option maxRecDepth 100000 in
theorem n_isSign (l : Launch) (G : g5_G) (b_o b_rf b_ro b_im b_ke b_tp b_nl b_op b_ar b_pi b_pa b_ws b_hw b_se b_re b_pt b_ip b_ah b_be b_me b_tr b_ld b_wn : Nat) (sz : Nat) (u_th : Int32) (u_sa : Int32) (u_fd : Int32) (u_td : Int32) (u_fr : Int32) (u_to : Int32) (u_so : Int32) (u_fa : Int32) (u_bd : Int32) (u_nc : Int32) (u_co : Int32) (u_le : Int32) (u_pd : Int32) (u_od : Int32) (u_la : Int32) (u_bk : Int32) (u_ce : Int32) (u_ho : Int32) (u_wy : Int32) (u_bt : Int32) (u_ps : Int32) (u_tg : Int32) (u_sn : Int32) (u_ic : Int32) (u_wd : Int32) (u_id : Int32) (p_1 : Int32) (u_wo : Int64) (u_va : Int64) (u_su : Int64) (u_st : Int64) (h_u_td : 0 ≤ u_td.toInt ∧ u_td.toInt ≤ 400) (h_u_fr : 0 ≤ u_fr.toInt ∧ u_fr.toInt ≤ 400) (h_u_to : 0 ≤ u_to.toInt ∧ u_to.toInt ≤ 400) (h_u_bd : 0 ≤ u_bd.toInt ∧ u_bd.toInt ≤ 1) (h_u_nc : 0 ≤ u_nc.toInt ∧ u_nc.toInt ≤ 12) (h_u_co : 0 ≤ u_co.toInt ∧ u_co.toInt ≤ 400) (h_u_pd : 0 ≤ u_pd.toInt ∧ u_pd.toInt ≤ 400) (h_u_la : 0 ≤ u_la.toInt ∧ u_la.toInt ≤ 4840) (h_u_bk : 0 ≤ u_bk.toInt ∧ u_bk.toInt ≤ 1) (h_u_ce : 0 ≤ u_ce.toInt ∧ u_ce.toInt ≤ 63) (h_u_ho : 0 ≤ u_ho.toInt ∧ u_ho.toInt ≤ 23) (h_u_wy : 0 ≤ u_wy.toInt ∧ u_wy.toInt ≤ 3) (h_u_bt : 0 ≤ u_bt.toInt ∧ u_bt.toInt ≤ 1000000) (h_u_ps : 0 ≤ u_ps.toInt ∧ u_ps.toInt ≤ 200) (h_u_ic : 0 ≤ u_ic.toInt ∧ u_ic.toInt ≤ 1) (h_u_id : 0 ≤ u_id.toInt ∧ u_id.toInt ≤ 1) : Met l yX12_isSign (wsG yX12_isSign cX12_isSign 2 (some .boolean)) ({ frames := 0, cells := 0, slots := 0, locals := 0 }) (va_Pc [.ref b_o, .int p_1] (g5_P G [(b_o, (oc12 u_th u_sa b_rf b_ro b_im b_ke u_fd b_tp u_td u_fr u_to u_so u_wo u_fa u_bd u_nc b_nl u_co b_op b_ar u_le b_pi b_pa u_pd u_od b_ws b_hw u_la b_se b_re u_bk u_va u_su u_ce u_ho u_wy u_bt u_ps b_pt u_tg u_sn b_ip u_ic b_ah b_be b_me u_wd b_tr b_ld u_st b_wn u_id))] sz)) (va_Qi (fun (r : Int32) (u : va_W) => ((u_so.toInt = 3) ∧ (r = 1) ∧ (u = [(b_o, (oc12 u_th u_sa b_rf b_ro b_im b_ke u_fd b_tp u_td u_fr u_to u_so u_wo u_fa u_bd u_nc b_nl u_co b_op b_ar u_le b_pi b_pa u_pd u_od b_ws b_hw u_la b_se b_re u_bk u_va u_su u_ce u_ho u_wy u_bt u_ps b_pt u_tg u_sn b_ip u_ic b_ah b_be b_me u_wd b_tr b_ld u_st b_wn u_id))])) ∨ ((r = 0) ∧ (u = [(b_o, (oc12 u_th u_sa b_rf b_ro b_im b_ke u_fd b_tp u_td u_fr u_to u_so u_wo u_fa u_bd u_nc b_nl u_co b_op b_ar u_le b_pi b_pa u_pd u_od b_ws b_hw u_la b_se b_re u_bk u_va u_su u_ce u_ho u_wy u_bt u_ps b_pt u_tg u_sn b_ip u_ic b_ah b_be b_me u_wd b_tr b_ld u_st b_wn u_id))]))) (g5_B G (va_A [(b_o, (oc12 u_th u_sa b_rf b_ro b_im b_ke u_fd b_tp u_td u_fr u_to u_so u_wo u_fa u_bd u_nc b_nl u_co b_op b_ar u_le b_pi b_pa u_pd u_od b_ws b_hw u_la b_se b_re u_bk u_va u_su u_ce u_ho u_wy u_bt u_ps b_pt u_tg u_sn b_ip u_ic b_ah b_be b_me u_wd b_tr b_ld u_st b_wn u_id))] sz)) (va_A [(b_o, (oc12 u_th u_sa b_rf b_ro b_im b_ke u_fd b_tp u_td u_fr u_to u_so u_wo u_fa u_bd u_nc b_nl u_co b_op b_ar u_le b_pi b_pa u_pd u_od b_ws b_hw u_la b_se b_re u_bk u_va u_su u_ce u_ho u_wy u_bt u_ps b_pt u_tg u_sn b_ip u_ic b_ah b_be b_me u_wd b_tr b_ld u_st b_wn u_id))] sz)) 0 0 (va_A [(b_o, (oc12 u_th u_sa b_rf b_ro b_im b_ke u_fd b_tp u_td u_fr u_to u_so u_wo u_fa u_bd u_nc b_nl u_co b_op b_ar u_le b_pi b_pa u_pd u_od b_ws b_hw u_la b_se b_re u_bk u_va u_su u_ce u_ho u_wy u_bt u_ps b_pt u_tg u_sn b_ip u_ic b_ah b_be b_me u_wd b_tr b_ld u_st b_wn u_id))] sz) := by
  refine Met.ofW (cc := cX12_isSign) (maxL := 2) (ret := (some .boolean)) (by decide) rfl ?_
  intro p e s m args below meth c s₁ B hml hv
  obtain ⟨rfl, hsz, hP, hK, hD0, hN, hT⟩ := hv
  have hx := B.exec
  have hb := B.bytes
  have hr := B.returns
  have hts : ∀ w ∈ tblG, w.before _ s = true := fun w h => atoms_spec (ws := (wsG yX12_isSign cX12_isSign 2 (some .boolean))) B.pre w (List.mem_cons_of_mem _ h)
  have hown : s.vm.findClass RX12 = some m.cls := findClass_of_methodNamed B.named
  have hlocks := B.notSynchronized
  subst hsz
  have hD := hD0.self (sz := s.heap.size)
  generalize hAe : va_A [(b_o, (oc12 u_th u_sa b_rf b_ro b_im b_ke u_fd b_tp u_td u_fr u_to u_so u_wo u_fa u_bd u_nc b_nl u_co b_op b_ar u_le b_pi b_pa u_pd u_od b_ws b_hw u_la b_se b_re u_bk u_va u_su u_ce u_ho u_wy u_bt u_ps b_pt u_tg u_sn b_ip u_ic b_ah b_be b_me u_wd b_tr b_ld u_st b_wn u_id))] s.heap.size = A at hD hT ⊢
  have hA : ∀ q : Nat, s.heap.size ≤ q → A q := fun q h => by rw [← hAe]; exact Or.inr h
  have hS : va_S A s.heap s.heap [] := va_S.rf
  have hP : va_P G.1 vwCl [(b_o, (oc12 u_th u_sa b_rf b_ro b_im b_ke u_fd b_tp u_td u_fr u_to u_so u_wo u_fa u_bd u_nc b_nl u_co b_op b_ar u_le b_pi b_pa u_pd u_od b_ws b_hw u_la b_se b_re u_bk u_va u_su u_ce u_ho u_wy u_bt u_ps b_pt u_tg u_sn b_ip u_ic b_ah b_be b_me u_wd b_tr b_ld u_st b_wn u_id))] s.heap := hP
  have hl := lv_entry ([.ref b_o, .int p_1]) (n := 2) (Nat.le_of_ble_eq_true rfl)
  rw [lg_entry_eq]
  generalize (lg_sl ([.ref b_o, .int p_1]) ++ List.replicate (2 - (lg_sl ([.ref b_o, .int p_1])).length) Slot.unset).toArray = ls at hl ⊢
  have hl : lv_has ls 2 [(0, .ref b_o), (1, .int p_1)] := hl
  refine lv_aload_n hx hb dX12_isSign_0 rfl (lv_at hl 0 rfl) ?_
  refine va_get (D := G.1) (ci := 12) (v := .int u_so) (C := RX12) (T := TX12) (N := 52) hx hb hts inG_X12 hown hK hP 0 rfl rfl 11 (by decide) (hts _ fl_X12_224) (fun _ h9 => h9) rfl dX12_isSign_1 ?_
  refine lv_iconst (v := 3) hx hb dX12_isSign_4 (by decide) ?_
  refine lv_icmp_ne (tgt := 22) hx hb dX12_isSign_5 (by decide) (fun c_1 => ?_) (fun c_1 => ?_)
  ·
    have n_1 : gNe (u_so.toInt) (3) := by have z := g5_ne (a := u_so.toInt) (b := 3) (by rfl) (by decide) c_1; unfold gNe; omega
    refine lv_iconst (v := 0) hx hb dX12_isSign_22 (by decide) ?_
    exact W.zret (v := 0) hx hb hr rfl (fun t ht hW => ⟨⟨0, [(b_o, (oc12 u_th u_sa b_rf b_ro b_im b_ke u_fd b_tp u_td u_fr u_to u_so u_wo u_fa u_bd u_nc b_nl u_co b_op b_ar u_le b_pi b_pa u_pd u_od b_ws b_hw u_la b_se b_re u_bk u_va u_su u_ce u_ho u_wy u_bt u_ps b_pt u_tg u_sn b_ip u_ic b_ah b_be b_me u_wd b_tr b_ld u_st b_wn u_id))], rfl, Or.inr (⟨rfl, rfl⟩), by rw [ht]; exact hP.sub [0] rfl, hD.sub [0] (by decide) rfl⟩, hS.F ht⟩) hS.2.2 dX12_isSign_23
  ·
    have i_1 : u_so.toInt = 3 := by have z := g5_neN (a := u_so.toInt) (b := 3) (by rfl) (by decide) c_1; omega
    refine lv_aload_n hx hb dX12_isSign_8 rfl (lv_at hl 0 rfl) ?_
    refine va_get (D := G.1) (ci := 12) (v := .long u_wo) (C := RX12) (T := TX12) (N := 52) hx hb hts inG_X12 hown hK hP 0 rfl rfl 12 (by decide) (hts _ fl_X12_214) (fun _ h9 => h9) rfl dX12_isSign_9 ?_
    refine lv_iload_n hx hb dX12_isSign_12 rfl (lv_at hl 1 rfl) ?_
    refine lv_i2l (v := p_1.toInt64) hx hb dX12_isSign_13 rfl ?_
    refine W.lcmp hx hb dX12_isSign_14 ?_
    refine lv_if_ne (tgt := 22) hx hb dX12_isSign_15 (by decide) (fun c_2 => ?_) (fun c_2 => ?_)
    ·
      have n_2 : gNe ((lg_cmp u_wo p_1.toInt64).toInt) (0) := by have z := g5_ne (a := (lg_cmp u_wo p_1.toInt64).toInt) (b := 0) (by rfl) (by decide) c_2; unfold gNe; omega
      refine lv_iconst (v := 0) hx hb dX12_isSign_22 (by decide) ?_
      exact W.zret (v := 0) hx hb hr rfl (fun t ht hW => ⟨⟨0, [(b_o, (oc12 u_th u_sa b_rf b_ro b_im b_ke u_fd b_tp u_td u_fr u_to u_so u_wo u_fa u_bd u_nc b_nl u_co b_op b_ar u_le b_pi b_pa u_pd u_od b_ws b_hw u_la b_se b_re u_bk u_va u_su u_ce u_ho u_wy u_bt u_ps b_pt u_tg u_sn b_ip u_ic b_ah b_be b_me u_wd b_tr b_ld u_st b_wn u_id))], rfl, Or.inr (⟨rfl, rfl⟩), by rw [ht]; exact hP.sub [0] rfl, hD.sub [0] (by decide) rfl⟩, hS.F ht⟩) hS.2.2 dX12_isSign_23
    ·
      have i_2 : (lg_cmp u_wo p_1.toInt64).toInt = 0 := by have z := g5_neN (a := (lg_cmp u_wo p_1.toInt64).toInt) (b := 0) (by rfl) (by decide) c_2; omega
      refine lv_iconst (v := 1) hx hb dX12_isSign_18 (by decide) ?_
      refine lv_goto (tgt := 23) hx hb dX12_isSign_19 (by decide) ?_
      exact W.zret (v := 1) hx hb hr rfl (fun t ht hW => ⟨⟨1, [(b_o, (oc12 u_th u_sa b_rf b_ro b_im b_ke u_fd b_tp u_td u_fr u_to u_so u_wo u_fa u_bd u_nc b_nl u_co b_op b_ar u_le b_pi b_pa u_pd u_od b_ws b_hw u_la b_se b_re u_bk u_va u_su u_ce u_ho u_wy u_bt u_ps b_pt u_tg u_sn b_ip u_ic b_ah b_be b_me u_wd b_tr b_ld u_st b_wn u_id))], rfl, Or.inl (⟨by omega, rfl, rfl⟩), by rw [ht]; exact hP.sub [0] rfl, hD.sub [0] (by decide) rfl⟩, hS.F ht⟩) hS.2.2 dX12_isSign_23
theorem dgX12_must_0 : ∀ r ∈ ([(0, (.aload_n 0, 1)), (1, (.getfield 205, 3)), (4, (.ifCond .ne 20, 3)), (7, (.iload_n 1, 1)), (8, (.ifCond .ne 16, 3)), (11, (.aload_n 0, 1)), (12, (.iconst 1, 1)), (13, (.putfield 205, 3)), (16, (.aload_n 0, 1)), (17, (.aload_n 0, 1)), (18, (.getfield 211, 3)), (21, (.putfield 26, 3)), (24, (.aload_n 0, 1)), (25, (.getfield 205, 3)), (28, (.ifCond .ne 7, 3)), (31, (.aload_n 0, 1)), (32, (.invokevirtual 208, 3)), (35, (.return_, 1))] : List (Nat × (Instr × Nat))), decode cX12_must r.1 = .ok r.2 := by decide +kernel
theorem dX12_must_0 : decode cX12_must 0 = .ok (.aload_n 0, 1) := dgX12_must_0 (0, (.aload_n 0, 1)) (List.mem_of_getElem? (i := 0) rfl)
theorem dX12_must_1 : decode cX12_must 1 = .ok (.getfield 205, 3) := dgX12_must_0 (1, (.getfield 205, 3)) (List.mem_of_getElem? (i := 1) rfl)
theorem dX12_must_4 : decode cX12_must 4 = .ok (.ifCond .ne 20, 3) := dgX12_must_0 (4, (.ifCond .ne 20, 3)) (List.mem_of_getElem? (i := 2) rfl)
theorem dX12_must_7 : decode cX12_must 7 = .ok (.iload_n 1, 1) := dgX12_must_0 (7, (.iload_n 1, 1)) (List.mem_of_getElem? (i := 3) rfl)
theorem dX12_must_8 : decode cX12_must 8 = .ok (.ifCond .ne 16, 3) := dgX12_must_0 (8, (.ifCond .ne 16, 3)) (List.mem_of_getElem? (i := 4) rfl)
theorem dX12_must_11 : decode cX12_must 11 = .ok (.aload_n 0, 1) := dgX12_must_0 (11, (.aload_n 0, 1)) (List.mem_of_getElem? (i := 5) rfl)
theorem dX12_must_12 : decode cX12_must 12 = .ok (.iconst 1, 1) := dgX12_must_0 (12, (.iconst 1, 1)) (List.mem_of_getElem? (i := 6) rfl)
theorem dX12_must_13 : decode cX12_must 13 = .ok (.putfield 205, 3) := dgX12_must_0 (13, (.putfield 205, 3)) (List.mem_of_getElem? (i := 7) rfl)
theorem dX12_must_16 : decode cX12_must 16 = .ok (.aload_n 0, 1) := dgX12_must_0 (16, (.aload_n 0, 1)) (List.mem_of_getElem? (i := 8) rfl)
theorem dX12_must_17 : decode cX12_must 17 = .ok (.aload_n 0, 1) := dgX12_must_0 (17, (.aload_n 0, 1)) (List.mem_of_getElem? (i := 9) rfl)
theorem dX12_must_18 : decode cX12_must 18 = .ok (.getfield 211, 3) := dgX12_must_0 (18, (.getfield 211, 3)) (List.mem_of_getElem? (i := 10) rfl)
theorem dX12_must_21 : decode cX12_must 21 = .ok (.putfield 26, 3) := dgX12_must_0 (21, (.putfield 26, 3)) (List.mem_of_getElem? (i := 11) rfl)
theorem dX12_must_24 : decode cX12_must 24 = .ok (.aload_n 0, 1) := dgX12_must_0 (24, (.aload_n 0, 1)) (List.mem_of_getElem? (i := 12) rfl)
theorem dX12_must_25 : decode cX12_must 25 = .ok (.getfield 205, 3) := dgX12_must_0 (25, (.getfield 205, 3)) (List.mem_of_getElem? (i := 13) rfl)
theorem dX12_must_28 : decode cX12_must 28 = .ok (.ifCond .ne 7, 3) := dgX12_must_0 (28, (.ifCond .ne 7, 3)) (List.mem_of_getElem? (i := 14) rfl)
theorem dX12_must_31 : decode cX12_must 31 = .ok (.aload_n 0, 1) := dgX12_must_0 (31, (.aload_n 0, 1)) (List.mem_of_getElem? (i := 15) rfl)
theorem dX12_must_32 : decode cX12_must 32 = .ok (.invokevirtual 208, 3) := dgX12_must_0 (32, (.invokevirtual 208, 3)) (List.mem_of_getElem? (i := 16) rfl)
theorem dX12_must_35 : decode cX12_must 35 = .ok (.return_, 1) := dgX12_must_0 (35, (.return_, 1)) (List.mem_of_getElem? (i := 17) rfl)
theorem fl_X12_205 : Cond.fieldLink RX12 205 "LateGlassModel" "bad" "Z" ∈ tblG := tg 1217 (by decide +kernel) (by decide +kernel)
theorem ml_X12_208 : Cond.methodLink RX12 208 yX12_next ∈ tblG := tg 1504 (by decide +kernel) (by decide +kernel)
theorem im_X12_next : Cond.instanceMethod yX12_next ∈ tblG := tg 1506 (by decide +kernel) (by decide +kernel)
theorem se_X12_next : Cond.selects RX12 yX12_next yX12_next ∈ tblG := tg 44 (by decide +kernel) (by decide +kernel)
theorem cd_X12_next : Cond.code yX12_next cX12_next 1 none ∈ tblG := tg 1507 (by decide +kernel) (by decide +kernel)
theorem gW_X12_next : GoodIn tblG (wsG yX12_next cX12_next 1 none) := tgi cd_X12_next
theorem gV_X12_208 : GoodIn tblG (wsV RX12 208 RX12 yX12_next (wsG yX12_next cX12_next 1 none)) := tgV ml_X12_208 im_X12_next se_X12_next ini_X12 gW_X12_next
theorem hv_X12_next : yX12_next.cls = RX12 ∧ yX12_next.cls ≠ "java/lang/invoke/MethodHandle" ∧ yX12_next.cls ≠ "java/lang/invoke/VarHandle" ∧ (parseMethodDescriptor yX12_next.desc).map (fun d => d.parameters.length) = some 0 := by decide +kernel
set_option maxHeartbeats 4000000 in
set_option maxRecDepth 100000 in
theorem n_must1 (l : Launch) (G : g5_G) (b_o b_tp b_rf b_ro b_im b_ke b_nl b_op b_ar b_pi b_pa b_ws b_hw b_se b_re b_pt b_ip b_ah b_be b_me b_tr b_ld b_wn : Nat) (sz : Nat) (u_th : Int32) (u_sa : Int32) (u_fd : Int32) (u_td : Int32) (u_fr : Int32) (u_to : Int32) (u_so : Int32) (u_fa : Int32) (u_bd : Int32) (u_nc : Int32) (u_co : Int32) (u_le : Int32) (u_pd : Int32) (u_od : Int32) (u_la : Int32) (u_bk : Int32) (u_ce : Int32) (u_ho : Int32) (u_wy : Int32) (u_bt : Int32) (u_ps : Int32) (u_tg : Int32) (u_sn : Int32) (u_ic : Int32) (u_wd : Int32) (u_id : Int32) (u_wo : Int64) (u_va : Int64) (u_su : Int64) (u_st : Int64) (v_tp : Nat → Int32) (h_u_td : 0 ≤ u_td.toInt ∧ u_td.toInt ≤ 400) (h_u_fr : 0 ≤ u_fr.toInt ∧ u_fr.toInt ≤ 400) (h_u_to : 0 ≤ u_to.toInt ∧ u_to.toInt ≤ 400) (h_u_bd : 0 ≤ u_bd.toInt ∧ u_bd.toInt ≤ 0) (h_u_nc : 0 ≤ u_nc.toInt ∧ u_nc.toInt ≤ 12) (h_u_co : 0 ≤ u_co.toInt ∧ u_co.toInt ≤ 400) (h_u_pd : 0 ≤ u_pd.toInt ∧ u_pd.toInt ≤ 400) (h_u_la : 0 ≤ u_la.toInt ∧ u_la.toInt ≤ 4840) (h_u_bk : 0 ≤ u_bk.toInt ∧ u_bk.toInt ≤ 1) (h_u_ce : 0 ≤ u_ce.toInt ∧ u_ce.toInt ≤ 63) (h_u_ho : 0 ≤ u_ho.toInt ∧ u_ho.toInt ≤ 23) (h_u_wy : 0 ≤ u_wy.toInt ∧ u_wy.toInt ≤ 3) (h_u_bt : 0 ≤ u_bt.toInt ∧ u_bt.toInt ≤ 1000000) (h_u_ps : 0 ≤ u_ps.toInt ∧ u_ps.toInt ≤ 200) (h_u_ic : 0 ≤ u_ic.toInt ∧ u_ic.toInt ≤ 1) (h_u_id : 0 ≤ u_id.toInt ∧ u_id.toInt ≤ 1) (e_t : u_fr.toInt < u_to.toInt ∧ u_to.toInt ≤ u_td.toInt) : Met l yX12_must (wsG yX12_must cX12_must 2 none) ({ frames := 2, cells := 0, slots := 0, locals := 40 }) (va_Pc [.ref b_o, .int 1] (g5_P G [(b_o, (oc12 u_th u_sa b_rf b_ro b_im b_ke u_fd b_tp u_td u_fr u_to u_so u_wo u_fa u_bd u_nc b_nl u_co b_op b_ar u_le b_pi b_pa u_pd u_od b_ws b_hw u_la b_se b_re u_bk u_va u_su u_ce u_ho u_wy u_bt u_ps b_pt u_tg u_sn b_ip u_ic b_ah b_be b_me u_wd b_tr b_ld u_st b_wn u_id)), (b_tp, (arI G 400 v_tp))] sz)) (va_Qv (fun (u : va_W) => (∃ (o_fr : Int32) (o_to : Int32) (o_so : Int32) (o_wo : Int64), (0 ≤ o_fr.toInt ∧ o_fr.toInt ≤ 400) ∧ (0 ≤ o_to.toInt ∧ o_to.toInt ≤ 400) ∧ (u_to.toInt ≤ o_fr.toInt ∧ o_fr.toInt ≤ o_to.toInt ∧ o_to.toInt ≤ u_td.toInt) ∧ (TKs o_so.toInt o_fr.toInt o_to.toInt) ∧ (u = [(b_o, (oc12 u_th u_sa b_rf b_ro b_im b_ke u_fd b_tp u_td o_fr o_to o_so o_wo u_fa u_bd u_nc b_nl u_co b_op b_ar u_le b_pi b_pa u_pd u_od b_ws b_hw u_la b_se b_re u_bk u_va u_su u_ce u_ho u_wy u_bt u_ps b_pt u_tg u_sn b_ip u_ic b_ah b_be b_me u_wd b_tr b_ld u_st b_wn u_id)), (b_tp, (arI G 400 v_tp))]))) (g5_B G (va_A [(b_o, (oc12 u_th u_sa b_rf b_ro b_im b_ke u_fd b_tp u_td u_fr u_to u_so u_wo u_fa u_bd u_nc b_nl u_co b_op b_ar u_le b_pi b_pa u_pd u_od b_ws b_hw u_la b_se b_re u_bk u_va u_su u_ce u_ho u_wy u_bt u_ps b_pt u_tg u_sn b_ip u_ic b_ah b_be b_me u_wd b_tr b_ld u_st b_wn u_id)), (b_tp, (arI G 400 v_tp))] sz)) (va_A [(b_o, (oc12 u_th u_sa b_rf b_ro b_im b_ke u_fd b_tp u_td u_fr u_to u_so u_wo u_fa u_bd u_nc b_nl u_co b_op b_ar u_le b_pi b_pa u_pd u_od b_ws b_hw u_la b_se b_re u_bk u_va u_su u_ce u_ho u_wy u_bt u_ps b_pt u_tg u_sn b_ip u_ic b_ah b_be b_me u_wd b_tr b_ld u_st b_wn u_id)), (b_tp, (arI G 400 v_tp))] sz)) 0 0 (va_A [(b_o, (oc12 u_th u_sa b_rf b_ro b_im b_ke u_fd b_tp u_td u_fr u_to u_so u_wo u_fa u_bd u_nc b_nl u_co b_op b_ar u_le b_pi b_pa u_pd u_od b_ws b_hw u_la b_se b_re u_bk u_va u_su u_ce u_ho u_wy u_bt u_ps b_pt u_tg u_sn b_ip u_ic b_ah b_be b_me u_wd b_tr b_ld u_st b_wn u_id)), (b_tp, (arI G 400 v_tp))] sz) := by
  refine Met.ofW (cc := cX12_must) (maxL := 2) (ret := none) (by decide) rfl ?_
  intro p e s m args below meth c s₁ B hml hv
  obtain ⟨rfl, hsz, hP, hK, hD0, hN, hT⟩ := hv
  have hx := B.exec
  have hb := B.bytes
  have hr := B.returns
  have hts : ∀ w ∈ tblG, w.before _ s = true := fun w h => atoms_spec (ws := (wsG yX12_must cX12_must 2 none)) B.pre w (List.mem_cons_of_mem _ h)
  have hown : s.vm.findClass RX12 = some m.cls := findClass_of_methodNamed B.named
  have hlocks := B.notSynchronized
  subst hsz
  have hD := hD0.self (sz := s.heap.size)
  generalize hAe : va_A [(b_o, (oc12 u_th u_sa b_rf b_ro b_im b_ke u_fd b_tp u_td u_fr u_to u_so u_wo u_fa u_bd u_nc b_nl u_co b_op b_ar u_le b_pi b_pa u_pd u_od b_ws b_hw u_la b_se b_re u_bk u_va u_su u_ce u_ho u_wy u_bt u_ps b_pt u_tg u_sn b_ip u_ic b_ah b_be b_me u_wd b_tr b_ld u_st b_wn u_id)), (b_tp, (arI G 400 v_tp))] s.heap.size = A at hD hT ⊢
  have hA : ∀ q : Nat, s.heap.size ≤ q → A q := fun q h => by rw [← hAe]; exact Or.inr h
  have hS : va_S A s.heap s.heap [] := va_S.rf
  have hP : va_P G.1 vwCl [(b_o, (oc12 u_th u_sa b_rf b_ro b_im b_ke u_fd b_tp u_td u_fr u_to u_so u_wo u_fa u_bd u_nc b_nl u_co b_op b_ar u_le b_pi b_pa u_pd u_od b_ws b_hw u_la b_se b_re u_bk u_va u_su u_ce u_ho u_wy u_bt u_ps b_pt u_tg u_sn b_ip u_ic b_ah b_be b_me u_wd b_tr b_ld u_st b_wn u_id)), (b_tp, (arI G 400 v_tp))] s.heap := hP
  have hl := lv_entry ([.ref b_o, .int 1]) (n := 2) (Nat.le_of_ble_eq_true rfl)
  rw [lg_entry_eq]
  generalize (lg_sl ([.ref b_o, .int 1]) ++ List.replicate (2 - (lg_sl ([.ref b_o, .int 1])).length) Slot.unset).toArray = ls at hl ⊢
  have hl : lv_has ls 2 [(0, .ref b_o), (1, .int 1)] := hl
  refine lv_aload_n hx hb dX12_must_0 rfl (lv_at hl 0 rfl) ?_
  refine va_get (D := G.1) (ci := 12) (v := .int u_bd) (C := RX12) (T := TX12) (N := 52) hx hb hts inG_X12 hown hK hP 0 rfl rfl 14 (by decide) (hts _ fl_X12_205) (fun _ h9 => h9) rfl dX12_must_1 ?_
  refine lv_if_ne (tgt := 24) hx hb dX12_must_4 (by decide) (fun c_1 => ?_) (fun c_1 => ?_)
  ·
    have i_1 : u_bd.toInt ≠ 0 := by have z := g5_ne (a := u_bd.toInt) (b := 0) (by rfl) (by decide) c_1; omega
    omega
  ·
    have i_1 : u_bd.toInt = 0 := by have z := g5_neN (a := u_bd.toInt) (b := 0) (by rfl) (by decide) c_1; omega
    refine lv_iload_n hx hb dX12_must_7 rfl (lv_at hl 1 rfl) ?_
    refine lv_if_ne (tgt := 24) hx hb dX12_must_8 (by decide) (fun c_2 => ?_) (fun c_2 => ?_)
    ·
      refine lv_aload_n hx hb dX12_must_24 rfl (lv_at hl 0 rfl) ?_
      refine va_get (D := G.1) (ci := 12) (v := .int u_bd) (C := RX12) (T := TX12) (N := 52) hx hb hts inG_X12 hown hK hP 0 rfl rfl 14 (by decide) (hts _ fl_X12_205) (fun _ h9 => h9) rfl dX12_must_25 ?_
      refine lv_if_ne (tgt := 35) hx hb dX12_must_28 (by decide) (fun c_3 => ?_) (fun c_3 => ?_)
      ·
        have i_3 : u_bd.toInt ≠ 0 := by have z := g5_ne (a := u_bd.toInt) (b := 0) (by rfl) (by decide) c_3; omega
        omega
      ·
        have i_3 : u_bd.toInt = 0 := by have z := g5_neN (a := u_bd.toInt) (b := 0) (by rfl) (by decide) c_3; omega
        refine lv_aload_n hx hb dX12_must_31 rfl (lv_at hl 0 rfl) ?_
        obtain ⟨hPc, hDc, hFc⟩ := g5_sub3 (wc := [(b_o, (oc12 u_th u_sa b_rf b_ro b_im b_ke u_fd b_tp u_td u_fr u_to u_so u_wo u_fa u_bd u_nc b_nl u_co b_op b_ar u_le b_pi b_pa u_pd u_od b_ws b_hw u_la b_se b_re u_bk u_va u_su u_ce u_ho u_wy u_bt u_ps b_pt u_tg u_sn b_ip u_ic b_ah b_be b_me u_wd b_tr b_ld u_st b_wn u_id)), (b_tp, (arI G 400 v_tp))]) hP hD hS hA [0, 1] (by decide) rfl
        refine va_callv (va_runV (As := []) (rest := []) ⟨hx, hb, hml, hown, hts⟩ (n_next l G b_o b_tp b_rf b_ro b_im b_ke b_nl b_op b_ar b_pi b_pa b_ws b_hw b_se b_re b_pt b_ip b_ah b_be b_me b_tr b_ld b_wn s.heap.size u_th u_sa u_fd u_td u_fr u_to u_so u_fa u_bd u_nc u_co u_le u_pd u_od u_la u_bk u_ce u_ho u_wy u_bt u_ps u_tg u_sn u_ic u_wd u_id u_wo u_va u_su u_st v_tp h_u_td h_u_fr h_u_to ⟨by omega, by omega⟩ h_u_nc h_u_co h_u_pd h_u_la h_u_bk h_u_ce h_u_ho h_u_wy h_u_bt h_u_ps h_u_ic h_u_id (by omega)) (cwV 0 hts gV_X12_208 rfl rfl rfl hv_X12_next ⟨Nat.le_of_ble_eq_true rfl, Nat.le_of_ble_eq_true rfl⟩) (g5_preV hPc hK hDc hN hT hS hFc (ci := 12) (q0 := 0) rfl rfl) rfl rfl hl.1 rfl (lv_room (Nat.le_of_ble_eq_true rfl)) dX12_must_32 ⟨Nat.le_of_ble_eq_true rfl, Nat.le_of_ble_eq_true rfl⟩) hS (fun q _ h => hFc q h) hFc (fun u t H1 locs ht hvm hw hB hz1 hk1 hS => ?_)
        obtain ⟨hP1, hD1⟩ := hB
        rw [ht] at hP1
        obtain ⟨z8, z9, z10, z11, i_4, i_5, i_6, i_7, rfl⟩ := hw
        have i_4 : 0 ≤ z8.toInt ∧ z8.toInt ≤ 400 := i_4
        have i_5 : 0 ≤ z9.toInt ∧ z9.toInt ≤ 400 := i_5
        have i_6 : u_to.toInt ≤ z8.toInt ∧ z8.toInt ≤ z9.toInt ∧ z9.toInt ≤ u_td.toInt := i_6
        have i_7 : TKs z10.toInt z8.toInt z9.toInt := i_7
        obtain ⟨hP, hD⟩ := va_join (wr := []) hP hD [0, 1] [] rfl rfl (by decide) (by decide) hk1 hFc hP1 hD1
        generalize H1 = H at hP hS ⊢
        refine g5_rs [(b_o, (oc12 u_th u_sa b_rf b_ro b_im b_ke u_fd b_tp u_td z8 z9 z10 z11 u_fa u_bd u_nc b_nl u_co b_op b_ar u_le b_pi b_pa u_pd u_od b_ws b_hw u_la b_se b_re u_bk u_va u_su u_ce u_ho u_wy u_bt u_ps b_pt u_tg u_sn b_ip u_ic b_ah b_be b_me u_wd b_tr b_ld u_st b_wn u_id)), (b_tp, (arI G 400 v_tp))] hP hD (fun hP hD => ?_)
        exact W.vret hx hb hr (fun t ht hW => ⟨⟨[(b_o, (oc12 u_th u_sa b_rf b_ro b_im b_ke u_fd b_tp u_td z8 z9 z10 z11 u_fa u_bd u_nc b_nl u_co b_op b_ar u_le b_pi b_pa u_pd u_od b_ws b_hw u_la b_se b_re u_bk u_va u_su u_ce u_ho u_wy u_bt u_ps b_pt u_tg u_sn b_ip u_ic b_ah b_be b_me u_wd b_tr b_ld u_st b_wn u_id)), (b_tp, (arI G 400 v_tp))], rfl, ⟨z8, z9, z10, z11, i_4, i_5, by omega, i_7, rfl⟩, by rw [ht]; exact hP.sub [0, 1] rfl, hD.sub [0, 1] (by decide) rfl⟩, hS.F ht⟩) hS.2.2 dX12_must_35
    ·
      exact absurd c_2 (by decide)
set_option maxHeartbeats 4000000 in
set_option maxRecDepth 100000 in
theorem n_must0 (l : Launch) (G : g5_G) (b_o b_tp b_rf b_ro b_im b_ke b_nl b_op b_ar b_pi b_pa b_ws b_hw b_se b_re b_pt b_ip b_ah b_be b_me b_tr b_ld b_wn : Nat) (sz : Nat) (u_th : Int32) (u_sa : Int32) (u_fd : Int32) (u_td : Int32) (u_fr : Int32) (u_to : Int32) (u_so : Int32) (u_fa : Int32) (u_bd : Int32) (u_nc : Int32) (u_co : Int32) (u_le : Int32) (u_pd : Int32) (u_od : Int32) (u_la : Int32) (u_bk : Int32) (u_ce : Int32) (u_ho : Int32) (u_wy : Int32) (u_bt : Int32) (u_ps : Int32) (u_tg : Int32) (u_sn : Int32) (u_ic : Int32) (u_wd : Int32) (u_id : Int32) (u_wo : Int64) (u_va : Int64) (u_su : Int64) (u_st : Int64) (v_tp : Nat → Int32) (h_u_td : 0 ≤ u_td.toInt ∧ u_td.toInt ≤ 400) (h_u_fr : 0 ≤ u_fr.toInt ∧ u_fr.toInt ≤ 400) (h_u_to : 0 ≤ u_to.toInt ∧ u_to.toInt ≤ 400) (h_u_bd : 0 ≤ u_bd.toInt ∧ u_bd.toInt ≤ 0) (h_u_nc : 0 ≤ u_nc.toInt ∧ u_nc.toInt ≤ 12) (h_u_co : 0 ≤ u_co.toInt ∧ u_co.toInt ≤ 400) (h_u_pd : 0 ≤ u_pd.toInt ∧ u_pd.toInt ≤ 400) (h_u_la : 0 ≤ u_la.toInt ∧ u_la.toInt ≤ 4840) (h_u_bk : 0 ≤ u_bk.toInt ∧ u_bk.toInt ≤ 1) (h_u_ce : 0 ≤ u_ce.toInt ∧ u_ce.toInt ≤ 63) (h_u_ho : 0 ≤ u_ho.toInt ∧ u_ho.toInt ≤ 23) (h_u_wy : 0 ≤ u_wy.toInt ∧ u_wy.toInt ≤ 3) (h_u_bt : 0 ≤ u_bt.toInt ∧ u_bt.toInt ≤ 1000000) (h_u_ps : 0 ≤ u_ps.toInt ∧ u_ps.toInt ≤ 200) (h_u_ic : 0 ≤ u_ic.toInt ∧ u_ic.toInt ≤ 1) (h_u_id : 0 ≤ u_id.toInt ∧ u_id.toInt ≤ 1) : Met l yX12_must (wsG yX12_must cX12_must 2 none) ({ frames := 0, cells := 0, slots := 0, locals := 0 }) (va_Pc [.ref b_o, .int 0] (g5_P G [(b_o, (oc12 u_th u_sa b_rf b_ro b_im b_ke u_fd b_tp u_td u_fr u_to u_so u_wo u_fa u_bd u_nc b_nl u_co b_op b_ar u_le b_pi b_pa u_pd u_od b_ws b_hw u_la b_se b_re u_bk u_va u_su u_ce u_ho u_wy u_bt u_ps b_pt u_tg u_sn b_ip u_ic b_ah b_be b_me u_wd b_tr b_ld u_st b_wn u_id)), (b_tp, (arI G 400 v_tp))] sz)) (va_Qv (fun (u : va_W) => ((u = [(b_o, (oc12 u_th u_sa b_rf b_ro b_im b_ke u_fd b_tp u_td u_fr u_to u_so u_wo u_fr 1 u_nc b_nl u_co b_op b_ar u_le b_pi b_pa u_pd u_od b_ws b_hw u_la b_se b_re u_bk u_va u_su u_ce u_ho u_wy u_bt u_ps b_pt u_tg u_sn b_ip u_ic b_ah b_be b_me u_wd b_tr b_ld u_st b_wn u_id)), (b_tp, (arI G 400 v_tp))]))) (g5_B G (va_A [(b_o, (oc12 u_th u_sa b_rf b_ro b_im b_ke u_fd b_tp u_td u_fr u_to u_so u_wo u_fa u_bd u_nc b_nl u_co b_op b_ar u_le b_pi b_pa u_pd u_od b_ws b_hw u_la b_se b_re u_bk u_va u_su u_ce u_ho u_wy u_bt u_ps b_pt u_tg u_sn b_ip u_ic b_ah b_be b_me u_wd b_tr b_ld u_st b_wn u_id)), (b_tp, (arI G 400 v_tp))] sz)) (va_A [(b_o, (oc12 u_th u_sa b_rf b_ro b_im b_ke u_fd b_tp u_td u_fr u_to u_so u_wo u_fa u_bd u_nc b_nl u_co b_op b_ar u_le b_pi b_pa u_pd u_od b_ws b_hw u_la b_se b_re u_bk u_va u_su u_ce u_ho u_wy u_bt u_ps b_pt u_tg u_sn b_ip u_ic b_ah b_be b_me u_wd b_tr b_ld u_st b_wn u_id)), (b_tp, (arI G 400 v_tp))] sz)) 0 0 (va_A [(b_o, (oc12 u_th u_sa b_rf b_ro b_im b_ke u_fd b_tp u_td u_fr u_to u_so u_wo u_fa u_bd u_nc b_nl u_co b_op b_ar u_le b_pi b_pa u_pd u_od b_ws b_hw u_la b_se b_re u_bk u_va u_su u_ce u_ho u_wy u_bt u_ps b_pt u_tg u_sn b_ip u_ic b_ah b_be b_me u_wd b_tr b_ld u_st b_wn u_id)), (b_tp, (arI G 400 v_tp))] sz) := by
  refine Met.ofW (cc := cX12_must) (maxL := 2) (ret := none) (by decide) rfl ?_
  intro p e s m args below meth c s₁ B hml hv
  obtain ⟨rfl, hsz, hP, hK, hD0, hN, hT⟩ := hv
  have hx := B.exec
  have hb := B.bytes
  have hr := B.returns
  have hts : ∀ w ∈ tblG, w.before _ s = true := fun w h => atoms_spec (ws := (wsG yX12_must cX12_must 2 none)) B.pre w (List.mem_cons_of_mem _ h)
  have hown : s.vm.findClass RX12 = some m.cls := findClass_of_methodNamed B.named
  have hlocks := B.notSynchronized
  subst hsz
  have hD := hD0.self (sz := s.heap.size)
  generalize hAe : va_A [(b_o, (oc12 u_th u_sa b_rf b_ro b_im b_ke u_fd b_tp u_td u_fr u_to u_so u_wo u_fa u_bd u_nc b_nl u_co b_op b_ar u_le b_pi b_pa u_pd u_od b_ws b_hw u_la b_se b_re u_bk u_va u_su u_ce u_ho u_wy u_bt u_ps b_pt u_tg u_sn b_ip u_ic b_ah b_be b_me u_wd b_tr b_ld u_st b_wn u_id)), (b_tp, (arI G 400 v_tp))] s.heap.size = A at hD hT ⊢
  have hA : ∀ q : Nat, s.heap.size ≤ q → A q := fun q h => by rw [← hAe]; exact Or.inr h
  have hS : va_S A s.heap s.heap [] := va_S.rf
  have hP : va_P G.1 vwCl [(b_o, (oc12 u_th u_sa b_rf b_ro b_im b_ke u_fd b_tp u_td u_fr u_to u_so u_wo u_fa u_bd u_nc b_nl u_co b_op b_ar u_le b_pi b_pa u_pd u_od b_ws b_hw u_la b_se b_re u_bk u_va u_su u_ce u_ho u_wy u_bt u_ps b_pt u_tg u_sn b_ip u_ic b_ah b_be b_me u_wd b_tr b_ld u_st b_wn u_id)), (b_tp, (arI G 400 v_tp))] s.heap := hP
  have hl := lv_entry ([.ref b_o, .int 0]) (n := 2) (Nat.le_of_ble_eq_true rfl)
  rw [lg_entry_eq]
  generalize (lg_sl ([.ref b_o, .int 0]) ++ List.replicate (2 - (lg_sl ([.ref b_o, .int 0])).length) Slot.unset).toArray = ls at hl ⊢
  have hl : lv_has ls 2 [(0, .ref b_o), (1, .int 0)] := hl
  refine lv_aload_n hx hb dX12_must_0 rfl (lv_at hl 0 rfl) ?_
  refine va_get (D := G.1) (ci := 12) (v := .int u_bd) (C := RX12) (T := TX12) (N := 52) hx hb hts inG_X12 hown hK hP 0 rfl rfl 14 (by decide) (hts _ fl_X12_205) (fun _ h9 => h9) rfl dX12_must_1 ?_
  refine lv_if_ne (tgt := 24) hx hb dX12_must_4 (by decide) (fun c_1 => ?_) (fun c_1 => ?_)
  ·
    have i_1 : u_bd.toInt ≠ 0 := by have z := g5_ne (a := u_bd.toInt) (b := 0) (by rfl) (by decide) c_1; omega
    omega
  ·
    have i_1 : u_bd.toInt = 0 := by have z := g5_neN (a := u_bd.toInt) (b := 0) (by rfl) (by decide) c_1; omega
    refine lv_iload_n hx hb dX12_must_7 rfl (lv_at hl 1 rfl) ?_
    refine lv_if_ne (tgt := 24) hx hb dX12_must_8 (by decide) (fun c_2 => ?_) (fun c_2 => ?_)
    ·
      exact absurd c_2 (by decide)
    ·
      refine lv_aload_n hx hb dX12_must_11 rfl (lv_at hl 0 rfl) ?_
      refine lv_iconst (v := 1) hx hb dX12_must_12 (by decide) ?_
      refine va_put (D := G.1) (ci := 12) (v := .int 1) (ty := .boolean) (C := RX12) (T := TX12) (N := 52) hx hb hts inG_X12 tyX12 tyX12_ok nmX12 hown hK hP hD hS 0 rfl rfl 14 (by decide) (hts _ fl_X12_205) (fun _ h9 => h9) rfl (by decide +kernel) rfl rfl (Nat.le_of_ble_eq_true rfl) dX12_must_13 (fun H locs hP hD hS => ?_)
      refine g5_rs [(b_o, (oc12 u_th u_sa b_rf b_ro b_im b_ke u_fd b_tp u_td u_fr u_to u_so u_wo u_fa 1 u_nc b_nl u_co b_op b_ar u_le b_pi b_pa u_pd u_od b_ws b_hw u_la b_se b_re u_bk u_va u_su u_ce u_ho u_wy u_bt u_ps b_pt u_tg u_sn b_ip u_ic b_ah b_be b_me u_wd b_tr b_ld u_st b_wn u_id)), (b_tp, (arI G 400 v_tp))] hP hD (fun hP hD => ?_)
      refine lv_aload_n hx hb dX12_must_16 rfl (lv_at hl 0 rfl) ?_
      refine lv_aload_n hx hb dX12_must_17 rfl (lv_at hl 0 rfl) ?_
      refine va_get (D := G.1) (ci := 12) (v := .int u_fr) (C := RX12) (T := TX12) (N := 52) hx hb hts inG_X12 hown hK hP 0 rfl rfl 9 (by decide) (hts _ fl_X12_211) (fun _ h9 => h9) rfl dX12_must_18 ?_
      refine va_put (D := G.1) (ci := 12) (v := .int u_fr) (ty := .int) (C := RX12) (T := TX12) (N := 52) hx hb hts inG_X12 tyX12 tyX12_ok nmX12 hown hK hP hD hS 0 rfl rfl 13 (by decide) (hts _ fl_X12_26) (fun _ h9 => h9) rfl (by decide +kernel) rfl rfl (Nat.le_of_ble_eq_true rfl) dX12_must_21 (fun H locs hP hD hS => ?_)
      refine g5_rs [(b_o, (oc12 u_th u_sa b_rf b_ro b_im b_ke u_fd b_tp u_td u_fr u_to u_so u_wo u_fr 1 u_nc b_nl u_co b_op b_ar u_le b_pi b_pa u_pd u_od b_ws b_hw u_la b_se b_re u_bk u_va u_su u_ce u_ho u_wy u_bt u_ps b_pt u_tg u_sn b_ip u_ic b_ah b_be b_me u_wd b_tr b_ld u_st b_wn u_id)), (b_tp, (arI G 400 v_tp))] hP hD (fun hP hD => ?_)
      refine lv_aload_n hx hb dX12_must_24 rfl (lv_at hl 0 rfl) ?_
      refine va_get (D := G.1) (ci := 12) (v := .int 1) (C := RX12) (T := TX12) (N := 52) hx hb hts inG_X12 hown hK hP 0 rfl rfl 14 (by decide) (hts _ fl_X12_205) (fun _ h9 => h9) rfl dX12_must_25 ?_
      refine lv_if_ne (tgt := 35) hx hb dX12_must_28 (by decide) (fun c_3 => ?_) (fun c_3 => ?_)
      ·
        exact W.vret hx hb hr (fun t ht hW => ⟨⟨[(b_o, (oc12 u_th u_sa b_rf b_ro b_im b_ke u_fd b_tp u_td u_fr u_to u_so u_wo u_fr 1 u_nc b_nl u_co b_op b_ar u_le b_pi b_pa u_pd u_od b_ws b_hw u_la b_se b_re u_bk u_va u_su u_ce u_ho u_wy u_bt u_ps b_pt u_tg u_sn b_ip u_ic b_ah b_be b_me u_wd b_tr b_ld u_st b_wn u_id)), (b_tp, (arI G 400 v_tp))], rfl, rfl, by rw [ht]; exact hP.sub [0, 1] rfl, hD.sub [0, 1] (by decide) rfl⟩, hS.F ht⟩) hS.2.2 dX12_must_35
      ·
        exact absurd c_3 (by decide)
theorem dgX12_emit_0 : ∀ r ∈ ([(0, (.aload_n 0, 1)), (1, (.getfield 33, 3)), (4, (.aload_n 0, 1)), (5, (.getfield 237, 3)), (8, (.iload_n 1, 1)), (9, (.iastore, 1)), (10, (.aload_n 0, 1)), (11, (.getfield 36, 3)), (14, (.aload_n 0, 1)), (15, (.getfield 237, 3)), (18, (.iload_n 2, 1)), (19, (.iastore, 1)), (20, (.aload_n 0, 1)), (21, (.dup, 1)), (22, (.getfield 237, 3)), (25, (.iconst 1, 1)), (26, (.iadd, 1)), (27, (.putfield 237, 3)), (30, (.return_, 1))] : List (Nat × (Instr × Nat))), decode cX12_emit r.1 = .ok r.2 := by decide +kernel
theorem dX12_emit_0 : decode cX12_emit 0 = .ok (.aload_n 0, 1) := dgX12_emit_0 (0, (.aload_n 0, 1)) (List.mem_of_getElem? (i := 0) rfl)
theorem dX12_emit_1 : decode cX12_emit 1 = .ok (.getfield 33, 3) := dgX12_emit_0 (1, (.getfield 33, 3)) (List.mem_of_getElem? (i := 1) rfl)
theorem dX12_emit_4 : decode cX12_emit 4 = .ok (.aload_n 0, 1) := dgX12_emit_0 (4, (.aload_n 0, 1)) (List.mem_of_getElem? (i := 2) rfl)
theorem dX12_emit_5 : decode cX12_emit 5 = .ok (.getfield 237, 3) := dgX12_emit_0 (5, (.getfield 237, 3)) (List.mem_of_getElem? (i := 3) rfl)
theorem dX12_emit_8 : decode cX12_emit 8 = .ok (.iload_n 1, 1) := dgX12_emit_0 (8, (.iload_n 1, 1)) (List.mem_of_getElem? (i := 4) rfl)
theorem dX12_emit_9 : decode cX12_emit 9 = .ok (.iastore, 1) := dgX12_emit_0 (9, (.iastore, 1)) (List.mem_of_getElem? (i := 5) rfl)
theorem dX12_emit_10 : decode cX12_emit 10 = .ok (.aload_n 0, 1) := dgX12_emit_0 (10, (.aload_n 0, 1)) (List.mem_of_getElem? (i := 6) rfl)
theorem dX12_emit_11 : decode cX12_emit 11 = .ok (.getfield 36, 3) := dgX12_emit_0 (11, (.getfield 36, 3)) (List.mem_of_getElem? (i := 7) rfl)
theorem dX12_emit_14 : decode cX12_emit 14 = .ok (.aload_n 0, 1) := dgX12_emit_0 (14, (.aload_n 0, 1)) (List.mem_of_getElem? (i := 8) rfl)
theorem dX12_emit_15 : decode cX12_emit 15 = .ok (.getfield 237, 3) := dgX12_emit_0 (15, (.getfield 237, 3)) (List.mem_of_getElem? (i := 9) rfl)
theorem dX12_emit_18 : decode cX12_emit 18 = .ok (.iload_n 2, 1) := dgX12_emit_0 (18, (.iload_n 2, 1)) (List.mem_of_getElem? (i := 10) rfl)
theorem dX12_emit_19 : decode cX12_emit 19 = .ok (.iastore, 1) := dgX12_emit_0 (19, (.iastore, 1)) (List.mem_of_getElem? (i := 11) rfl)
theorem dX12_emit_20 : decode cX12_emit 20 = .ok (.aload_n 0, 1) := dgX12_emit_0 (20, (.aload_n 0, 1)) (List.mem_of_getElem? (i := 12) rfl)
theorem dX12_emit_21 : decode cX12_emit 21 = .ok (.dup, 1) := dgX12_emit_0 (21, (.dup, 1)) (List.mem_of_getElem? (i := 13) rfl)
theorem dX12_emit_22 : decode cX12_emit 22 = .ok (.getfield 237, 3) := dgX12_emit_0 (22, (.getfield 237, 3)) (List.mem_of_getElem? (i := 14) rfl)
theorem dX12_emit_25 : decode cX12_emit 25 = .ok (.iconst 1, 1) := dgX12_emit_0 (25, (.iconst 1, 1)) (List.mem_of_getElem? (i := 15) rfl)
theorem dX12_emit_26 : decode cX12_emit 26 = .ok (.iadd, 1) := dgX12_emit_0 (26, (.iadd, 1)) (List.mem_of_getElem? (i := 16) rfl)
theorem dX12_emit_27 : decode cX12_emit 27 = .ok (.putfield 237, 3) := dgX12_emit_0 (27, (.putfield 237, 3)) (List.mem_of_getElem? (i := 17) rfl)
theorem dX12_emit_30 : decode cX12_emit 30 = .ok (.return_, 1) := dgX12_emit_0 (30, (.return_, 1)) (List.mem_of_getElem? (i := 18) rfl)
theorem fl_X12_33 : Cond.fieldLink RX12 33 "LateGlassModel" "nOp" "[I" ∈ tblG := tg 1221 (by decide +kernel) (by decide +kernel)
theorem fl_X12_237 : Cond.fieldLink RX12 237 "LateGlassModel" "nCode" "I" ∈ tblG := tg 1220 (by decide +kernel) (by decide +kernel)
theorem fl_X12_36 : Cond.fieldLink RX12 36 "LateGlassModel" "nArg" "[I" ∈ tblG := tg 1222 (by decide +kernel) (by decide +kernel)
set_option maxHeartbeats 4000000 in
set_option maxRecDepth 100000 in
theorem n_emit (l : Launch) (G : g5_G) (b_o b_op b_ar b_rf b_ro b_im b_ke b_tp b_nl b_pi b_pa b_ws b_hw b_se b_re b_pt b_ip b_ah b_be b_me b_tr b_ld b_wn : Nat) (sz : Nat) (u_th : Int32) (u_sa : Int32) (u_fd : Int32) (u_td : Int32) (u_fr : Int32) (u_to : Int32) (u_so : Int32) (u_fa : Int32) (u_bd : Int32) (u_nc : Int32) (u_co : Int32) (u_le : Int32) (u_pd : Int32) (u_od : Int32) (u_la : Int32) (u_bk : Int32) (u_ce : Int32) (u_ho : Int32) (u_wy : Int32) (u_bt : Int32) (u_ps : Int32) (u_tg : Int32) (u_sn : Int32) (u_ic : Int32) (u_wd : Int32) (u_id : Int32) (p_1 : Int32) (p_2 : Int32) (u_wo : Int64) (u_va : Int64) (u_su : Int64) (u_st : Int64) (v_op : Nat → Int32) (v_ar : Nat → Int32) (h_u_td : 0 ≤ u_td.toInt ∧ u_td.toInt ≤ 400) (h_u_fr : 0 ≤ u_fr.toInt ∧ u_fr.toInt ≤ 400) (h_u_to : 0 ≤ u_to.toInt ∧ u_to.toInt ≤ 400) (h_u_bd : 0 ≤ u_bd.toInt ∧ u_bd.toInt ≤ 1) (h_u_nc : 0 ≤ u_nc.toInt ∧ u_nc.toInt ≤ 12) (h_u_co : 0 ≤ u_co.toInt ∧ u_co.toInt ≤ 400) (h_u_pd : 0 ≤ u_pd.toInt ∧ u_pd.toInt ≤ 400) (h_u_la : 0 ≤ u_la.toInt ∧ u_la.toInt ≤ 4840) (h_u_bk : 0 ≤ u_bk.toInt ∧ u_bk.toInt ≤ 1) (h_u_ce : 0 ≤ u_ce.toInt ∧ u_ce.toInt ≤ 63) (h_u_ho : 0 ≤ u_ho.toInt ∧ u_ho.toInt ≤ 23) (h_u_wy : 0 ≤ u_wy.toInt ∧ u_wy.toInt ≤ 3) (h_u_bt : 0 ≤ u_bt.toInt ∧ u_bt.toInt ≤ 1000000) (h_u_ps : 0 ≤ u_ps.toInt ∧ u_ps.toInt ≤ 200) (h_u_ic : 0 ≤ u_ic.toInt ∧ u_ic.toInt ≤ 1) (h_u_id : 0 ≤ u_id.toInt ∧ u_id.toInt ≤ 1) (e_c : u_co.toInt < 400) : Met l yX12_emit (wsG yX12_emit cX12_emit 3 none) ({ frames := 0, cells := 0, slots := 0, locals := 0 }) (va_Pc [.ref b_o, .int p_1, .int p_2] (g5_P G [(b_o, (oc12 u_th u_sa b_rf b_ro b_im b_ke u_fd b_tp u_td u_fr u_to u_so u_wo u_fa u_bd u_nc b_nl u_co b_op b_ar u_le b_pi b_pa u_pd u_od b_ws b_hw u_la b_se b_re u_bk u_va u_su u_ce u_ho u_wy u_bt u_ps b_pt u_tg u_sn b_ip u_ic b_ah b_be b_me u_wd b_tr b_ld u_st b_wn u_id)), (b_op, (arI G 400 v_op)), (b_ar, (arI G 400 v_ar))] sz)) (va_Qv (fun (u : va_W) => (∃ (o_co : Int32), (0 ≤ o_co.toInt ∧ o_co.toInt ≤ 400) ∧ (o_co.toInt = u_co.toInt + 1) ∧ (u = [(b_o, (oc12 u_th u_sa b_rf b_ro b_im b_ke u_fd b_tp u_td u_fr u_to u_so u_wo u_fa u_bd u_nc b_nl o_co b_op b_ar u_le b_pi b_pa u_pd u_od b_ws b_hw u_la b_se b_re u_bk u_va u_su u_ce u_ho u_wy u_bt u_ps b_pt u_tg u_sn b_ip u_ic b_ah b_be b_me u_wd b_tr b_ld u_st b_wn u_id)), (b_op, (arI G 400 (upd v_op u_co.toNatClampNeg p_1))), (b_ar, (arI G 400 (upd v_ar u_co.toNatClampNeg p_2)))]))) (g5_B G (va_A [(b_o, (oc12 u_th u_sa b_rf b_ro b_im b_ke u_fd b_tp u_td u_fr u_to u_so u_wo u_fa u_bd u_nc b_nl u_co b_op b_ar u_le b_pi b_pa u_pd u_od b_ws b_hw u_la b_se b_re u_bk u_va u_su u_ce u_ho u_wy u_bt u_ps b_pt u_tg u_sn b_ip u_ic b_ah b_be b_me u_wd b_tr b_ld u_st b_wn u_id)), (b_op, (arI G 400 v_op)), (b_ar, (arI G 400 v_ar))] sz)) (va_A [(b_o, (oc12 u_th u_sa b_rf b_ro b_im b_ke u_fd b_tp u_td u_fr u_to u_so u_wo u_fa u_bd u_nc b_nl u_co b_op b_ar u_le b_pi b_pa u_pd u_od b_ws b_hw u_la b_se b_re u_bk u_va u_su u_ce u_ho u_wy u_bt u_ps b_pt u_tg u_sn b_ip u_ic b_ah b_be b_me u_wd b_tr b_ld u_st b_wn u_id)), (b_op, (arI G 400 v_op)), (b_ar, (arI G 400 v_ar))] sz)) 0 0 (va_A [(b_o, (oc12 u_th u_sa b_rf b_ro b_im b_ke u_fd b_tp u_td u_fr u_to u_so u_wo u_fa u_bd u_nc b_nl u_co b_op b_ar u_le b_pi b_pa u_pd u_od b_ws b_hw u_la b_se b_re u_bk u_va u_su u_ce u_ho u_wy u_bt u_ps b_pt u_tg u_sn b_ip u_ic b_ah b_be b_me u_wd b_tr b_ld u_st b_wn u_id)), (b_op, (arI G 400 v_op)), (b_ar, (arI G 400 v_ar))] sz) := by
  refine Met.ofW (cc := cX12_emit) (maxL := 3) (ret := none) (by decide) rfl ?_
  intro p e s m args below meth c s₁ B hml hv
  obtain ⟨rfl, hsz, hP, hK, hD0, hN, hT⟩ := hv
  have hx := B.exec
  have hb := B.bytes
  have hr := B.returns
  have hts : ∀ w ∈ tblG, w.before _ s = true := fun w h => atoms_spec (ws := (wsG yX12_emit cX12_emit 3 none)) B.pre w (List.mem_cons_of_mem _ h)
  have hown : s.vm.findClass RX12 = some m.cls := findClass_of_methodNamed B.named
  have hlocks := B.notSynchronized
  subst hsz
  have hD := hD0.self (sz := s.heap.size)
  generalize hAe : va_A [(b_o, (oc12 u_th u_sa b_rf b_ro b_im b_ke u_fd b_tp u_td u_fr u_to u_so u_wo u_fa u_bd u_nc b_nl u_co b_op b_ar u_le b_pi b_pa u_pd u_od b_ws b_hw u_la b_se b_re u_bk u_va u_su u_ce u_ho u_wy u_bt u_ps b_pt u_tg u_sn b_ip u_ic b_ah b_be b_me u_wd b_tr b_ld u_st b_wn u_id)), (b_op, (arI G 400 v_op)), (b_ar, (arI G 400 v_ar))] s.heap.size = A at hD hT ⊢
  have hA : ∀ q : Nat, s.heap.size ≤ q → A q := fun q h => by rw [← hAe]; exact Or.inr h
  have hS : va_S A s.heap s.heap [] := va_S.rf
  have hP : va_P G.1 vwCl [(b_o, (oc12 u_th u_sa b_rf b_ro b_im b_ke u_fd b_tp u_td u_fr u_to u_so u_wo u_fa u_bd u_nc b_nl u_co b_op b_ar u_le b_pi b_pa u_pd u_od b_ws b_hw u_la b_se b_re u_bk u_va u_su u_ce u_ho u_wy u_bt u_ps b_pt u_tg u_sn b_ip u_ic b_ah b_be b_me u_wd b_tr b_ld u_st b_wn u_id)), (b_op, (arI G 400 v_op)), (b_ar, (arI G 400 v_ar))] s.heap := hP
  have hl := lv_entry ([.ref b_o, .int p_1, .int p_2]) (n := 3) (Nat.le_of_ble_eq_true rfl)
  rw [lg_entry_eq]
  generalize (lg_sl ([.ref b_o, .int p_1, .int p_2]) ++ List.replicate (3 - (lg_sl ([.ref b_o, .int p_1, .int p_2])).length) Slot.unset).toArray = ls at hl ⊢
  have hl : lv_has ls 3 [(0, .ref b_o), (1, .int p_1), (2, .int p_2)] := hl
  refine lv_aload_n hx hb dX12_emit_0 rfl (lv_at hl 0 rfl) ?_
  refine va_get (D := G.1) (ci := 12) (v := .ref b_op) (C := RX12) (T := TX12) (N := 52) hx hb hts inG_X12 hown hK hP 0 rfl rfl 18 (by decide) (hts _ fl_X12_33) (fun _ h9 => h9) rfl dX12_emit_1 ?_
  refine lv_aload_n hx hb dX12_emit_4 rfl (lv_at hl 0 rfl) ?_
  refine va_get (D := G.1) (ci := 12) (v := .int u_co) (C := RX12) (T := TX12) (N := 52) hx hb hts inG_X12 hown hK hP 0 rfl rfl 17 (by decide) (hts _ fl_X12_237) (fun _ h9 => h9) rfl dX12_emit_5 ?_
  refine lv_iload_n hx hb dX12_emit_8 rfl (lv_at hl 1 rfl) ?_
  refine va_iast hx hb hK hP hD hS 1 0 rfl rfl (i := u_co) (x := p_1) (vp_in_iff.mpr ⟨by omega, by omega⟩) dX12_emit_9 (fun H locs hP hD hS => ?_)
  refine g5_rs [(b_o, (oc12 u_th u_sa b_rf b_ro b_im b_ke u_fd b_tp u_td u_fr u_to u_so u_wo u_fa u_bd u_nc b_nl u_co b_op b_ar u_le b_pi b_pa u_pd u_od b_ws b_hw u_la b_se b_re u_bk u_va u_su u_ce u_ho u_wy u_bt u_ps b_pt u_tg u_sn b_ip u_ic b_ah b_be b_me u_wd b_tr b_ld u_st b_wn u_id)), (b_op, (arI G 400 (upd v_op u_co.toNatClampNeg p_1))), (b_ar, (arI G 400 v_ar))] hP hD (fun hP hD => ?_)
  refine lv_aload_n hx hb dX12_emit_10 rfl (lv_at hl 0 rfl) ?_
  refine va_get (D := G.1) (ci := 12) (v := .ref b_ar) (C := RX12) (T := TX12) (N := 52) hx hb hts inG_X12 hown hK hP 0 rfl rfl 19 (by decide) (hts _ fl_X12_36) (fun _ h9 => h9) rfl dX12_emit_11 ?_
  refine lv_aload_n hx hb dX12_emit_14 rfl (lv_at hl 0 rfl) ?_
  refine va_get (D := G.1) (ci := 12) (v := .int u_co) (C := RX12) (T := TX12) (N := 52) hx hb hts inG_X12 hown hK hP 0 rfl rfl 17 (by decide) (hts _ fl_X12_237) (fun _ h9 => h9) rfl dX12_emit_15 ?_
  refine lv_iload_n hx hb dX12_emit_18 rfl (lv_at hl 2 rfl) ?_
  refine va_iast hx hb hK hP hD hS 2 0 rfl rfl (i := u_co) (x := p_2) (vp_in_iff.mpr ⟨by omega, by omega⟩) dX12_emit_19 (fun H locs hP hD hS => ?_)
  refine g5_rs [(b_o, (oc12 u_th u_sa b_rf b_ro b_im b_ke u_fd b_tp u_td u_fr u_to u_so u_wo u_fa u_bd u_nc b_nl u_co b_op b_ar u_le b_pi b_pa u_pd u_od b_ws b_hw u_la b_se b_re u_bk u_va u_su u_ce u_ho u_wy u_bt u_ps b_pt u_tg u_sn b_ip u_ic b_ah b_be b_me u_wd b_tr b_ld u_st b_wn u_id)), (b_op, (arI G 400 (upd v_op u_co.toNatClampNeg p_1))), (b_ar, (arI G 400 (upd v_ar u_co.toNatClampNeg p_2)))] hP hD (fun hP hD => ?_)
  refine lv_aload_n hx hb dX12_emit_20 rfl (lv_at hl 0 rfl) ?_
  refine lv_dup hx hb dX12_emit_21 rfl ?_
  refine va_get (D := G.1) (ci := 12) (v := .int u_co) (C := RX12) (T := TX12) (N := 52) hx hb hts inG_X12 hown hK hP 0 rfl rfl 17 (by decide) (hts _ fl_X12_237) (fun _ h9 => h9) rfl dX12_emit_22 ?_
  refine lv_iconst (v := 1) hx hb dX12_emit_25 (by decide) ?_
  refine lv_iadd hx hb dX12_emit_26 ?_
  have t_1 : (u_co + 1).toInt = u_co.toInt + 1 := g5_iadd (a := u_co.toInt) (b := 1) (by rfl) (by decide) (by omega) (by omega)
  refine va_put (D := G.1) (ci := 12) (v := .int (u_co + 1)) (ty := .int) (C := RX12) (T := TX12) (N := 52) hx hb hts inG_X12 tyX12 tyX12_ok nmX12 hown hK hP hD hS 0 rfl rfl 17 (by decide) (hts _ fl_X12_237) (fun _ h9 => h9) rfl (by decide +kernel) rfl rfl (Nat.le_of_ble_eq_true rfl) dX12_emit_27 (fun H locs hP hD hS => ?_)
  refine g5_rs [(b_o, (oc12 u_th u_sa b_rf b_ro b_im b_ke u_fd b_tp u_td u_fr u_to u_so u_wo u_fa u_bd u_nc b_nl (u_co + 1) b_op b_ar u_le b_pi b_pa u_pd u_od b_ws b_hw u_la b_se b_re u_bk u_va u_su u_ce u_ho u_wy u_bt u_ps b_pt u_tg u_sn b_ip u_ic b_ah b_be b_me u_wd b_tr b_ld u_st b_wn u_id)), (b_op, (arI G 400 (upd v_op u_co.toNatClampNeg p_1))), (b_ar, (arI G 400 (upd v_ar u_co.toNatClampNeg p_2)))] hP hD (fun hP hD => ?_)
  exact W.vret hx hb hr (fun t ht hW => ⟨⟨[(b_o, (oc12 u_th u_sa b_rf b_ro b_im b_ke u_fd b_tp u_td u_fr u_to u_so u_wo u_fa u_bd u_nc b_nl (u_co + 1) b_op b_ar u_le b_pi b_pa u_pd u_od b_ws b_hw u_la b_se b_re u_bk u_va u_su u_ce u_ho u_wy u_bt u_ps b_pt u_tg u_sn b_ip u_ic b_ah b_be b_me u_wd b_tr b_ld u_st b_wn u_id)), (b_op, (arI G 400 (upd v_op u_co.toNatClampNeg p_1))), (b_ar, (arI G 400 (upd v_ar u_co.toNatClampNeg p_2)))], rfl, ⟨(u_co + 1), ⟨by omega, by omega⟩, by omega, rfl⟩, by rw [ht]; exact hP.sub [0, 1, 2] rfl, hD.sub [0, 1, 2] (by decide) rfl⟩, hS.F ht⟩) hS.2.2 dX12_emit_30
theorem dgX12_push_0 : ∀ r ∈ ([(0, (.aload_n 0, 1)), (1, (.getfield 39, 3)), (4, (.aload_n 0, 1)), (5, (.getfield 240, 3)), (8, (.iload_n 1, 1)), (9, (.iastore, 1)), (10, (.aload_n 0, 1)), (11, (.getfield 42, 3)), (14, (.aload_n 0, 1)), (15, (.getfield 240, 3)), (18, (.iload_n 2, 1)), (19, (.iastore, 1)), (20, (.aload_n 0, 1)), (21, (.dup, 1)), (22, (.getfield 240, 3)), (25, (.iconst 1, 1)), (26, (.iadd, 1)), (27, (.putfield 240, 3)), (30, (.return_, 1))] : List (Nat × (Instr × Nat))), decode cX12_push r.1 = .ok r.2 := by decide +kernel
theorem dX12_push_0 : decode cX12_push 0 = .ok (.aload_n 0, 1) := dgX12_push_0 (0, (.aload_n 0, 1)) (List.mem_of_getElem? (i := 0) rfl)
theorem dX12_push_1 : decode cX12_push 1 = .ok (.getfield 39, 3) := dgX12_push_0 (1, (.getfield 39, 3)) (List.mem_of_getElem? (i := 1) rfl)
theorem dX12_push_4 : decode cX12_push 4 = .ok (.aload_n 0, 1) := dgX12_push_0 (4, (.aload_n 0, 1)) (List.mem_of_getElem? (i := 2) rfl)
theorem dX12_push_5 : decode cX12_push 5 = .ok (.getfield 240, 3) := dgX12_push_0 (5, (.getfield 240, 3)) (List.mem_of_getElem? (i := 3) rfl)
theorem dX12_push_8 : decode cX12_push 8 = .ok (.iload_n 1, 1) := dgX12_push_0 (8, (.iload_n 1, 1)) (List.mem_of_getElem? (i := 4) rfl)
theorem dX12_push_9 : decode cX12_push 9 = .ok (.iastore, 1) := dgX12_push_0 (9, (.iastore, 1)) (List.mem_of_getElem? (i := 5) rfl)
theorem dX12_push_10 : decode cX12_push 10 = .ok (.aload_n 0, 1) := dgX12_push_0 (10, (.aload_n 0, 1)) (List.mem_of_getElem? (i := 6) rfl)
theorem dX12_push_11 : decode cX12_push 11 = .ok (.getfield 42, 3) := dgX12_push_0 (11, (.getfield 42, 3)) (List.mem_of_getElem? (i := 7) rfl)
theorem dX12_push_14 : decode cX12_push 14 = .ok (.aload_n 0, 1) := dgX12_push_0 (14, (.aload_n 0, 1)) (List.mem_of_getElem? (i := 8) rfl)
theorem dX12_push_15 : decode cX12_push 15 = .ok (.getfield 240, 3) := dgX12_push_0 (15, (.getfield 240, 3)) (List.mem_of_getElem? (i := 9) rfl)
theorem dX12_push_18 : decode cX12_push 18 = .ok (.iload_n 2, 1) := dgX12_push_0 (18, (.iload_n 2, 1)) (List.mem_of_getElem? (i := 10) rfl)
theorem dX12_push_19 : decode cX12_push 19 = .ok (.iastore, 1) := dgX12_push_0 (19, (.iastore, 1)) (List.mem_of_getElem? (i := 11) rfl)
theorem dX12_push_20 : decode cX12_push 20 = .ok (.aload_n 0, 1) := dgX12_push_0 (20, (.aload_n 0, 1)) (List.mem_of_getElem? (i := 12) rfl)
theorem dX12_push_21 : decode cX12_push 21 = .ok (.dup, 1) := dgX12_push_0 (21, (.dup, 1)) (List.mem_of_getElem? (i := 13) rfl)
theorem dX12_push_22 : decode cX12_push 22 = .ok (.getfield 240, 3) := dgX12_push_0 (22, (.getfield 240, 3)) (List.mem_of_getElem? (i := 14) rfl)
theorem dX12_push_25 : decode cX12_push 25 = .ok (.iconst 1, 1) := dgX12_push_0 (25, (.iconst 1, 1)) (List.mem_of_getElem? (i := 15) rfl)
theorem dX12_push_26 : decode cX12_push 26 = .ok (.iadd, 1) := dgX12_push_0 (26, (.iadd, 1)) (List.mem_of_getElem? (i := 16) rfl)
theorem dX12_push_27 : decode cX12_push 27 = .ok (.putfield 240, 3) := dgX12_push_0 (27, (.putfield 240, 3)) (List.mem_of_getElem? (i := 17) rfl)
theorem dX12_push_30 : decode cX12_push 30 = .ok (.return_, 1) := dgX12_push_0 (30, (.return_, 1)) (List.mem_of_getElem? (i := 18) rfl)
theorem fl_X12_39 : Cond.fieldLink RX12 39 "LateGlassModel" "pile" "[I" ∈ tblG := tg 1224 (by decide +kernel) (by decide +kernel)
theorem fl_X12_240 : Cond.fieldLink RX12 240 "LateGlassModel" "piled" "I" ∈ tblG := tg 1226 (by decide +kernel) (by decide +kernel)
theorem fl_X12_42 : Cond.fieldLink RX12 42 "LateGlassModel" "pileAt" "[I" ∈ tblG := tg 1225 (by decide +kernel) (by decide +kernel)
set_option maxHeartbeats 4000000 in
set_option maxRecDepth 100000 in
theorem n_push (l : Launch) (G : g5_G) (b_o b_pi b_pa b_rf b_ro b_im b_ke b_tp b_nl b_op b_ar b_ws b_hw b_se b_re b_pt b_ip b_ah b_be b_me b_tr b_ld b_wn : Nat) (sz : Nat) (u_th : Int32) (u_sa : Int32) (u_fd : Int32) (u_td : Int32) (u_fr : Int32) (u_to : Int32) (u_so : Int32) (u_fa : Int32) (u_bd : Int32) (u_nc : Int32) (u_co : Int32) (u_le : Int32) (u_pd : Int32) (u_od : Int32) (u_la : Int32) (u_bk : Int32) (u_ce : Int32) (u_ho : Int32) (u_wy : Int32) (u_bt : Int32) (u_ps : Int32) (u_tg : Int32) (u_sn : Int32) (u_ic : Int32) (u_wd : Int32) (u_id : Int32) (p_1 : Int32) (p_2 : Int32) (u_wo : Int64) (u_va : Int64) (u_su : Int64) (u_st : Int64) (v_pi : Nat → Int32) (v_pa : Nat → Int32) (h_u_td : 0 ≤ u_td.toInt ∧ u_td.toInt ≤ 400) (h_u_fr : 0 ≤ u_fr.toInt ∧ u_fr.toInt ≤ 400) (h_u_to : 0 ≤ u_to.toInt ∧ u_to.toInt ≤ 400) (h_u_bd : 0 ≤ u_bd.toInt ∧ u_bd.toInt ≤ 1) (h_u_nc : 0 ≤ u_nc.toInt ∧ u_nc.toInt ≤ 12) (h_u_co : 0 ≤ u_co.toInt ∧ u_co.toInt ≤ 400) (h_u_pd : 0 ≤ u_pd.toInt ∧ u_pd.toInt ≤ 400) (h_u_la : 0 ≤ u_la.toInt ∧ u_la.toInt ≤ 4840) (h_u_bk : 0 ≤ u_bk.toInt ∧ u_bk.toInt ≤ 1) (h_u_ce : 0 ≤ u_ce.toInt ∧ u_ce.toInt ≤ 63) (h_u_ho : 0 ≤ u_ho.toInt ∧ u_ho.toInt ≤ 23) (h_u_wy : 0 ≤ u_wy.toInt ∧ u_wy.toInt ≤ 3) (h_u_bt : 0 ≤ u_bt.toInt ∧ u_bt.toInt ≤ 1000000) (h_u_ps : 0 ≤ u_ps.toInt ∧ u_ps.toInt ≤ 200) (h_u_ic : 0 ≤ u_ic.toInt ∧ u_ic.toInt ≤ 1) (h_u_id : 0 ≤ u_id.toInt ∧ u_id.toInt ≤ 1) (e_c : u_pd.toInt < 400) : Met l yX12_push (wsG yX12_push cX12_push 3 none) ({ frames := 0, cells := 0, slots := 0, locals := 0 }) (va_Pc [.ref b_o, .int p_1, .int p_2] (g5_P G [(b_o, (oc12 u_th u_sa b_rf b_ro b_im b_ke u_fd b_tp u_td u_fr u_to u_so u_wo u_fa u_bd u_nc b_nl u_co b_op b_ar u_le b_pi b_pa u_pd u_od b_ws b_hw u_la b_se b_re u_bk u_va u_su u_ce u_ho u_wy u_bt u_ps b_pt u_tg u_sn b_ip u_ic b_ah b_be b_me u_wd b_tr b_ld u_st b_wn u_id)), (b_pi, (arI G 400 v_pi)), (b_pa, (arI G 400 v_pa))] sz)) (va_Qv (fun (u : va_W) => (∃ (o_pd : Int32), (0 ≤ o_pd.toInt ∧ o_pd.toInt ≤ 400) ∧ (o_pd.toInt = u_pd.toInt + 1) ∧ (u = [(b_o, (oc12 u_th u_sa b_rf b_ro b_im b_ke u_fd b_tp u_td u_fr u_to u_so u_wo u_fa u_bd u_nc b_nl u_co b_op b_ar u_le b_pi b_pa o_pd u_od b_ws b_hw u_la b_se b_re u_bk u_va u_su u_ce u_ho u_wy u_bt u_ps b_pt u_tg u_sn b_ip u_ic b_ah b_be b_me u_wd b_tr b_ld u_st b_wn u_id)), (b_pi, (arI G 400 (upd v_pi u_pd.toNatClampNeg p_1))), (b_pa, (arI G 400 (upd v_pa u_pd.toNatClampNeg p_2)))]))) (g5_B G (va_A [(b_o, (oc12 u_th u_sa b_rf b_ro b_im b_ke u_fd b_tp u_td u_fr u_to u_so u_wo u_fa u_bd u_nc b_nl u_co b_op b_ar u_le b_pi b_pa u_pd u_od b_ws b_hw u_la b_se b_re u_bk u_va u_su u_ce u_ho u_wy u_bt u_ps b_pt u_tg u_sn b_ip u_ic b_ah b_be b_me u_wd b_tr b_ld u_st b_wn u_id)), (b_pi, (arI G 400 v_pi)), (b_pa, (arI G 400 v_pa))] sz)) (va_A [(b_o, (oc12 u_th u_sa b_rf b_ro b_im b_ke u_fd b_tp u_td u_fr u_to u_so u_wo u_fa u_bd u_nc b_nl u_co b_op b_ar u_le b_pi b_pa u_pd u_od b_ws b_hw u_la b_se b_re u_bk u_va u_su u_ce u_ho u_wy u_bt u_ps b_pt u_tg u_sn b_ip u_ic b_ah b_be b_me u_wd b_tr b_ld u_st b_wn u_id)), (b_pi, (arI G 400 v_pi)), (b_pa, (arI G 400 v_pa))] sz)) 0 0 (va_A [(b_o, (oc12 u_th u_sa b_rf b_ro b_im b_ke u_fd b_tp u_td u_fr u_to u_so u_wo u_fa u_bd u_nc b_nl u_co b_op b_ar u_le b_pi b_pa u_pd u_od b_ws b_hw u_la b_se b_re u_bk u_va u_su u_ce u_ho u_wy u_bt u_ps b_pt u_tg u_sn b_ip u_ic b_ah b_be b_me u_wd b_tr b_ld u_st b_wn u_id)), (b_pi, (arI G 400 v_pi)), (b_pa, (arI G 400 v_pa))] sz) := by
  refine Met.ofW (cc := cX12_push) (maxL := 3) (ret := none) (by decide) rfl ?_
  intro p e s m args below meth c s₁ B hml hv
  obtain ⟨rfl, hsz, hP, hK, hD0, hN, hT⟩ := hv
  have hx := B.exec
  have hb := B.bytes
  have hr := B.returns
  have hts : ∀ w ∈ tblG, w.before _ s = true := fun w h => atoms_spec (ws := (wsG yX12_push cX12_push 3 none)) B.pre w (List.mem_cons_of_mem _ h)
  have hown : s.vm.findClass RX12 = some m.cls := findClass_of_methodNamed B.named
  have hlocks := B.notSynchronized
  subst hsz
  have hD := hD0.self (sz := s.heap.size)
  generalize hAe : va_A [(b_o, (oc12 u_th u_sa b_rf b_ro b_im b_ke u_fd b_tp u_td u_fr u_to u_so u_wo u_fa u_bd u_nc b_nl u_co b_op b_ar u_le b_pi b_pa u_pd u_od b_ws b_hw u_la b_se b_re u_bk u_va u_su u_ce u_ho u_wy u_bt u_ps b_pt u_tg u_sn b_ip u_ic b_ah b_be b_me u_wd b_tr b_ld u_st b_wn u_id)), (b_pi, (arI G 400 v_pi)), (b_pa, (arI G 400 v_pa))] s.heap.size = A at hD hT ⊢
  have hA : ∀ q : Nat, s.heap.size ≤ q → A q := fun q h => by rw [← hAe]; exact Or.inr h
  have hS : va_S A s.heap s.heap [] := va_S.rf
  have hP : va_P G.1 vwCl [(b_o, (oc12 u_th u_sa b_rf b_ro b_im b_ke u_fd b_tp u_td u_fr u_to u_so u_wo u_fa u_bd u_nc b_nl u_co b_op b_ar u_le b_pi b_pa u_pd u_od b_ws b_hw u_la b_se b_re u_bk u_va u_su u_ce u_ho u_wy u_bt u_ps b_pt u_tg u_sn b_ip u_ic b_ah b_be b_me u_wd b_tr b_ld u_st b_wn u_id)), (b_pi, (arI G 400 v_pi)), (b_pa, (arI G 400 v_pa))] s.heap := hP
  have hl := lv_entry ([.ref b_o, .int p_1, .int p_2]) (n := 3) (Nat.le_of_ble_eq_true rfl)
  rw [lg_entry_eq]
  generalize (lg_sl ([.ref b_o, .int p_1, .int p_2]) ++ List.replicate (3 - (lg_sl ([.ref b_o, .int p_1, .int p_2])).length) Slot.unset).toArray = ls at hl ⊢
  have hl : lv_has ls 3 [(0, .ref b_o), (1, .int p_1), (2, .int p_2)] := hl
  refine lv_aload_n hx hb dX12_push_0 rfl (lv_at hl 0 rfl) ?_
  refine va_get (D := G.1) (ci := 12) (v := .ref b_pi) (C := RX12) (T := TX12) (N := 52) hx hb hts inG_X12 hown hK hP 0 rfl rfl 21 (by decide) (hts _ fl_X12_39) (fun _ h9 => h9) rfl dX12_push_1 ?_
  refine lv_aload_n hx hb dX12_push_4 rfl (lv_at hl 0 rfl) ?_
  refine va_get (D := G.1) (ci := 12) (v := .int u_pd) (C := RX12) (T := TX12) (N := 52) hx hb hts inG_X12 hown hK hP 0 rfl rfl 23 (by decide) (hts _ fl_X12_240) (fun _ h9 => h9) rfl dX12_push_5 ?_
  refine lv_iload_n hx hb dX12_push_8 rfl (lv_at hl 1 rfl) ?_
  refine va_iast hx hb hK hP hD hS 1 0 rfl rfl (i := u_pd) (x := p_1) (vp_in_iff.mpr ⟨by omega, by omega⟩) dX12_push_9 (fun H locs hP hD hS => ?_)
  refine g5_rs [(b_o, (oc12 u_th u_sa b_rf b_ro b_im b_ke u_fd b_tp u_td u_fr u_to u_so u_wo u_fa u_bd u_nc b_nl u_co b_op b_ar u_le b_pi b_pa u_pd u_od b_ws b_hw u_la b_se b_re u_bk u_va u_su u_ce u_ho u_wy u_bt u_ps b_pt u_tg u_sn b_ip u_ic b_ah b_be b_me u_wd b_tr b_ld u_st b_wn u_id)), (b_pi, (arI G 400 (upd v_pi u_pd.toNatClampNeg p_1))), (b_pa, (arI G 400 v_pa))] hP hD (fun hP hD => ?_)
  refine lv_aload_n hx hb dX12_push_10 rfl (lv_at hl 0 rfl) ?_
  refine va_get (D := G.1) (ci := 12) (v := .ref b_pa) (C := RX12) (T := TX12) (N := 52) hx hb hts inG_X12 hown hK hP 0 rfl rfl 22 (by decide) (hts _ fl_X12_42) (fun _ h9 => h9) rfl dX12_push_11 ?_
  refine lv_aload_n hx hb dX12_push_14 rfl (lv_at hl 0 rfl) ?_
  refine va_get (D := G.1) (ci := 12) (v := .int u_pd) (C := RX12) (T := TX12) (N := 52) hx hb hts inG_X12 hown hK hP 0 rfl rfl 23 (by decide) (hts _ fl_X12_240) (fun _ h9 => h9) rfl dX12_push_15 ?_
  refine lv_iload_n hx hb dX12_push_18 rfl (lv_at hl 2 rfl) ?_
  refine va_iast hx hb hK hP hD hS 2 0 rfl rfl (i := u_pd) (x := p_2) (vp_in_iff.mpr ⟨by omega, by omega⟩) dX12_push_19 (fun H locs hP hD hS => ?_)
  refine g5_rs [(b_o, (oc12 u_th u_sa b_rf b_ro b_im b_ke u_fd b_tp u_td u_fr u_to u_so u_wo u_fa u_bd u_nc b_nl u_co b_op b_ar u_le b_pi b_pa u_pd u_od b_ws b_hw u_la b_se b_re u_bk u_va u_su u_ce u_ho u_wy u_bt u_ps b_pt u_tg u_sn b_ip u_ic b_ah b_be b_me u_wd b_tr b_ld u_st b_wn u_id)), (b_pi, (arI G 400 (upd v_pi u_pd.toNatClampNeg p_1))), (b_pa, (arI G 400 (upd v_pa u_pd.toNatClampNeg p_2)))] hP hD (fun hP hD => ?_)
  refine lv_aload_n hx hb dX12_push_20 rfl (lv_at hl 0 rfl) ?_
  refine lv_dup hx hb dX12_push_21 rfl ?_
  refine va_get (D := G.1) (ci := 12) (v := .int u_pd) (C := RX12) (T := TX12) (N := 52) hx hb hts inG_X12 hown hK hP 0 rfl rfl 23 (by decide) (hts _ fl_X12_240) (fun _ h9 => h9) rfl dX12_push_22 ?_
  refine lv_iconst (v := 1) hx hb dX12_push_25 (by decide) ?_
  refine lv_iadd hx hb dX12_push_26 ?_
  have t_1 : (u_pd + 1).toInt = u_pd.toInt + 1 := g5_iadd (a := u_pd.toInt) (b := 1) (by rfl) (by decide) (by omega) (by omega)
  refine va_put (D := G.1) (ci := 12) (v := .int (u_pd + 1)) (ty := .int) (C := RX12) (T := TX12) (N := 52) hx hb hts inG_X12 tyX12 tyX12_ok nmX12 hown hK hP hD hS 0 rfl rfl 23 (by decide) (hts _ fl_X12_240) (fun _ h9 => h9) rfl (by decide +kernel) rfl rfl (Nat.le_of_ble_eq_true rfl) dX12_push_27 (fun H locs hP hD hS => ?_)
  refine g5_rs [(b_o, (oc12 u_th u_sa b_rf b_ro b_im b_ke u_fd b_tp u_td u_fr u_to u_so u_wo u_fa u_bd u_nc b_nl u_co b_op b_ar u_le b_pi b_pa (u_pd + 1) u_od b_ws b_hw u_la b_se b_re u_bk u_va u_su u_ce u_ho u_wy u_bt u_ps b_pt u_tg u_sn b_ip u_ic b_ah b_be b_me u_wd b_tr b_ld u_st b_wn u_id)), (b_pi, (arI G 400 (upd v_pi u_pd.toNatClampNeg p_1))), (b_pa, (arI G 400 (upd v_pa u_pd.toNatClampNeg p_2)))] hP hD (fun hP hD => ?_)
  exact W.vret hx hb hr (fun t ht hW => ⟨⟨[(b_o, (oc12 u_th u_sa b_rf b_ro b_im b_ke u_fd b_tp u_td u_fr u_to u_so u_wo u_fa u_bd u_nc b_nl u_co b_op b_ar u_le b_pi b_pa (u_pd + 1) u_od b_ws b_hw u_la b_se b_re u_bk u_va u_su u_ce u_ho u_wy u_bt u_ps b_pt u_tg u_sn b_ip u_ic b_ah b_be b_me u_wd b_tr b_ld u_st b_wn u_id)), (b_pi, (arI G 400 (upd v_pi u_pd.toNatClampNeg p_1))), (b_pa, (arI G 400 (upd v_pa u_pd.toNatClampNeg p_2)))], rfl, ⟨(u_pd + 1), ⟨by omega, by omega⟩, by omega, rfl⟩, by rw [ht]; exact hP.sub [0, 1, 2] rfl, hD.sub [0, 1, 2] (by decide) rfl⟩, hS.F ht⟩) hS.2.2 dX12_push_30
theorem dgX12_binds_0 : ∀ r ∈ ([(0, (.iload_n 0, 1)), (1, (.bipush 30, 2)), (3, (.if_icmp .lt 7, 3)), (6, (.iconst 0, 1)), (7, (.goto 55, 3)), (10, (.iload_n 0, 1)), (11, (.bipush 29, 2)), (13, (.if_icmp .ne 7, 3)), (16, (.iconst 1, 1)), (17, (.goto 45, 3)), (20, (.iload_n 0, 1)), (21, (.bipush 28, 2)), (23, (.if_icmp .ne 7, 3)), (26, (.iconst 2, 1)), (27, (.goto 35, 3)), (30, (.iload_n 0, 1)), (31, (.bipush 27, 2)), (33, (.if_icmp .ne 7, 3)), (36, (.iconst 3, 1)), (37, (.goto 25, 3)), (40, (.iload_n 0, 1)), (41, (.bipush 24, 2)), (43, (.if_icmp .lt 7, 3)), (46, (.iconst 4, 1)), (47, (.goto 15, 3)), (50, (.iload_n 0, 1)), (51, (.bipush 22, 2)), (53, (.if_icmp .lt 8, 3)), (56, (.bipush 6, 2)), (58, (.goto 4, 3)), (61, (.iconst 5, 1)), (62, (.ireturn, 1))] : List (Nat × (Instr × Nat))), decode cX12_binds r.1 = .ok r.2 := by decide +kernel
theorem dX12_binds_0 : decode cX12_binds 0 = .ok (.iload_n 0, 1) := dgX12_binds_0 (0, (.iload_n 0, 1)) (List.mem_of_getElem? (i := 0) rfl)
theorem dX12_binds_1 : decode cX12_binds 1 = .ok (.bipush 30, 2) := dgX12_binds_0 (1, (.bipush 30, 2)) (List.mem_of_getElem? (i := 1) rfl)
theorem dX12_binds_3 : decode cX12_binds 3 = .ok (.if_icmp .lt 7, 3) := dgX12_binds_0 (3, (.if_icmp .lt 7, 3)) (List.mem_of_getElem? (i := 2) rfl)
theorem dX12_binds_6 : decode cX12_binds 6 = .ok (.iconst 0, 1) := dgX12_binds_0 (6, (.iconst 0, 1)) (List.mem_of_getElem? (i := 3) rfl)
theorem dX12_binds_7 : decode cX12_binds 7 = .ok (.goto 55, 3) := dgX12_binds_0 (7, (.goto 55, 3)) (List.mem_of_getElem? (i := 4) rfl)
theorem dX12_binds_10 : decode cX12_binds 10 = .ok (.iload_n 0, 1) := dgX12_binds_0 (10, (.iload_n 0, 1)) (List.mem_of_getElem? (i := 5) rfl)
theorem dX12_binds_11 : decode cX12_binds 11 = .ok (.bipush 29, 2) := dgX12_binds_0 (11, (.bipush 29, 2)) (List.mem_of_getElem? (i := 6) rfl)
theorem dX12_binds_13 : decode cX12_binds 13 = .ok (.if_icmp .ne 7, 3) := dgX12_binds_0 (13, (.if_icmp .ne 7, 3)) (List.mem_of_getElem? (i := 7) rfl)
theorem dX12_binds_16 : decode cX12_binds 16 = .ok (.iconst 1, 1) := dgX12_binds_0 (16, (.iconst 1, 1)) (List.mem_of_getElem? (i := 8) rfl)
theorem dX12_binds_17 : decode cX12_binds 17 = .ok (.goto 45, 3) := dgX12_binds_0 (17, (.goto 45, 3)) (List.mem_of_getElem? (i := 9) rfl)
theorem dX12_binds_20 : decode cX12_binds 20 = .ok (.iload_n 0, 1) := dgX12_binds_0 (20, (.iload_n 0, 1)) (List.mem_of_getElem? (i := 10) rfl)
theorem dX12_binds_21 : decode cX12_binds 21 = .ok (.bipush 28, 2) := dgX12_binds_0 (21, (.bipush 28, 2)) (List.mem_of_getElem? (i := 11) rfl)
theorem dX12_binds_23 : decode cX12_binds 23 = .ok (.if_icmp .ne 7, 3) := dgX12_binds_0 (23, (.if_icmp .ne 7, 3)) (List.mem_of_getElem? (i := 12) rfl)
theorem dX12_binds_26 : decode cX12_binds 26 = .ok (.iconst 2, 1) := dgX12_binds_0 (26, (.iconst 2, 1)) (List.mem_of_getElem? (i := 13) rfl)
theorem dX12_binds_27 : decode cX12_binds 27 = .ok (.goto 35, 3) := dgX12_binds_0 (27, (.goto 35, 3)) (List.mem_of_getElem? (i := 14) rfl)
theorem dX12_binds_30 : decode cX12_binds 30 = .ok (.iload_n 0, 1) := dgX12_binds_0 (30, (.iload_n 0, 1)) (List.mem_of_getElem? (i := 15) rfl)
theorem dX12_binds_31 : decode cX12_binds 31 = .ok (.bipush 27, 2) := dgX12_binds_0 (31, (.bipush 27, 2)) (List.mem_of_getElem? (i := 16) rfl)
theorem dX12_binds_33 : decode cX12_binds 33 = .ok (.if_icmp .ne 7, 3) := dgX12_binds_0 (33, (.if_icmp .ne 7, 3)) (List.mem_of_getElem? (i := 17) rfl)
theorem dX12_binds_36 : decode cX12_binds 36 = .ok (.iconst 3, 1) := dgX12_binds_0 (36, (.iconst 3, 1)) (List.mem_of_getElem? (i := 18) rfl)
theorem dX12_binds_37 : decode cX12_binds 37 = .ok (.goto 25, 3) := dgX12_binds_0 (37, (.goto 25, 3)) (List.mem_of_getElem? (i := 19) rfl)
theorem dX12_binds_40 : decode cX12_binds 40 = .ok (.iload_n 0, 1) := dgX12_binds_0 (40, (.iload_n 0, 1)) (List.mem_of_getElem? (i := 20) rfl)
theorem dX12_binds_41 : decode cX12_binds 41 = .ok (.bipush 24, 2) := dgX12_binds_0 (41, (.bipush 24, 2)) (List.mem_of_getElem? (i := 21) rfl)
theorem dX12_binds_43 : decode cX12_binds 43 = .ok (.if_icmp .lt 7, 3) := dgX12_binds_0 (43, (.if_icmp .lt 7, 3)) (List.mem_of_getElem? (i := 22) rfl)
theorem dX12_binds_46 : decode cX12_binds 46 = .ok (.iconst 4, 1) := dgX12_binds_0 (46, (.iconst 4, 1)) (List.mem_of_getElem? (i := 23) rfl)
theorem dX12_binds_47 : decode cX12_binds 47 = .ok (.goto 15, 3) := dgX12_binds_0 (47, (.goto 15, 3)) (List.mem_of_getElem? (i := 24) rfl)
theorem dX12_binds_50 : decode cX12_binds 50 = .ok (.iload_n 0, 1) := dgX12_binds_0 (50, (.iload_n 0, 1)) (List.mem_of_getElem? (i := 25) rfl)
theorem dX12_binds_51 : decode cX12_binds 51 = .ok (.bipush 22, 2) := dgX12_binds_0 (51, (.bipush 22, 2)) (List.mem_of_getElem? (i := 26) rfl)
theorem dX12_binds_53 : decode cX12_binds 53 = .ok (.if_icmp .lt 8, 3) := dgX12_binds_0 (53, (.if_icmp .lt 8, 3)) (List.mem_of_getElem? (i := 27) rfl)
theorem dX12_binds_56 : decode cX12_binds 56 = .ok (.bipush 6, 2) := dgX12_binds_0 (56, (.bipush 6, 2)) (List.mem_of_getElem? (i := 28) rfl)
theorem dX12_binds_58 : decode cX12_binds 58 = .ok (.goto 4, 3) := dgX12_binds_0 (58, (.goto 4, 3)) (List.mem_of_getElem? (i := 29) rfl)
theorem dX12_binds_61 : decode cX12_binds 61 = .ok (.iconst 5, 1) := dgX12_binds_0 (61, (.iconst 5, 1)) (List.mem_of_getElem? (i := 30) rfl)
theorem dX12_binds_62 : decode cX12_binds 62 = .ok (.ireturn, 1) := dgX12_binds_0 (62, (.ireturn, 1)) (List.mem_of_getElem? (i := 31) rfl)
set_option maxHeartbeats 4000000 in
set_option maxRecDepth 100000 in
theorem n_binds (l : Launch) (G : g5_G) (sz : Nat) (p_0 : Int32) (h_p_0 : 20 ≤ p_0.toInt ∧ p_0.toInt ≤ 31) : Met l yX12_binds (wsG yX12_binds cX12_binds 1 (some .int)) ({ frames := 0, cells := 0, slots := 0, locals := 0 }) (va_Pc [.int p_0] (g5_P G [] sz)) (va_Qi (fun (r : Int32) (u : va_W) => (∃ (o_r : Int32), (0 ≤ o_r.toInt ∧ o_r.toInt ≤ 6) ∧ (o_r.toInt = bnd p_0.toInt) ∧ (r = o_r) ∧ (u = []))) (g5_B G (va_A [] sz)) (va_A [] sz)) 0 0 (va_A [] sz) := by
  refine Met.ofW (cc := cX12_binds) (maxL := 1) (ret := (some .int)) (by decide) rfl ?_
  intro p e s m args below meth c s₁ B hml hv
  obtain ⟨rfl, hsz, hP, hK, hD0, hN, hT⟩ := hv
  have hx := B.exec
  have hb := B.bytes
  have hr := B.returns
  have hts : ∀ w ∈ tblG, w.before _ s = true := fun w h => atoms_spec (ws := (wsG yX12_binds cX12_binds 1 (some .int))) B.pre w (List.mem_cons_of_mem _ h)
  have hown : s.vm.findClass RX12 = some m.cls := findClass_of_methodNamed B.named
  have hlocks := B.notSynchronized
  subst hsz
  have hD := hD0.self (sz := s.heap.size)
  generalize hAe : va_A [] s.heap.size = A at hD hT ⊢
  have hA : ∀ q : Nat, s.heap.size ≤ q → A q := fun q h => by rw [← hAe]; exact Or.inr h
  have hS : va_S A s.heap s.heap [] := va_S.rf
  have hP : va_P G.1 vwCl [] s.heap := hP
  have hl := lv_entry ([.int p_0]) (n := 1) (Nat.le_of_ble_eq_true rfl)
  rw [lg_entry_eq]
  generalize (lg_sl ([.int p_0]) ++ List.replicate (1 - (lg_sl ([.int p_0])).length) Slot.unset).toArray = ls at hl ⊢
  have hl : lv_has ls 1 [(0, .int p_0)] := hl
  refine lv_iload_n hx hb dX12_binds_0 rfl (lv_at hl 0 rfl) ?_
  refine lv_bipush (v := 30) hx hb dX12_binds_1 (by decide) ?_
  refine lv_icmp_lt (tgt := 10) hx hb dX12_binds_3 (by decide) (fun c_1 => ?_) (fun c_1 => ?_)
  ·
    have i_1 : p_0.toInt < 30 := by have z := g5_lt (a := p_0.toInt) (b := 30) (by rfl) (by decide) c_1; omega
    refine lv_iload_n hx hb dX12_binds_10 rfl (lv_at hl 0 rfl) ?_
    refine lv_bipush (v := 29) hx hb dX12_binds_11 (by decide) ?_
    refine lv_icmp_ne (tgt := 20) hx hb dX12_binds_13 (by decide) (fun c_2 => ?_) (fun c_2 => ?_)
    ·
      have n_2 : gNe (p_0.toInt) (29) := by have z := g5_ne (a := p_0.toInt) (b := 29) (by rfl) (by decide) c_2; unfold gNe; omega
      have i_2 : p_0.toInt ≤ 28 := by have z := g5_ne (a := p_0.toInt) (b := 29) (by rfl) (by decide) c_2; omega
      refine lv_iload_n hx hb dX12_binds_20 rfl (lv_at hl 0 rfl) ?_
      refine lv_bipush (v := 28) hx hb dX12_binds_21 (by decide) ?_
      refine lv_icmp_ne (tgt := 30) hx hb dX12_binds_23 (by decide) (fun c_3 => ?_) (fun c_3 => ?_)
      ·
        have n_3 : gNe (p_0.toInt) (28) := by have z := g5_ne (a := p_0.toInt) (b := 28) (by rfl) (by decide) c_3; unfold gNe; omega
        have i_3 : p_0.toInt ≤ 27 := by have z := g5_ne (a := p_0.toInt) (b := 28) (by rfl) (by decide) c_3; omega
        refine lv_iload_n hx hb dX12_binds_30 rfl (lv_at hl 0 rfl) ?_
        refine lv_bipush (v := 27) hx hb dX12_binds_31 (by decide) ?_
        refine lv_icmp_ne (tgt := 40) hx hb dX12_binds_33 (by decide) (fun c_4 => ?_) (fun c_4 => ?_)
        ·
          have n_4 : gNe (p_0.toInt) (27) := by have z := g5_ne (a := p_0.toInt) (b := 27) (by rfl) (by decide) c_4; unfold gNe; omega
          have i_4 : p_0.toInt ≤ 26 := by have z := g5_ne (a := p_0.toInt) (b := 27) (by rfl) (by decide) c_4; omega
          refine lv_iload_n hx hb dX12_binds_40 rfl (lv_at hl 0 rfl) ?_
          refine lv_bipush (v := 24) hx hb dX12_binds_41 (by decide) ?_
          refine lv_icmp_lt (tgt := 50) hx hb dX12_binds_43 (by decide) (fun c_5 => ?_) (fun c_5 => ?_)
          ·
            have i_5 : p_0.toInt < 24 := by have z := g5_lt (a := p_0.toInt) (b := 24) (by rfl) (by decide) c_5; omega
            refine lv_iload_n hx hb dX12_binds_50 rfl (lv_at hl 0 rfl) ?_
            refine lv_bipush (v := 22) hx hb dX12_binds_51 (by decide) ?_
            refine lv_icmp_lt (tgt := 61) hx hb dX12_binds_53 (by decide) (fun c_6 => ?_) (fun c_6 => ?_)
            ·
              have i_6 : p_0.toInt < 22 := by have z := g5_lt (a := p_0.toInt) (b := 22) (by rfl) (by decide) c_6; omega
              refine lv_iconst (v := 5) hx hb dX12_binds_61 (by decide) ?_
              exact W.iret (v := 5) hx hb hr (fun t ht hW => ⟨⟨5, [], rfl, ⟨5, ⟨by have zc_o_r : (5 : Int32).toInt = 5 := (by decide); omega, by have zc_o_r : (5 : Int32).toInt = 5 := (by decide); omega⟩, by rw [bnd_5 (by omega)]; decide, rfl, rfl⟩, by rw [ht]; exact hP.sub [] rfl, hD.sub [] (by decide) rfl⟩, hS.F ht⟩) hS.2.2 dX12_binds_62
            ·
              have i_6 : p_0.toInt ≥ 22 := by have z := g5_ltN (a := p_0.toInt) (b := 22) (by rfl) (by decide) c_6; omega
              refine lv_bipush (v := 6) hx hb dX12_binds_56 (by decide) ?_
              refine lv_goto (tgt := 62) hx hb dX12_binds_58 (by decide) ?_
              exact W.iret (v := 6) hx hb hr (fun t ht hW => ⟨⟨6, [], rfl, ⟨6, ⟨by have zc_o_r : (6 : Int32).toInt = 6 := (by decide); omega, by have zc_o_r : (6 : Int32).toInt = 6 := (by decide); omega⟩, by rw [bnd_6 (by omega) (by omega)]; decide, rfl, rfl⟩, by rw [ht]; exact hP.sub [] rfl, hD.sub [] (by decide) rfl⟩, hS.F ht⟩) hS.2.2 dX12_binds_62
          ·
            have i_5 : p_0.toInt ≥ 24 := by have z := g5_ltN (a := p_0.toInt) (b := 24) (by rfl) (by decide) c_5; omega
            refine lv_iconst (v := 4) hx hb dX12_binds_46 (by decide) ?_
            refine lv_goto (tgt := 62) hx hb dX12_binds_47 (by decide) ?_
            exact W.iret (v := 4) hx hb hr (fun t ht hW => ⟨⟨4, [], rfl, ⟨4, ⟨by have zc_o_r : (4 : Int32).toInt = 4 := (by decide); omega, by have zc_o_r : (4 : Int32).toInt = 4 := (by decide); omega⟩, by rw [bnd_4 (by omega) (by omega)]; decide, rfl, rfl⟩, by rw [ht]; exact hP.sub [] rfl, hD.sub [] (by decide) rfl⟩, hS.F ht⟩) hS.2.2 dX12_binds_62
        ·
          have i_4 : p_0.toInt = 27 := by have z := g5_neN (a := p_0.toInt) (b := 27) (by rfl) (by decide) c_4; omega
          refine lv_iconst (v := 3) hx hb dX12_binds_36 (by decide) ?_
          refine lv_goto (tgt := 62) hx hb dX12_binds_37 (by decide) ?_
          exact W.iret (v := 3) hx hb hr (fun t ht hW => ⟨⟨3, [], rfl, ⟨3, ⟨by have zc_o_r : (3 : Int32).toInt = 3 := (by decide); omega, by have zc_o_r : (3 : Int32).toInt = 3 := (by decide); omega⟩, by rw [bnd_3 (by omega)]; decide, rfl, rfl⟩, by rw [ht]; exact hP.sub [] rfl, hD.sub [] (by decide) rfl⟩, hS.F ht⟩) hS.2.2 dX12_binds_62
      ·
        have i_3 : p_0.toInt = 28 := by have z := g5_neN (a := p_0.toInt) (b := 28) (by rfl) (by decide) c_3; omega
        refine lv_iconst (v := 2) hx hb dX12_binds_26 (by decide) ?_
        refine lv_goto (tgt := 62) hx hb dX12_binds_27 (by decide) ?_
        exact W.iret (v := 2) hx hb hr (fun t ht hW => ⟨⟨2, [], rfl, ⟨2, ⟨by have zc_o_r : (2 : Int32).toInt = 2 := (by decide); omega, by have zc_o_r : (2 : Int32).toInt = 2 := (by decide); omega⟩, by rw [bnd_2 (by omega)]; decide, rfl, rfl⟩, by rw [ht]; exact hP.sub [] rfl, hD.sub [] (by decide) rfl⟩, hS.F ht⟩) hS.2.2 dX12_binds_62
    ·
      have i_2 : p_0.toInt = 29 := by have z := g5_neN (a := p_0.toInt) (b := 29) (by rfl) (by decide) c_2; omega
      refine lv_iconst (v := 1) hx hb dX12_binds_16 (by decide) ?_
      refine lv_goto (tgt := 62) hx hb dX12_binds_17 (by decide) ?_
      exact W.iret (v := 1) hx hb hr (fun t ht hW => ⟨⟨1, [], rfl, ⟨1, ⟨by have zc_o_r : (1 : Int32).toInt = 1 := (by decide); omega, by have zc_o_r : (1 : Int32).toInt = 1 := (by decide); omega⟩, by rw [bnd_1 (by omega)]; decide, rfl, rfl⟩, by rw [ht]; exact hP.sub [] rfl, hD.sub [] (by decide) rfl⟩, hS.F ht⟩) hS.2.2 dX12_binds_62
  ·
    have i_1 : p_0.toInt ≥ 30 := by have z := g5_ltN (a := p_0.toInt) (b := 30) (by rfl) (by decide) c_1; omega
    refine lv_iconst (v := 0) hx hb dX12_binds_6 (by decide) ?_
    refine lv_goto (tgt := 62) hx hb dX12_binds_7 (by decide) ?_
    exact W.iret (v := 0) hx hb hr (fun t ht hW => ⟨⟨0, [], rfl, ⟨0, ⟨by have zc_o_r : (0 : Int32).toInt = 0 := (by decide); omega, by have zc_o_r : (0 : Int32).toInt = 0 := (by decide); omega⟩, by rw [bnd_0 (by omega)]; decide, rfl, rfl⟩, by rw [ht]; exact hP.sub [] rfl, hD.sub [] (by decide) rfl⟩, hS.F ht⟩) hS.2.2 dX12_binds_62
set_option maxHeartbeats 4000000 in
set_option maxRecDepth 100000 in
theorem n_binds20 (l : Launch) (G : g5_G) (sz : Nat) : Met l yX12_binds (wsG yX12_binds cX12_binds 1 (some .int)) ({ frames := 0, cells := 0, slots := 0, locals := 0 }) (va_Pc [.int 20] (g5_P G [] sz)) (va_Qi (fun (r : Int32) (u : va_W) => ((r = 5) ∧ (u = []))) (g5_B G (va_A [] sz)) (va_A [] sz)) 0 0 (va_A [] sz) := by
  refine Met.ofW (cc := cX12_binds) (maxL := 1) (ret := (some .int)) (by decide) rfl ?_
  intro p e s m args below meth c s₁ B hml hv
  obtain ⟨rfl, hsz, hP, hK, hD0, hN, hT⟩ := hv
  have hx := B.exec
  have hb := B.bytes
  have hr := B.returns
  have hts : ∀ w ∈ tblG, w.before _ s = true := fun w h => atoms_spec (ws := (wsG yX12_binds cX12_binds 1 (some .int))) B.pre w (List.mem_cons_of_mem _ h)
  have hown : s.vm.findClass RX12 = some m.cls := findClass_of_methodNamed B.named
  have hlocks := B.notSynchronized
  subst hsz
  have hD := hD0.self (sz := s.heap.size)
  generalize hAe : va_A [] s.heap.size = A at hD hT ⊢
  have hA : ∀ q : Nat, s.heap.size ≤ q → A q := fun q h => by rw [← hAe]; exact Or.inr h
  have hS : va_S A s.heap s.heap [] := va_S.rf
  have hP : va_P G.1 vwCl [] s.heap := hP
  have hl := lv_entry ([.int 20]) (n := 1) (Nat.le_of_ble_eq_true rfl)
  rw [lg_entry_eq]
  generalize (lg_sl ([.int 20]) ++ List.replicate (1 - (lg_sl ([.int 20])).length) Slot.unset).toArray = ls at hl ⊢
  have hl : lv_has ls 1 [(0, .int 20)] := hl
  refine lv_iload_n hx hb dX12_binds_0 rfl (lv_at hl 0 rfl) ?_
  refine lv_bipush (v := 30) hx hb dX12_binds_1 (by decide) ?_
  refine lv_icmp_lt (tgt := 10) hx hb dX12_binds_3 (by decide) (fun c_1 => ?_) (fun c_1 => ?_)
  ·
    refine lv_iload_n hx hb dX12_binds_10 rfl (lv_at hl 0 rfl) ?_
    refine lv_bipush (v := 29) hx hb dX12_binds_11 (by decide) ?_
    refine lv_icmp_ne (tgt := 20) hx hb dX12_binds_13 (by decide) (fun c_2 => ?_) (fun c_2 => ?_)
    ·
      refine lv_iload_n hx hb dX12_binds_20 rfl (lv_at hl 0 rfl) ?_
      refine lv_bipush (v := 28) hx hb dX12_binds_21 (by decide) ?_
      refine lv_icmp_ne (tgt := 30) hx hb dX12_binds_23 (by decide) (fun c_3 => ?_) (fun c_3 => ?_)
      ·
        refine lv_iload_n hx hb dX12_binds_30 rfl (lv_at hl 0 rfl) ?_
        refine lv_bipush (v := 27) hx hb dX12_binds_31 (by decide) ?_
        refine lv_icmp_ne (tgt := 40) hx hb dX12_binds_33 (by decide) (fun c_4 => ?_) (fun c_4 => ?_)
        ·
          refine lv_iload_n hx hb dX12_binds_40 rfl (lv_at hl 0 rfl) ?_
          refine lv_bipush (v := 24) hx hb dX12_binds_41 (by decide) ?_
          refine lv_icmp_lt (tgt := 50) hx hb dX12_binds_43 (by decide) (fun c_5 => ?_) (fun c_5 => ?_)
          ·
            refine lv_iload_n hx hb dX12_binds_50 rfl (lv_at hl 0 rfl) ?_
            refine lv_bipush (v := 22) hx hb dX12_binds_51 (by decide) ?_
            refine lv_icmp_lt (tgt := 61) hx hb dX12_binds_53 (by decide) (fun c_6 => ?_) (fun c_6 => ?_)
            ·
              refine lv_iconst (v := 5) hx hb dX12_binds_61 (by decide) ?_
              exact W.iret (v := 5) hx hb hr (fun t ht hW => ⟨⟨5, [], rfl, ⟨rfl, rfl⟩, by rw [ht]; exact hP.sub [] rfl, hD.sub [] (by decide) rfl⟩, hS.F ht⟩) hS.2.2 dX12_binds_62
            ·
              exact absurd c_6 (by decide)
          ·
            exact absurd c_5 (by decide)
        ·
          exact absurd c_4 (by decide)
      ·
        exact absurd c_3 (by decide)
    ·
      exact absurd c_2 (by decide)
  ·
    exact absurd c_1 (by decide)
set_option maxHeartbeats 4000000 in
set_option maxRecDepth 100000 in
theorem n_binds21 (l : Launch) (G : g5_G) (sz : Nat) : Met l yX12_binds (wsG yX12_binds cX12_binds 1 (some .int)) ({ frames := 0, cells := 0, slots := 0, locals := 0 }) (va_Pc [.int 21] (g5_P G [] sz)) (va_Qi (fun (r : Int32) (u : va_W) => ((r = 5) ∧ (u = []))) (g5_B G (va_A [] sz)) (va_A [] sz)) 0 0 (va_A [] sz) := by
  refine Met.ofW (cc := cX12_binds) (maxL := 1) (ret := (some .int)) (by decide) rfl ?_
  intro p e s m args below meth c s₁ B hml hv
  obtain ⟨rfl, hsz, hP, hK, hD0, hN, hT⟩ := hv
  have hx := B.exec
  have hb := B.bytes
  have hr := B.returns
  have hts : ∀ w ∈ tblG, w.before _ s = true := fun w h => atoms_spec (ws := (wsG yX12_binds cX12_binds 1 (some .int))) B.pre w (List.mem_cons_of_mem _ h)
  have hown : s.vm.findClass RX12 = some m.cls := findClass_of_methodNamed B.named
  have hlocks := B.notSynchronized
  subst hsz
  have hD := hD0.self (sz := s.heap.size)
  generalize hAe : va_A [] s.heap.size = A at hD hT ⊢
  have hA : ∀ q : Nat, s.heap.size ≤ q → A q := fun q h => by rw [← hAe]; exact Or.inr h
  have hS : va_S A s.heap s.heap [] := va_S.rf
  have hP : va_P G.1 vwCl [] s.heap := hP
  have hl := lv_entry ([.int 21]) (n := 1) (Nat.le_of_ble_eq_true rfl)
  rw [lg_entry_eq]
  generalize (lg_sl ([.int 21]) ++ List.replicate (1 - (lg_sl ([.int 21])).length) Slot.unset).toArray = ls at hl ⊢
  have hl : lv_has ls 1 [(0, .int 21)] := hl
  refine lv_iload_n hx hb dX12_binds_0 rfl (lv_at hl 0 rfl) ?_
  refine lv_bipush (v := 30) hx hb dX12_binds_1 (by decide) ?_
  refine lv_icmp_lt (tgt := 10) hx hb dX12_binds_3 (by decide) (fun c_1 => ?_) (fun c_1 => ?_)
  ·
    refine lv_iload_n hx hb dX12_binds_10 rfl (lv_at hl 0 rfl) ?_
    refine lv_bipush (v := 29) hx hb dX12_binds_11 (by decide) ?_
    refine lv_icmp_ne (tgt := 20) hx hb dX12_binds_13 (by decide) (fun c_2 => ?_) (fun c_2 => ?_)
    ·
      refine lv_iload_n hx hb dX12_binds_20 rfl (lv_at hl 0 rfl) ?_
      refine lv_bipush (v := 28) hx hb dX12_binds_21 (by decide) ?_
      refine lv_icmp_ne (tgt := 30) hx hb dX12_binds_23 (by decide) (fun c_3 => ?_) (fun c_3 => ?_)
      ·
        refine lv_iload_n hx hb dX12_binds_30 rfl (lv_at hl 0 rfl) ?_
        refine lv_bipush (v := 27) hx hb dX12_binds_31 (by decide) ?_
        refine lv_icmp_ne (tgt := 40) hx hb dX12_binds_33 (by decide) (fun c_4 => ?_) (fun c_4 => ?_)
        ·
          refine lv_iload_n hx hb dX12_binds_40 rfl (lv_at hl 0 rfl) ?_
          refine lv_bipush (v := 24) hx hb dX12_binds_41 (by decide) ?_
          refine lv_icmp_lt (tgt := 50) hx hb dX12_binds_43 (by decide) (fun c_5 => ?_) (fun c_5 => ?_)
          ·
            refine lv_iload_n hx hb dX12_binds_50 rfl (lv_at hl 0 rfl) ?_
            refine lv_bipush (v := 22) hx hb dX12_binds_51 (by decide) ?_
            refine lv_icmp_lt (tgt := 61) hx hb dX12_binds_53 (by decide) (fun c_6 => ?_) (fun c_6 => ?_)
            ·
              refine lv_iconst (v := 5) hx hb dX12_binds_61 (by decide) ?_
              exact W.iret (v := 5) hx hb hr (fun t ht hW => ⟨⟨5, [], rfl, ⟨rfl, rfl⟩, by rw [ht]; exact hP.sub [] rfl, hD.sub [] (by decide) rfl⟩, hS.F ht⟩) hS.2.2 dX12_binds_62
            ·
              exact absurd c_6 (by decide)
          ·
            exact absurd c_5 (by decide)
        ·
          exact absurd c_4 (by decide)
      ·
        exact absurd c_3 (by decide)
    ·
      exact absurd c_2 (by decide)
  ·
    exact absurd c_1 (by decide)
set_option maxHeartbeats 4000000 in
set_option maxRecDepth 100000 in
theorem n_binds22 (l : Launch) (G : g5_G) (sz : Nat) : Met l yX12_binds (wsG yX12_binds cX12_binds 1 (some .int)) ({ frames := 0, cells := 0, slots := 0, locals := 0 }) (va_Pc [.int 22] (g5_P G [] sz)) (va_Qi (fun (r : Int32) (u : va_W) => ((r = 6) ∧ (u = []))) (g5_B G (va_A [] sz)) (va_A [] sz)) 0 0 (va_A [] sz) := by
  refine Met.ofW (cc := cX12_binds) (maxL := 1) (ret := (some .int)) (by decide) rfl ?_
  intro p e s m args below meth c s₁ B hml hv
  obtain ⟨rfl, hsz, hP, hK, hD0, hN, hT⟩ := hv
  have hx := B.exec
  have hb := B.bytes
  have hr := B.returns
  have hts : ∀ w ∈ tblG, w.before _ s = true := fun w h => atoms_spec (ws := (wsG yX12_binds cX12_binds 1 (some .int))) B.pre w (List.mem_cons_of_mem _ h)
  have hown : s.vm.findClass RX12 = some m.cls := findClass_of_methodNamed B.named
  have hlocks := B.notSynchronized
  subst hsz
  have hD := hD0.self (sz := s.heap.size)
  generalize hAe : va_A [] s.heap.size = A at hD hT ⊢
  have hA : ∀ q : Nat, s.heap.size ≤ q → A q := fun q h => by rw [← hAe]; exact Or.inr h
  have hS : va_S A s.heap s.heap [] := va_S.rf
  have hP : va_P G.1 vwCl [] s.heap := hP
  have hl := lv_entry ([.int 22]) (n := 1) (Nat.le_of_ble_eq_true rfl)
  rw [lg_entry_eq]
  generalize (lg_sl ([.int 22]) ++ List.replicate (1 - (lg_sl ([.int 22])).length) Slot.unset).toArray = ls at hl ⊢
  have hl : lv_has ls 1 [(0, .int 22)] := hl
  refine lv_iload_n hx hb dX12_binds_0 rfl (lv_at hl 0 rfl) ?_
  refine lv_bipush (v := 30) hx hb dX12_binds_1 (by decide) ?_
  refine lv_icmp_lt (tgt := 10) hx hb dX12_binds_3 (by decide) (fun c_1 => ?_) (fun c_1 => ?_)
  ·
    refine lv_iload_n hx hb dX12_binds_10 rfl (lv_at hl 0 rfl) ?_
    refine lv_bipush (v := 29) hx hb dX12_binds_11 (by decide) ?_
    refine lv_icmp_ne (tgt := 20) hx hb dX12_binds_13 (by decide) (fun c_2 => ?_) (fun c_2 => ?_)
    ·
      refine lv_iload_n hx hb dX12_binds_20 rfl (lv_at hl 0 rfl) ?_
      refine lv_bipush (v := 28) hx hb dX12_binds_21 (by decide) ?_
      refine lv_icmp_ne (tgt := 30) hx hb dX12_binds_23 (by decide) (fun c_3 => ?_) (fun c_3 => ?_)
      ·
        refine lv_iload_n hx hb dX12_binds_30 rfl (lv_at hl 0 rfl) ?_
        refine lv_bipush (v := 27) hx hb dX12_binds_31 (by decide) ?_
        refine lv_icmp_ne (tgt := 40) hx hb dX12_binds_33 (by decide) (fun c_4 => ?_) (fun c_4 => ?_)
        ·
          refine lv_iload_n hx hb dX12_binds_40 rfl (lv_at hl 0 rfl) ?_
          refine lv_bipush (v := 24) hx hb dX12_binds_41 (by decide) ?_
          refine lv_icmp_lt (tgt := 50) hx hb dX12_binds_43 (by decide) (fun c_5 => ?_) (fun c_5 => ?_)
          ·
            refine lv_iload_n hx hb dX12_binds_50 rfl (lv_at hl 0 rfl) ?_
            refine lv_bipush (v := 22) hx hb dX12_binds_51 (by decide) ?_
            refine lv_icmp_lt (tgt := 61) hx hb dX12_binds_53 (by decide) (fun c_6 => ?_) (fun c_6 => ?_)
            ·
              exact absurd c_6 (by decide)
            ·
              refine lv_bipush (v := 6) hx hb dX12_binds_56 (by decide) ?_
              refine lv_goto (tgt := 62) hx hb dX12_binds_58 (by decide) ?_
              exact W.iret (v := 6) hx hb hr (fun t ht hW => ⟨⟨6, [], rfl, ⟨rfl, rfl⟩, by rw [ht]; exact hP.sub [] rfl, hD.sub [] (by decide) rfl⟩, hS.F ht⟩) hS.2.2 dX12_binds_62
          ·
            exact absurd c_5 (by decide)
        ·
          exact absurd c_4 (by decide)
      ·
        exact absurd c_3 (by decide)
    ·
      exact absurd c_2 (by decide)
  ·
    exact absurd c_1 (by decide)
set_option maxHeartbeats 4000000 in
set_option maxRecDepth 100000 in
theorem n_binds23 (l : Launch) (G : g5_G) (sz : Nat) : Met l yX12_binds (wsG yX12_binds cX12_binds 1 (some .int)) ({ frames := 0, cells := 0, slots := 0, locals := 0 }) (va_Pc [.int 23] (g5_P G [] sz)) (va_Qi (fun (r : Int32) (u : va_W) => ((r = 6) ∧ (u = []))) (g5_B G (va_A [] sz)) (va_A [] sz)) 0 0 (va_A [] sz) := by
  refine Met.ofW (cc := cX12_binds) (maxL := 1) (ret := (some .int)) (by decide) rfl ?_
  intro p e s m args below meth c s₁ B hml hv
  obtain ⟨rfl, hsz, hP, hK, hD0, hN, hT⟩ := hv
  have hx := B.exec
  have hb := B.bytes
  have hr := B.returns
  have hts : ∀ w ∈ tblG, w.before _ s = true := fun w h => atoms_spec (ws := (wsG yX12_binds cX12_binds 1 (some .int))) B.pre w (List.mem_cons_of_mem _ h)
  have hown : s.vm.findClass RX12 = some m.cls := findClass_of_methodNamed B.named
  have hlocks := B.notSynchronized
  subst hsz
  have hD := hD0.self (sz := s.heap.size)
  generalize hAe : va_A [] s.heap.size = A at hD hT ⊢
  have hA : ∀ q : Nat, s.heap.size ≤ q → A q := fun q h => by rw [← hAe]; exact Or.inr h
  have hS : va_S A s.heap s.heap [] := va_S.rf
  have hP : va_P G.1 vwCl [] s.heap := hP
  have hl := lv_entry ([.int 23]) (n := 1) (Nat.le_of_ble_eq_true rfl)
  rw [lg_entry_eq]
  generalize (lg_sl ([.int 23]) ++ List.replicate (1 - (lg_sl ([.int 23])).length) Slot.unset).toArray = ls at hl ⊢
  have hl : lv_has ls 1 [(0, .int 23)] := hl
  refine lv_iload_n hx hb dX12_binds_0 rfl (lv_at hl 0 rfl) ?_
  refine lv_bipush (v := 30) hx hb dX12_binds_1 (by decide) ?_
  refine lv_icmp_lt (tgt := 10) hx hb dX12_binds_3 (by decide) (fun c_1 => ?_) (fun c_1 => ?_)
  ·
    refine lv_iload_n hx hb dX12_binds_10 rfl (lv_at hl 0 rfl) ?_
    refine lv_bipush (v := 29) hx hb dX12_binds_11 (by decide) ?_
    refine lv_icmp_ne (tgt := 20) hx hb dX12_binds_13 (by decide) (fun c_2 => ?_) (fun c_2 => ?_)
    ·
      refine lv_iload_n hx hb dX12_binds_20 rfl (lv_at hl 0 rfl) ?_
      refine lv_bipush (v := 28) hx hb dX12_binds_21 (by decide) ?_
      refine lv_icmp_ne (tgt := 30) hx hb dX12_binds_23 (by decide) (fun c_3 => ?_) (fun c_3 => ?_)
      ·
        refine lv_iload_n hx hb dX12_binds_30 rfl (lv_at hl 0 rfl) ?_
        refine lv_bipush (v := 27) hx hb dX12_binds_31 (by decide) ?_
        refine lv_icmp_ne (tgt := 40) hx hb dX12_binds_33 (by decide) (fun c_4 => ?_) (fun c_4 => ?_)
        ·
          refine lv_iload_n hx hb dX12_binds_40 rfl (lv_at hl 0 rfl) ?_
          refine lv_bipush (v := 24) hx hb dX12_binds_41 (by decide) ?_
          refine lv_icmp_lt (tgt := 50) hx hb dX12_binds_43 (by decide) (fun c_5 => ?_) (fun c_5 => ?_)
          ·
            refine lv_iload_n hx hb dX12_binds_50 rfl (lv_at hl 0 rfl) ?_
            refine lv_bipush (v := 22) hx hb dX12_binds_51 (by decide) ?_
            refine lv_icmp_lt (tgt := 61) hx hb dX12_binds_53 (by decide) (fun c_6 => ?_) (fun c_6 => ?_)
            ·
              exact absurd c_6 (by decide)
            ·
              refine lv_bipush (v := 6) hx hb dX12_binds_56 (by decide) ?_
              refine lv_goto (tgt := 62) hx hb dX12_binds_58 (by decide) ?_
              exact W.iret (v := 6) hx hb hr (fun t ht hW => ⟨⟨6, [], rfl, ⟨rfl, rfl⟩, by rw [ht]; exact hP.sub [] rfl, hD.sub [] (by decide) rfl⟩, hS.F ht⟩) hS.2.2 dX12_binds_62
          ·
            exact absurd c_5 (by decide)
        ·
          exact absurd c_4 (by decide)
      ·
        exact absurd c_3 (by decide)
    ·
      exact absurd c_2 (by decide)
  ·
    exact absurd c_1 (by decide)
theorem dgX12_settle_0 : ∀ r ∈ ([(0, (.aload_n 0, 1)), (1, (.getfield 240, 3)), (4, (.ifCond .le 97, 3)), (7, (.aload_n 0, 1)), (8, (.getfield 39, 3)), (11, (.aload_n 0, 1)), (12, (.getfield 240, 3)), (15, (.iconst 1, 1)), (16, (.isub, 1)), (17, (.iaload, 1)), (18, (.invokestatic 243, 3)), (21, (.iload_n 1, 1)), (22, (.if_icmp .lt 79, 3)), (25, (.aload_n 0, 1)), (26, (.dup, 1)), (27, (.getfield 240, 3)), (30, (.iconst 1, 1)), (31, (.isub, 1)), (32, (.putfield 240, 3)), (35, (.aload_n 0, 1)), (36, (.getfield 39, 3)), (39, (.aload_n 0, 1)), (40, (.getfield 240, 3)), (43, (.iaload, 1)), (44, (.bipush 28, 2)), (46, (.if_icmp .eq 17, 3)), (49, (.aload_n 0, 1)), (50, (.getfield 39, 3)), (53, (.aload_n 0, 1)), (54, (.getfield 240, 3)), (57, (.iaload, 1)), (58, (.bipush 29, 2)), (60, (.if_icmp .ne 24, 3)), (63, (.aload_n 0, 1)), (64, (.getfield 36, 3)), (67, (.aload_n 0, 1)), (68, (.getfield 42, 3)), (71, (.aload_n 0, 1)), (72, (.getfield 240, 3)), (75, (.iaload, 1))] : List (Nat × (Instr × Nat))), decode cX12_settle r.1 = .ok r.2 := by decide +kernel
theorem dX12_settle_0 : decode cX12_settle 0 = .ok (.aload_n 0, 1) := dgX12_settle_0 (0, (.aload_n 0, 1)) (List.mem_of_getElem? (i := 0) rfl)
theorem dX12_settle_1 : decode cX12_settle 1 = .ok (.getfield 240, 3) := dgX12_settle_0 (1, (.getfield 240, 3)) (List.mem_of_getElem? (i := 1) rfl)
theorem dX12_settle_4 : decode cX12_settle 4 = .ok (.ifCond .le 97, 3) := dgX12_settle_0 (4, (.ifCond .le 97, 3)) (List.mem_of_getElem? (i := 2) rfl)
theorem dX12_settle_7 : decode cX12_settle 7 = .ok (.aload_n 0, 1) := dgX12_settle_0 (7, (.aload_n 0, 1)) (List.mem_of_getElem? (i := 3) rfl)
theorem dX12_settle_8 : decode cX12_settle 8 = .ok (.getfield 39, 3) := dgX12_settle_0 (8, (.getfield 39, 3)) (List.mem_of_getElem? (i := 4) rfl)
theorem dX12_settle_11 : decode cX12_settle 11 = .ok (.aload_n 0, 1) := dgX12_settle_0 (11, (.aload_n 0, 1)) (List.mem_of_getElem? (i := 5) rfl)
theorem dX12_settle_12 : decode cX12_settle 12 = .ok (.getfield 240, 3) := dgX12_settle_0 (12, (.getfield 240, 3)) (List.mem_of_getElem? (i := 6) rfl)
theorem dX12_settle_15 : decode cX12_settle 15 = .ok (.iconst 1, 1) := dgX12_settle_0 (15, (.iconst 1, 1)) (List.mem_of_getElem? (i := 7) rfl)
theorem dX12_settle_16 : decode cX12_settle 16 = .ok (.isub, 1) := dgX12_settle_0 (16, (.isub, 1)) (List.mem_of_getElem? (i := 8) rfl)
theorem dX12_settle_17 : decode cX12_settle 17 = .ok (.iaload, 1) := dgX12_settle_0 (17, (.iaload, 1)) (List.mem_of_getElem? (i := 9) rfl)
theorem dX12_settle_18 : decode cX12_settle 18 = .ok (.invokestatic 243, 3) := dgX12_settle_0 (18, (.invokestatic 243, 3)) (List.mem_of_getElem? (i := 10) rfl)
theorem dX12_settle_21 : decode cX12_settle 21 = .ok (.iload_n 1, 1) := dgX12_settle_0 (21, (.iload_n 1, 1)) (List.mem_of_getElem? (i := 11) rfl)
theorem dX12_settle_22 : decode cX12_settle 22 = .ok (.if_icmp .lt 79, 3) := dgX12_settle_0 (22, (.if_icmp .lt 79, 3)) (List.mem_of_getElem? (i := 12) rfl)
theorem dX12_settle_25 : decode cX12_settle 25 = .ok (.aload_n 0, 1) := dgX12_settle_0 (25, (.aload_n 0, 1)) (List.mem_of_getElem? (i := 13) rfl)
theorem dX12_settle_26 : decode cX12_settle 26 = .ok (.dup, 1) := dgX12_settle_0 (26, (.dup, 1)) (List.mem_of_getElem? (i := 14) rfl)
theorem dX12_settle_27 : decode cX12_settle 27 = .ok (.getfield 240, 3) := dgX12_settle_0 (27, (.getfield 240, 3)) (List.mem_of_getElem? (i := 15) rfl)
theorem dX12_settle_30 : decode cX12_settle 30 = .ok (.iconst 1, 1) := dgX12_settle_0 (30, (.iconst 1, 1)) (List.mem_of_getElem? (i := 16) rfl)
theorem dX12_settle_31 : decode cX12_settle 31 = .ok (.isub, 1) := dgX12_settle_0 (31, (.isub, 1)) (List.mem_of_getElem? (i := 17) rfl)
theorem dX12_settle_32 : decode cX12_settle 32 = .ok (.putfield 240, 3) := dgX12_settle_0 (32, (.putfield 240, 3)) (List.mem_of_getElem? (i := 18) rfl)
theorem dX12_settle_35 : decode cX12_settle 35 = .ok (.aload_n 0, 1) := dgX12_settle_0 (35, (.aload_n 0, 1)) (List.mem_of_getElem? (i := 19) rfl)
theorem dX12_settle_36 : decode cX12_settle 36 = .ok (.getfield 39, 3) := dgX12_settle_0 (36, (.getfield 39, 3)) (List.mem_of_getElem? (i := 20) rfl)
theorem dX12_settle_39 : decode cX12_settle 39 = .ok (.aload_n 0, 1) := dgX12_settle_0 (39, (.aload_n 0, 1)) (List.mem_of_getElem? (i := 21) rfl)
theorem dX12_settle_40 : decode cX12_settle 40 = .ok (.getfield 240, 3) := dgX12_settle_0 (40, (.getfield 240, 3)) (List.mem_of_getElem? (i := 22) rfl)
theorem dX12_settle_43 : decode cX12_settle 43 = .ok (.iaload, 1) := dgX12_settle_0 (43, (.iaload, 1)) (List.mem_of_getElem? (i := 23) rfl)
theorem dX12_settle_44 : decode cX12_settle 44 = .ok (.bipush 28, 2) := dgX12_settle_0 (44, (.bipush 28, 2)) (List.mem_of_getElem? (i := 24) rfl)
theorem dX12_settle_46 : decode cX12_settle 46 = .ok (.if_icmp .eq 17, 3) := dgX12_settle_0 (46, (.if_icmp .eq 17, 3)) (List.mem_of_getElem? (i := 25) rfl)
theorem dX12_settle_49 : decode cX12_settle 49 = .ok (.aload_n 0, 1) := dgX12_settle_0 (49, (.aload_n 0, 1)) (List.mem_of_getElem? (i := 26) rfl)
theorem dX12_settle_50 : decode cX12_settle 50 = .ok (.getfield 39, 3) := dgX12_settle_0 (50, (.getfield 39, 3)) (List.mem_of_getElem? (i := 27) rfl)
theorem dX12_settle_53 : decode cX12_settle 53 = .ok (.aload_n 0, 1) := dgX12_settle_0 (53, (.aload_n 0, 1)) (List.mem_of_getElem? (i := 28) rfl)
theorem dX12_settle_54 : decode cX12_settle 54 = .ok (.getfield 240, 3) := dgX12_settle_0 (54, (.getfield 240, 3)) (List.mem_of_getElem? (i := 29) rfl)
theorem dX12_settle_57 : decode cX12_settle 57 = .ok (.iaload, 1) := dgX12_settle_0 (57, (.iaload, 1)) (List.mem_of_getElem? (i := 30) rfl)
theorem dX12_settle_58 : decode cX12_settle 58 = .ok (.bipush 29, 2) := dgX12_settle_0 (58, (.bipush 29, 2)) (List.mem_of_getElem? (i := 31) rfl)
theorem dX12_settle_60 : decode cX12_settle 60 = .ok (.if_icmp .ne 24, 3) := dgX12_settle_0 (60, (.if_icmp .ne 24, 3)) (List.mem_of_getElem? (i := 32) rfl)
theorem dX12_settle_63 : decode cX12_settle 63 = .ok (.aload_n 0, 1) := dgX12_settle_0 (63, (.aload_n 0, 1)) (List.mem_of_getElem? (i := 33) rfl)
theorem dX12_settle_64 : decode cX12_settle 64 = .ok (.getfield 36, 3) := dgX12_settle_0 (64, (.getfield 36, 3)) (List.mem_of_getElem? (i := 34) rfl)
theorem dX12_settle_67 : decode cX12_settle 67 = .ok (.aload_n 0, 1) := dgX12_settle_0 (67, (.aload_n 0, 1)) (List.mem_of_getElem? (i := 35) rfl)
theorem dX12_settle_68 : decode cX12_settle 68 = .ok (.getfield 42, 3) := dgX12_settle_0 (68, (.getfield 42, 3)) (List.mem_of_getElem? (i := 36) rfl)
theorem dX12_settle_71 : decode cX12_settle 71 = .ok (.aload_n 0, 1) := dgX12_settle_0 (71, (.aload_n 0, 1)) (List.mem_of_getElem? (i := 37) rfl)
theorem dX12_settle_72 : decode cX12_settle 72 = .ok (.getfield 240, 3) := dgX12_settle_0 (72, (.getfield 240, 3)) (List.mem_of_getElem? (i := 38) rfl)
theorem dX12_settle_75 : decode cX12_settle 75 = .ok (.iaload, 1) := dgX12_settle_0 (75, (.iaload, 1)) (List.mem_of_getElem? (i := 39) rfl)
theorem dgX12_settle_1 : ∀ r ∈ ([(76, (.aload_n 0, 1)), (77, (.getfield 237, 3)), (80, (.iastore, 1)), (81, (.goto (-81), 3)), (84, (.aload_n 0, 1)), (85, (.aload_n 0, 1)), (86, (.getfield 39, 3)), (89, (.aload_n 0, 1)), (90, (.getfield 240, 3)), (93, (.iaload, 1)), (94, (.iconst 0, 1)), (95, (.invokevirtual 246, 3)), (98, (.goto (-98), 3)), (101, (.return_, 1))] : List (Nat × (Instr × Nat))), decode cX12_settle r.1 = .ok r.2 := by decide +kernel
theorem dX12_settle_76 : decode cX12_settle 76 = .ok (.aload_n 0, 1) := dgX12_settle_1 (76, (.aload_n 0, 1)) (List.mem_of_getElem? (i := 0) rfl)
theorem dX12_settle_77 : decode cX12_settle 77 = .ok (.getfield 237, 3) := dgX12_settle_1 (77, (.getfield 237, 3)) (List.mem_of_getElem? (i := 1) rfl)
theorem dX12_settle_80 : decode cX12_settle 80 = .ok (.iastore, 1) := dgX12_settle_1 (80, (.iastore, 1)) (List.mem_of_getElem? (i := 2) rfl)
theorem dX12_settle_81 : decode cX12_settle 81 = .ok (.goto (-81), 3) := dgX12_settle_1 (81, (.goto (-81), 3)) (List.mem_of_getElem? (i := 3) rfl)
theorem dX12_settle_84 : decode cX12_settle 84 = .ok (.aload_n 0, 1) := dgX12_settle_1 (84, (.aload_n 0, 1)) (List.mem_of_getElem? (i := 4) rfl)
theorem dX12_settle_85 : decode cX12_settle 85 = .ok (.aload_n 0, 1) := dgX12_settle_1 (85, (.aload_n 0, 1)) (List.mem_of_getElem? (i := 5) rfl)
theorem dX12_settle_86 : decode cX12_settle 86 = .ok (.getfield 39, 3) := dgX12_settle_1 (86, (.getfield 39, 3)) (List.mem_of_getElem? (i := 6) rfl)
theorem dX12_settle_89 : decode cX12_settle 89 = .ok (.aload_n 0, 1) := dgX12_settle_1 (89, (.aload_n 0, 1)) (List.mem_of_getElem? (i := 7) rfl)
theorem dX12_settle_90 : decode cX12_settle 90 = .ok (.getfield 240, 3) := dgX12_settle_1 (90, (.getfield 240, 3)) (List.mem_of_getElem? (i := 8) rfl)
theorem dX12_settle_93 : decode cX12_settle 93 = .ok (.iaload, 1) := dgX12_settle_1 (93, (.iaload, 1)) (List.mem_of_getElem? (i := 9) rfl)
theorem dX12_settle_94 : decode cX12_settle 94 = .ok (.iconst 0, 1) := dgX12_settle_1 (94, (.iconst 0, 1)) (List.mem_of_getElem? (i := 10) rfl)
theorem dX12_settle_95 : decode cX12_settle 95 = .ok (.invokevirtual 246, 3) := dgX12_settle_1 (95, (.invokevirtual 246, 3)) (List.mem_of_getElem? (i := 11) rfl)
theorem dX12_settle_98 : decode cX12_settle 98 = .ok (.goto (-98), 3) := dgX12_settle_1 (98, (.goto (-98), 3)) (List.mem_of_getElem? (i := 12) rfl)
theorem dX12_settle_101 : decode cX12_settle 101 = .ok (.return_, 1) := dgX12_settle_1 (101, (.return_, 1)) (List.mem_of_getElem? (i := 13) rfl)
theorem ml_X12_243 : Cond.methodLink RX12 243 yX12_binds ∈ tblG := tg 1571 (by decide +kernel) (by decide +kernel)
theorem st_X12_binds : Cond.static yX12_binds ∈ tblG := tg 1572 (by decide +kernel) (by decide +kernel)
theorem cd_X12_binds : Cond.code yX12_binds cX12_binds 1 (some .int) ∈ tblG := tg 1573 (by decide +kernel) (by decide +kernel)
theorem gW_X12_binds : GoodIn tblG (wsG yX12_binds cX12_binds 1 (some .int)) := tgi cd_X12_binds
theorem gS_X12_243 : GoodIn tblG (va_wsS RX12 243 yX12_binds (wsG yX12_binds cX12_binds 1 (some .int))) := tgS ml_X12_243 st_X12_binds ini_X12 gW_X12_binds
theorem hs_X12_binds : yX12_binds.cls ≠ "java/lang/invoke/MethodHandle" ∧ yX12_binds.cls ≠ "java/lang/invoke/VarHandle" ∧ (parseMethodDescriptor yX12_binds.desc).map (fun d => d.parameters.length) = some 1 := by decide +kernel
theorem ml_X12_246 : Cond.methodLink RX12 246 yX12_emit ∈ tblG := tg 1563 (by decide +kernel) (by decide +kernel)
theorem im_X12_emit : Cond.instanceMethod yX12_emit ∈ tblG := tg 1565 (by decide +kernel) (by decide +kernel)
theorem se_X12_emit : Cond.selects RX12 yX12_emit yX12_emit ∈ tblG := tg 56 (by decide +kernel) (by decide +kernel)
theorem cd_X12_emit : Cond.code yX12_emit cX12_emit 3 none ∈ tblG := tg 1566 (by decide +kernel) (by decide +kernel)
theorem gW_X12_emit : GoodIn tblG (wsG yX12_emit cX12_emit 3 none) := tgi cd_X12_emit
theorem gV_X12_246 : GoodIn tblG (wsV RX12 246 RX12 yX12_emit (wsG yX12_emit cX12_emit 3 none)) := tgV ml_X12_246 im_X12_emit se_X12_emit ini_X12 gW_X12_emit
theorem hv_X12_emit : yX12_emit.cls = RX12 ∧ yX12_emit.cls ≠ "java/lang/invoke/MethodHandle" ∧ yX12_emit.cls ≠ "java/lang/invoke/VarHandle" ∧ (parseMethodDescriptor yX12_emit.desc).map (fun d => d.parameters.length) = some 2 := by decide +kernel
set_option maxHeartbeats 4000000 in
set_option maxRecDepth 100000 in
theorem n_settleB (l : Launch) (G : g5_G) (b_o b_op b_ar b_pi b_pa b_rf b_ro b_im b_ke b_tp b_nl b_ws b_hw b_se b_re b_pt b_ip b_ah b_be b_me b_tr b_ld b_wn : Nat) (sz : Nat) (u_th : Int32) (u_sa : Int32) (u_fd : Int32) (u_td : Int32) (u_fr : Int32) (u_to : Int32) (u_so : Int32) (u_fa : Int32) (u_bd : Int32) (u_nc : Int32) (u_co : Int32) (u_le : Int32) (u_pd : Int32) (u_od : Int32) (u_la : Int32) (u_bk : Int32) (u_ce : Int32) (u_ho : Int32) (u_wy : Int32) (u_bt : Int32) (u_ps : Int32) (u_tg : Int32) (u_sn : Int32) (u_ic : Int32) (u_wd : Int32) (u_id : Int32) (p_1 : Int32) (g_a : Int32) (g_f : Int32) (u_wo : Int64) (u_va : Int64) (u_su : Int64) (u_st : Int64) (v_op : Nat → Int32) (v_ar : Nat → Int32) (v_pi : Nat → Int32) (v_pa : Nat → Int32) (g_op : Nat → Int32) (g_ar : Nat → Int32) (h_u_td : 0 ≤ u_td.toInt ∧ u_td.toInt ≤ 400) (h_u_fr : 0 ≤ u_fr.toInt ∧ u_fr.toInt ≤ 400) (h_u_to : 0 ≤ u_to.toInt ∧ u_to.toInt ≤ 400) (h_u_bd : 0 ≤ u_bd.toInt ∧ u_bd.toInt ≤ 1) (h_u_nc : 0 ≤ u_nc.toInt ∧ u_nc.toInt ≤ 12) (h_u_co : 0 ≤ u_co.toInt ∧ u_co.toInt ≤ 400) (h_u_pd : 0 ≤ u_pd.toInt ∧ u_pd.toInt ≤ 400) (h_u_la : 0 ≤ u_la.toInt ∧ u_la.toInt ≤ 4840) (h_u_bk : 0 ≤ u_bk.toInt ∧ u_bk.toInt ≤ 1) (h_u_ce : 0 ≤ u_ce.toInt ∧ u_ce.toInt ≤ 63) (h_u_ho : 0 ≤ u_ho.toInt ∧ u_ho.toInt ≤ 23) (h_u_wy : 0 ≤ u_wy.toInt ∧ u_wy.toInt ≤ 3) (h_u_bt : 0 ≤ u_bt.toInt ∧ u_bt.toInt ≤ 1000000) (h_u_ps : 0 ≤ u_ps.toInt ∧ u_ps.toInt ≤ 200) (h_u_ic : 0 ≤ u_ic.toInt ∧ u_ic.toInt ≤ 1) (h_u_id : 0 ≤ u_id.toInt ∧ u_id.toInt ≤ 1) (h_p_1 : 1 ≤ p_1.toInt ∧ p_1.toInt ≤ 6) (e_f : g_f.toInt ≤ 400) (e_x : XJ g_op g_ar v_op v_ar v_pi v_pa g_a.toInt u_co.toInt u_pd.toInt g_f.toInt) : Met l yX12_settle (wsG yX12_settle cX12_settle 2 none) ({ frames := 1, cells := 0, slots := 0, locals := 22 }) (va_Pc [.ref b_o, .int p_1] (g5_P G [(b_o, (oc12 u_th u_sa b_rf b_ro b_im b_ke u_fd b_tp u_td u_fr u_to u_so u_wo u_fa u_bd u_nc b_nl u_co b_op b_ar u_le b_pi b_pa u_pd u_od b_ws b_hw u_la b_se b_re u_bk u_va u_su u_ce u_ho u_wy u_bt u_ps b_pt u_tg u_sn b_ip u_ic b_ah b_be b_me u_wd b_tr b_ld u_st b_wn u_id)), (b_op, (arI G 400 v_op)), (b_ar, (arI G 400 v_ar)), (b_pi, (arI G 400 v_pi)), (b_pa, (arI G 400 v_pa))] sz)) (va_Qv (fun (u : va_W) => (∃ (o_co : Int32) (o_pd : Int32) (o_op : Nat → Int32) (o_ar : Nat → Int32), (0 ≤ o_co.toInt ∧ o_co.toInt ≤ 400) ∧ (0 ≤ o_pd.toInt ∧ o_pd.toInt ≤ 400) ∧ (XJ g_op g_ar o_op o_ar v_pi v_pa g_a.toInt o_co.toInt o_pd.toInt g_f.toInt) ∧ (S1 v_pi u_pd.toInt o_pd.toInt) ∧ (S2 v_pi o_pd.toInt p_1.toInt) ∧ (o_pd.toInt ≤ u_pd.toInt) ∧ (u = [(b_o, (oc12 u_th u_sa b_rf b_ro b_im b_ke u_fd b_tp u_td u_fr u_to u_so u_wo u_fa u_bd u_nc b_nl o_co b_op b_ar u_le b_pi b_pa o_pd u_od b_ws b_hw u_la b_se b_re u_bk u_va u_su u_ce u_ho u_wy u_bt u_ps b_pt u_tg u_sn b_ip u_ic b_ah b_be b_me u_wd b_tr b_ld u_st b_wn u_id)), (b_op, (arI G 400 o_op)), (b_ar, (arI G 400 o_ar)), (b_pi, (arI G 400 v_pi)), (b_pa, (arI G 400 v_pa))]))) (g5_B G (va_A [(b_o, (oc12 u_th u_sa b_rf b_ro b_im b_ke u_fd b_tp u_td u_fr u_to u_so u_wo u_fa u_bd u_nc b_nl u_co b_op b_ar u_le b_pi b_pa u_pd u_od b_ws b_hw u_la b_se b_re u_bk u_va u_su u_ce u_ho u_wy u_bt u_ps b_pt u_tg u_sn b_ip u_ic b_ah b_be b_me u_wd b_tr b_ld u_st b_wn u_id)), (b_op, (arI G 400 v_op)), (b_ar, (arI G 400 v_ar)), (b_pi, (arI G 400 v_pi)), (b_pa, (arI G 400 v_pa))] sz)) (va_A [(b_o, (oc12 u_th u_sa b_rf b_ro b_im b_ke u_fd b_tp u_td u_fr u_to u_so u_wo u_fa u_bd u_nc b_nl u_co b_op b_ar u_le b_pi b_pa u_pd u_od b_ws b_hw u_la b_se b_re u_bk u_va u_su u_ce u_ho u_wy u_bt u_ps b_pt u_tg u_sn b_ip u_ic b_ah b_be b_me u_wd b_tr b_ld u_st b_wn u_id)), (b_op, (arI G 400 v_op)), (b_ar, (arI G 400 v_ar)), (b_pi, (arI G 400 v_pi)), (b_pa, (arI G 400 v_pa))] sz)) 0 0 (va_A [(b_o, (oc12 u_th u_sa b_rf b_ro b_im b_ke u_fd b_tp u_td u_fr u_to u_so u_wo u_fa u_bd u_nc b_nl u_co b_op b_ar u_le b_pi b_pa u_pd u_od b_ws b_hw u_la b_se b_re u_bk u_va u_su u_ce u_ho u_wy u_bt u_ps b_pt u_tg u_sn b_ip u_ic b_ah b_be b_me u_wd b_tr b_ld u_st b_wn u_id)), (b_op, (arI G 400 v_op)), (b_ar, (arI G 400 v_ar)), (b_pi, (arI G 400 v_pi)), (b_pa, (arI G 400 v_pa))] sz) := by
  refine Met.ofW (cc := cX12_settle) (maxL := 2) (ret := none) (by decide) rfl ?_
  intro p e s m args below meth c s₁ B hml hv
  obtain ⟨rfl, hsz, hP, hK, hD0, hN, hT⟩ := hv
  have hx := B.exec
  have hb := B.bytes
  have hr := B.returns
  have hts : ∀ w ∈ tblG, w.before _ s = true := fun w h => atoms_spec (ws := (wsG yX12_settle cX12_settle 2 none)) B.pre w (List.mem_cons_of_mem _ h)
  have hown : s.vm.findClass RX12 = some m.cls := findClass_of_methodNamed B.named
  have hlocks := B.notSynchronized
  subst hsz
  have hD := hD0.self (sz := s.heap.size)
  generalize hAe : va_A [(b_o, (oc12 u_th u_sa b_rf b_ro b_im b_ke u_fd b_tp u_td u_fr u_to u_so u_wo u_fa u_bd u_nc b_nl u_co b_op b_ar u_le b_pi b_pa u_pd u_od b_ws b_hw u_la b_se b_re u_bk u_va u_su u_ce u_ho u_wy u_bt u_ps b_pt u_tg u_sn b_ip u_ic b_ah b_be b_me u_wd b_tr b_ld u_st b_wn u_id)), (b_op, (arI G 400 v_op)), (b_ar, (arI G 400 v_ar)), (b_pi, (arI G 400 v_pi)), (b_pa, (arI G 400 v_pa))] s.heap.size = A at hD hT ⊢
  have hA : ∀ q : Nat, s.heap.size ≤ q → A q := fun q h => by rw [← hAe]; exact Or.inr h
  have hS : va_S A s.heap s.heap [] := va_S.rf
  have hP : va_P G.1 vwCl [(b_o, (oc12 u_th u_sa b_rf b_ro b_im b_ke u_fd b_tp u_td u_fr u_to u_so u_wo u_fa u_bd u_nc b_nl u_co b_op b_ar u_le b_pi b_pa u_pd u_od b_ws b_hw u_la b_se b_re u_bk u_va u_su u_ce u_ho u_wy u_bt u_ps b_pt u_tg u_sn b_ip u_ic b_ah b_be b_me u_wd b_tr b_ld u_st b_wn u_id)), (b_op, (arI G 400 v_op)), (b_ar, (arI G 400 v_ar)), (b_pi, (arI G 400 v_pi)), (b_pa, (arI G 400 v_pa))] s.heap := hP
  have hl := lv_entry ([.ref b_o, .int p_1]) (n := 2) (Nat.le_of_ble_eq_true rfl)
  rw [lg_entry_eq]
  generalize (lg_sl ([.ref b_o, .int p_1]) ++ List.replicate (2 - (lg_sl ([.ref b_o, .int p_1])).length) Slot.unset).toArray = ls at hl ⊢
  have hl : lv_has ls 2 [(0, .ref b_o), (1, .int p_1)] := hl
  refine g5_loop (α := (Int32) × (Int32) × (Nat → Int32) × (Nat → Int32)) (fun (q : (Int32) × (Int32) × (Nat → Int32) × (Nat → Int32)) (ls : Array Slot) (H : Heap) (locs : List Loc) => match q with | (k0_co, k0_pd, k0_op, k0_ar) => lv_has ls 2 [(0, .ref b_o), (1, .int p_1)] ∧ va_P G.1 vwCl [(b_o, (oc12 u_th u_sa b_rf b_ro b_im b_ke u_fd b_tp u_td u_fr u_to u_so u_wo u_fa u_bd u_nc b_nl k0_co b_op b_ar u_le b_pi b_pa k0_pd u_od b_ws b_hw u_la b_se b_re u_bk u_va u_su u_ce u_ho u_wy u_bt u_ps b_pt u_tg u_sn b_ip u_ic b_ah b_be b_me u_wd b_tr b_ld u_st b_wn u_id)), (b_op, (arI G 400 k0_op)), (b_ar, (arI G 400 k0_ar)), (b_pi, (arI G 400 v_pi)), (b_pa, (arI G 400 v_pa))] H ∧ va_D A [(b_o, (oc12 u_th u_sa b_rf b_ro b_im b_ke u_fd b_tp u_td u_fr u_to u_so u_wo u_fa u_bd u_nc b_nl k0_co b_op b_ar u_le b_pi b_pa k0_pd u_od b_ws b_hw u_la b_se b_re u_bk u_va u_su u_ce u_ho u_wy u_bt u_ps b_pt u_tg u_sn b_ip u_ic b_ah b_be b_me u_wd b_tr b_ld u_st b_wn u_id)), (b_op, (arI G 400 k0_op)), (b_ar, (arI G 400 k0_ar)), (b_pi, (arI G 400 v_pi)), (b_pa, (arI G 400 v_pa))] ∧ va_S A s.heap H locs ∧ (0 ≤ k0_co.toInt ∧ k0_co.toInt ≤ 400) ∧ (0 ≤ k0_pd.toInt ∧ k0_pd.toInt ≤ 400) ∧ (XJ g_op g_ar k0_op k0_ar v_pi v_pa g_a.toInt k0_co.toInt k0_pd.toInt g_f.toInt) ∧ (S1 v_pi u_pd.toInt k0_pd.toInt) ∧ (k0_pd.toInt ≤ u_pd.toInt)) (fun (q : (Int32) × (Int32) × (Nat → Int32) × (Nat → Int32)) => match q with | (k0_co, k0_pd, k0_op, k0_ar) => Int.toNat (k0_pd.toInt + 1)) (u_co, u_pd, v_op, v_ar) ⟨lv_sub hl [0, 1] rfl, hP, hD, hS, h_u_co, h_u_pd, e_x, s1_0, Int.le_refl _⟩ ?_
  rintro ⟨k0_co, k0_pd, k0_op, k0_ar⟩ ls H locs ⟨hl, hP, hD, hS, i_1, i_2, i_3, i_4, i_5⟩ ih_0_6
  have hl : lv_has ls 2 [(0, .ref b_o), (1, .int p_1)] := hl
  have i_1 : 0 ≤ k0_co.toInt ∧ k0_co.toInt ≤ 400 := i_1
  have i_2 : 0 ≤ k0_pd.toInt ∧ k0_pd.toInt ≤ 400 := i_2
  have i_3 : XJ g_op g_ar k0_op k0_ar v_pi v_pa g_a.toInt k0_co.toInt k0_pd.toInt g_f.toInt := i_3
  have i_4 : S1 v_pi u_pd.toInt k0_pd.toInt := i_4
  have i_5 : k0_pd.toInt ≤ u_pd.toInt := i_5
  refine g5_rs [(b_o, (oc12 u_th u_sa b_rf b_ro b_im b_ke u_fd b_tp u_td u_fr u_to u_so u_wo u_fa u_bd u_nc b_nl k0_co b_op b_ar u_le b_pi b_pa k0_pd u_od b_ws b_hw u_la b_se b_re u_bk u_va u_su u_ce u_ho u_wy u_bt u_ps b_pt u_tg u_sn b_ip u_ic b_ah b_be b_me u_wd b_tr b_ld u_st b_wn u_id)), (b_op, (arI G 400 k0_op)), (b_ar, (arI G 400 k0_ar)), (b_pi, (arI G 400 v_pi)), (b_pa, (arI G 400 v_pa))] hP hD (fun hP hD => ?_)
  refine lv_aload_n hx hb dX12_settle_0 rfl (lv_at hl 0 rfl) ?_
  refine va_get (D := G.1) (ci := 12) (v := .int k0_pd) (C := RX12) (T := TX12) (N := 52) hx hb hts inG_X12 hown hK hP 0 rfl rfl 23 (by decide) (hts _ fl_X12_240) (fun _ h9 => h9) rfl dX12_settle_1 ?_
  refine lv_if_le (tgt := 101) hx hb dX12_settle_4 (by decide) (fun c_7 => ?_) (fun c_7 => ?_)
  ·
    have i_7 : k0_pd.toInt ≤ 0 := by have z := g5_le (a := k0_pd.toInt) (b := 0) (by rfl) (by decide) c_7; omega
    exact W.vret hx hb hr (fun t ht hW => ⟨⟨[(b_o, (oc12 u_th u_sa b_rf b_ro b_im b_ke u_fd b_tp u_td u_fr u_to u_so u_wo u_fa u_bd u_nc b_nl k0_co b_op b_ar u_le b_pi b_pa k0_pd u_od b_ws b_hw u_la b_se b_re u_bk u_va u_su u_ce u_ho u_wy u_bt u_ps b_pt u_tg u_sn b_ip u_ic b_ah b_be b_me u_wd b_tr b_ld u_st b_wn u_id)), (b_op, (arI G 400 k0_op)), (b_ar, (arI G 400 k0_ar)), (b_pi, (arI G 400 v_pi)), (b_pa, (arI G 400 v_pa))], rfl, ⟨k0_co, k0_pd, k0_op, k0_ar, i_1, i_2, i_3, i_4, Or.inl (by omega), by omega, rfl⟩, by rw [ht]; exact hP.sub [0, 1, 2, 3, 4] rfl, hD.sub [0, 1, 2, 3, 4] (by decide) rfl⟩, hS.F ht⟩) hS.2.2 dX12_settle_101
  ·
    have i_7 : k0_pd.toInt > 0 := by have z := g5_leN (a := k0_pd.toInt) (b := 0) (by rfl) (by decide) c_7; omega
    refine lv_aload_n hx hb dX12_settle_7 rfl (lv_at hl 0 rfl) ?_
    refine va_get (D := G.1) (ci := 12) (v := .ref b_pi) (C := RX12) (T := TX12) (N := 52) hx hb hts inG_X12 hown hK hP 0 rfl rfl 21 (by decide) (hts _ fl_X12_39) (fun _ h9 => h9) rfl dX12_settle_8 ?_
    refine lv_aload_n hx hb dX12_settle_11 rfl (lv_at hl 0 rfl) ?_
    refine va_get (D := G.1) (ci := 12) (v := .int k0_pd) (C := RX12) (T := TX12) (N := 52) hx hb hts inG_X12 hown hK hP 0 rfl rfl 23 (by decide) (hts _ fl_X12_240) (fun _ h9 => h9) rfl dX12_settle_12 ?_
    refine lv_iconst (v := 1) hx hb dX12_settle_15 (by decide) ?_
    refine lv_isub hx hb dX12_settle_16 ?_
    have t_8 : (k0_pd - 1).toInt = k0_pd.toInt - 1 := g5_isub (a := k0_pd.toInt) (b := 1) (by rfl) (by decide) (by omega) (by omega)
    refine va_iald hx hb hK hP 3 0 rfl rfl (i := (k0_pd - 1)) (vp_in_iff.mpr ⟨by omega, by omega⟩) dX12_settle_17 ?_
    have hv9 : 20 ≤ (v_pi (k0_pd - 1).toNatClampNeg).toInt ∧ (v_pi (k0_pd - 1).toNatClampNeg).toInt ≤ 31 := xj_at i_3 (by omega) (by omega)
    obtain ⟨hPc, hDc, hFc⟩ := g5_sub3 (wc := []) hP hD hS hA [] (by decide) rfl
    refine va_calli (va_runS (As := [.int (v_pi (k0_pd - 1).toNatClampNeg)]) (rest := []) ⟨hx, hb, hml, hown, hts⟩ (n_binds l G H.size (v_pi (k0_pd - 1).toNatClampNeg) ⟨by omega, by omega⟩) (va_cwS 1 hts gS_X12_243 rfl rfl rfl hs_X12_binds ⟨Nat.le_of_ble_eq_true rfl, Nat.le_of_ble_eq_true rfl⟩) (g5_preS hPc hK hDc hN hT hS hFc) rfl rfl hl.1 rfl (lv_room (Nat.le_of_ble_eq_true rfl)) dX12_settle_18 ⟨Nat.le_of_ble_eq_true rfl, Nat.le_of_ble_eq_true rfl⟩) hS (fun q _ h => hFc q h) hFc (fun r u t H1 locs ht hvm hw hB hz1 hk1 hS => ?_)
    obtain ⟨hP1, hD1⟩ := hB
    rw [ht] at hP1
    obtain ⟨z11, i_9, i_10, y12, rfl⟩ := hw
    have i_9 : 0 ≤ z11.toInt ∧ z11.toInt ≤ 6 := i_9
    have i_10 : z11.toInt = bnd (v_pi (k0_pd - 1).toNatClampNeg).toInt := i_10
    have hP := g5_same hP hk1
    generalize H1 = H at hP hS ⊢
    refine g5_ti (v := z11) y12 ?_
    refine lv_iload_n hx hb dX12_settle_21 rfl (lv_at hl 1 rfl) ?_
    refine lv_icmp_lt (tgt := 101) hx hb dX12_settle_22 (by decide) (fun c_13 => ?_) (fun c_13 => ?_)
    ·
      have i_13 : z11.toInt < p_1.toInt := by have z := g5_lt (a := z11.toInt) (b := p_1.toInt) (by rfl) (by rfl) c_13; omega
      exact W.vret hx hb hr (fun t ht hW => ⟨⟨[(b_o, (oc12 u_th u_sa b_rf b_ro b_im b_ke u_fd b_tp u_td u_fr u_to u_so u_wo u_fa u_bd u_nc b_nl k0_co b_op b_ar u_le b_pi b_pa k0_pd u_od b_ws b_hw u_la b_se b_re u_bk u_va u_su u_ce u_ho u_wy u_bt u_ps b_pt u_tg u_sn b_ip u_ic b_ah b_be b_me u_wd b_tr b_ld u_st b_wn u_id)), (b_op, (arI G 400 k0_op)), (b_ar, (arI G 400 k0_ar)), (b_pi, (arI G 400 v_pi)), (b_pa, (arI G 400 v_pa))], rfl, ⟨k0_co, k0_pd, k0_op, k0_ar, i_1, i_2, i_3, i_4, s2_lt (p' := (k0_pd - 1)) (by omega) (by omega) (by omega), by omega, rfl⟩, by rw [ht]; exact hP.sub [0, 1, 2, 3, 4] rfl, hD.sub [0, 1, 2, 3, 4] (by decide) rfl⟩, hS.F ht⟩) hS.2.2 dX12_settle_101
    ·
      have i_13 : z11.toInt ≥ p_1.toInt := by have z := g5_ltN (a := z11.toInt) (b := p_1.toInt) (by rfl) (by rfl) c_13; omega
      have hw9 : (v_pi (k0_pd - 1).toNatClampNeg).toInt < 30 := bnd_ge1 (by omega)
      refine lv_aload_n hx hb dX12_settle_25 rfl (lv_at hl 0 rfl) ?_
      refine lv_dup hx hb dX12_settle_26 rfl ?_
      refine va_get (D := G.1) (ci := 12) (v := .int k0_pd) (C := RX12) (T := TX12) (N := 52) hx hb hts inG_X12 hown hK hP 0 rfl rfl 23 (by decide) (hts _ fl_X12_240) (fun _ h9 => h9) rfl dX12_settle_27 ?_
      refine lv_iconst (v := 1) hx hb dX12_settle_30 (by decide) ?_
      refine lv_isub hx hb dX12_settle_31 ?_
      have t_14 : (k0_pd - 1).toInt = k0_pd.toInt - 1 := g5_isub (a := k0_pd.toInt) (b := 1) (by rfl) (by decide) (by omega) (by omega)
      refine va_put (D := G.1) (ci := 12) (v := .int (k0_pd - 1)) (ty := .int) (C := RX12) (T := TX12) (N := 52) hx hb hts inG_X12 tyX12 tyX12_ok nmX12 hown hK hP hD hS 0 rfl rfl 23 (by decide) (hts _ fl_X12_240) (fun _ h9 => h9) rfl (by decide +kernel) rfl rfl (Nat.le_of_ble_eq_true rfl) dX12_settle_32 (fun H locs hP hD hS => ?_)
      refine g5_rs [(b_o, (oc12 u_th u_sa b_rf b_ro b_im b_ke u_fd b_tp u_td u_fr u_to u_so u_wo u_fa u_bd u_nc b_nl k0_co b_op b_ar u_le b_pi b_pa (k0_pd - 1) u_od b_ws b_hw u_la b_se b_re u_bk u_va u_su u_ce u_ho u_wy u_bt u_ps b_pt u_tg u_sn b_ip u_ic b_ah b_be b_me u_wd b_tr b_ld u_st b_wn u_id)), (b_op, (arI G 400 k0_op)), (b_ar, (arI G 400 k0_ar)), (b_pi, (arI G 400 v_pi)), (b_pa, (arI G 400 v_pa))] hP hD (fun hP hD => ?_)
      refine lv_aload_n hx hb dX12_settle_35 rfl (lv_at hl 0 rfl) ?_
      refine va_get (D := G.1) (ci := 12) (v := .ref b_pi) (C := RX12) (T := TX12) (N := 52) hx hb hts inG_X12 hown hK hP 0 rfl rfl 21 (by decide) (hts _ fl_X12_39) (fun _ h9 => h9) rfl dX12_settle_36 ?_
      refine lv_aload_n hx hb dX12_settle_39 rfl (lv_at hl 0 rfl) ?_
      refine va_get (D := G.1) (ci := 12) (v := .int (k0_pd - 1)) (C := RX12) (T := TX12) (N := 52) hx hb hts inG_X12 hown hK hP 0 rfl rfl 23 (by decide) (hts _ fl_X12_240) (fun _ h9 => h9) rfl dX12_settle_40 ?_
      refine va_iald hx hb hK hP 3 0 rfl rfl (i := (k0_pd - 1)) (vp_in_iff.mpr ⟨by omega, by omega⟩) dX12_settle_43 ?_
      refine lv_bipush (v := 28) hx hb dX12_settle_44 (by decide) ?_
      refine lv_icmp_eq (tgt := 63) hx hb dX12_settle_46 (by decide) (fun c_15 => ?_) (fun c_15 => ?_)
      ·
        have i_15 : (v_pi (k0_pd - 1).toNatClampNeg).toInt = 28 := by have z := g5_eq (a := (v_pi (k0_pd - 1).toNatClampNeg).toInt) (b := 28) (by rfl) (by decide) c_15; omega
        have hj9 : isJ (v_pi (k0_pd - 1).toNatClampNeg) := by unfold isJ; omega
        refine lv_aload_n hx hb dX12_settle_63 rfl (lv_at hl 0 rfl) ?_
        refine va_get (D := G.1) (ci := 12) (v := .ref b_ar) (C := RX12) (T := TX12) (N := 52) hx hb hts inG_X12 hown hK hP 0 rfl rfl 19 (by decide) (hts _ fl_X12_36) (fun _ h9 => h9) rfl dX12_settle_64 ?_
        refine lv_aload_n hx hb dX12_settle_67 rfl (lv_at hl 0 rfl) ?_
        refine va_get (D := G.1) (ci := 12) (v := .ref b_pa) (C := RX12) (T := TX12) (N := 52) hx hb hts inG_X12 hown hK hP 0 rfl rfl 22 (by decide) (hts _ fl_X12_42) (fun _ h9 => h9) rfl dX12_settle_68 ?_
        refine lv_aload_n hx hb dX12_settle_71 rfl (lv_at hl 0 rfl) ?_
        refine va_get (D := G.1) (ci := 12) (v := .int (k0_pd - 1)) (C := RX12) (T := TX12) (N := 52) hx hb hts inG_X12 hown hK hP 0 rfl rfl 23 (by decide) (hts _ fl_X12_240) (fun _ h9 => h9) rfl dX12_settle_72 ?_
        refine va_iald hx hb hK hP 4 0 rfl rfl (i := (k0_pd - 1)) (vp_in_iff.mpr ⟨by omega, by omega⟩) dX12_settle_75 ?_
        have hq9 : 0 ≤ (v_pa (k0_pd - 1).toNatClampNeg).toInt ∧ (v_pa (k0_pd - 1).toNatClampNeg).toInt ≤ 399 := xj_pa i_3 (by omega) (by omega) (by omega) hj9
        refine lv_aload_n hx hb dX12_settle_76 rfl (lv_at hl 0 rfl) ?_
        refine va_get (D := G.1) (ci := 12) (v := .int k0_co) (C := RX12) (T := TX12) (N := 52) hx hb hts inG_X12 hown hK hP 0 rfl rfl 17 (by decide) (hts _ fl_X12_237) (fun _ h9 => h9) rfl dX12_settle_77 ?_
        refine va_iast hx hb hK hP hD hS 2 0 rfl rfl (i := (v_pa (k0_pd - 1).toNatClampNeg)) (x := k0_co) (vp_in_iff.mpr ⟨by omega, by omega⟩) dX12_settle_80 (fun H locs hP hD hS => ?_)
        refine g5_rs [(b_o, (oc12 u_th u_sa b_rf b_ro b_im b_ke u_fd b_tp u_td u_fr u_to u_so u_wo u_fa u_bd u_nc b_nl k0_co b_op b_ar u_le b_pi b_pa (k0_pd - 1) u_od b_ws b_hw u_la b_se b_re u_bk u_va u_su u_ce u_ho u_wy u_bt u_ps b_pt u_tg u_sn b_ip u_ic b_ah b_be b_me u_wd b_tr b_ld u_st b_wn u_id)), (b_op, (arI G 400 k0_op)), (b_ar, (arI G 400 (upd k0_ar (v_pa (k0_pd - 1).toNatClampNeg).toNatClampNeg k0_co))), (b_pi, (arI G 400 v_pi)), (b_pa, (arI G 400 v_pa))] hP hD (fun hP hD => ?_)
        refine lv_goto (tgt := 0) hx hb dX12_settle_81 (by decide) ?_
        exact ih_0_6 (k0_co, (k0_pd - 1), k0_op, (upd k0_ar (v_pa (k0_pd - 1).toNatClampNeg).toNatClampNeg k0_co)) ls H locs (show Int.toNat ((k0_pd - 1).toInt + 1) < Int.toNat (k0_pd.toInt + 1) from g_dn (show (k0_pd - 1).toInt < k0_pd.toInt by omega) (show 0 ≤ k0_pd.toInt by omega)) ⟨lv_sub hl [0, 1] rfl, hP, hD, hS, i_1, ⟨by omega, by omega⟩, xj_popJ i_3 (by omega) (by omega) hj9, s1_S i_4 (by omega) (by omega) (by omega), by omega⟩
      ·
        have n_15 : gNe ((v_pi (k0_pd - 1).toNatClampNeg).toInt) (28) := by have z := g5_eqN (a := (v_pi (k0_pd - 1).toNatClampNeg).toInt) (b := 28) (by rfl) (by decide) c_15; unfold gNe; omega
        refine lv_aload_n hx hb dX12_settle_49 rfl (lv_at hl 0 rfl) ?_
        refine va_get (D := G.1) (ci := 12) (v := .ref b_pi) (C := RX12) (T := TX12) (N := 52) hx hb hts inG_X12 hown hK hP 0 rfl rfl 21 (by decide) (hts _ fl_X12_39) (fun _ h9 => h9) rfl dX12_settle_50 ?_
        refine lv_aload_n hx hb dX12_settle_53 rfl (lv_at hl 0 rfl) ?_
        refine va_get (D := G.1) (ci := 12) (v := .int (k0_pd - 1)) (C := RX12) (T := TX12) (N := 52) hx hb hts inG_X12 hown hK hP 0 rfl rfl 23 (by decide) (hts _ fl_X12_240) (fun _ h9 => h9) rfl dX12_settle_54 ?_
        refine va_iald hx hb hK hP 3 0 rfl rfl (i := (k0_pd - 1)) (vp_in_iff.mpr ⟨by omega, by omega⟩) dX12_settle_57 ?_
        refine lv_bipush (v := 29) hx hb dX12_settle_58 (by decide) ?_
        refine lv_icmp_ne (tgt := 84) hx hb dX12_settle_60 (by decide) (fun c_16 => ?_) (fun c_16 => ?_)
        ·
          have n_16 : gNe ((v_pi (k0_pd - 1).toNatClampNeg).toInt) (29) := by have z := g5_ne (a := (v_pi (k0_pd - 1).toNatClampNeg).toInt) (b := 29) (by rfl) (by decide) c_16; unfold gNe; omega
          have i_16 : (v_pi (k0_pd - 1).toNatClampNeg).toInt ≤ 28 := by have z := g5_ne (a := (v_pi (k0_pd - 1).toNatClampNeg).toInt) (b := 29) (by rfl) (by decide) c_16; omega
          have hx28 : (v_pi (k0_pd - 1).toNatClampNeg).toInt < 28 := by have q9 : ¬ (v_pi (k0_pd - 1).toNatClampNeg).toInt = 28 := n_15; omega
          have hc9 : k0_co.toInt < 400 := xj_room i_3 (by omega) (by omega) (by omega) hx28
          refine lv_aload_n hx hb dX12_settle_84 rfl (lv_at hl 0 rfl) ?_
          refine lv_aload_n hx hb dX12_settle_85 rfl (lv_at hl 0 rfl) ?_
          refine va_get (D := G.1) (ci := 12) (v := .ref b_pi) (C := RX12) (T := TX12) (N := 52) hx hb hts inG_X12 hown hK hP 0 rfl rfl 21 (by decide) (hts _ fl_X12_39) (fun _ h9 => h9) rfl dX12_settle_86 ?_
          refine lv_aload_n hx hb dX12_settle_89 rfl (lv_at hl 0 rfl) ?_
          refine va_get (D := G.1) (ci := 12) (v := .int (k0_pd - 1)) (C := RX12) (T := TX12) (N := 52) hx hb hts inG_X12 hown hK hP 0 rfl rfl 23 (by decide) (hts _ fl_X12_240) (fun _ h9 => h9) rfl dX12_settle_90 ?_
          refine va_iald hx hb hK hP 3 0 rfl rfl (i := (k0_pd - 1)) (vp_in_iff.mpr ⟨by omega, by omega⟩) dX12_settle_93 ?_
          refine lv_iconst (v := 0) hx hb dX12_settle_94 (by decide) ?_
          obtain ⟨hPc, hDc, hFc⟩ := g5_sub3 (wc := [(b_o, (oc12 u_th u_sa b_rf b_ro b_im b_ke u_fd b_tp u_td u_fr u_to u_so u_wo u_fa u_bd u_nc b_nl k0_co b_op b_ar u_le b_pi b_pa (k0_pd - 1) u_od b_ws b_hw u_la b_se b_re u_bk u_va u_su u_ce u_ho u_wy u_bt u_ps b_pt u_tg u_sn b_ip u_ic b_ah b_be b_me u_wd b_tr b_ld u_st b_wn u_id)), (b_op, (arI G 400 k0_op)), (b_ar, (arI G 400 k0_ar))]) hP hD hS hA [0, 1, 2] (by decide) rfl
          refine va_callv (va_runV (As := [.int (v_pi (k0_pd - 1).toNatClampNeg), .int 0]) (rest := []) ⟨hx, hb, hml, hown, hts⟩ (n_emit l G b_o b_op b_ar b_rf b_ro b_im b_ke b_tp b_nl b_pi b_pa b_ws b_hw b_se b_re b_pt b_ip b_ah b_be b_me b_tr b_ld b_wn H.size u_th u_sa u_fd u_td u_fr u_to u_so u_fa u_bd u_nc k0_co u_le (k0_pd - 1) u_od u_la u_bk u_ce u_ho u_wy u_bt u_ps u_tg u_sn u_ic u_wd u_id (v_pi (k0_pd - 1).toNatClampNeg) 0 u_wo u_va u_su u_st k0_op k0_ar h_u_td h_u_fr h_u_to h_u_bd h_u_nc i_1 ⟨by omega, by omega⟩ h_u_la h_u_bk h_u_ce h_u_ho h_u_wy h_u_bt h_u_ps h_u_ic h_u_id (by omega)) (cwV 2 hts gV_X12_246 rfl rfl rfl hv_X12_emit ⟨Nat.le_of_ble_eq_true rfl, Nat.le_of_ble_eq_true rfl⟩) (g5_preV hPc hK hDc hN hT hS hFc (ci := 12) (q0 := 0) rfl rfl) rfl rfl hl.1 rfl (lv_room (Nat.le_of_ble_eq_true rfl)) dX12_settle_95 ⟨Nat.le_of_ble_eq_true rfl, Nat.le_of_ble_eq_true rfl⟩) hS (fun q _ h => hFc q h) hFc (fun u t H1 locs ht hvm hw hB hz1 hk1 hS => ?_)
          obtain ⟨hP1, hD1⟩ := hB
          rw [ht] at hP1
          obtain ⟨z19, i_17, i_18, rfl⟩ := hw
          have i_17 : 0 ≤ z19.toInt ∧ z19.toInt ≤ 400 := i_17
          have i_18 : z19.toInt = k0_co.toInt + 1 := i_18
          obtain ⟨hP, hD⟩ := va_join (wr := [(b_pi, (arI G 400 v_pi)), (b_pa, (arI G 400 v_pa))]) hP hD [0, 1, 2] [3, 4] rfl rfl (by decide) (by decide) hk1 hFc hP1 hD1
          generalize H1 = H at hP hS ⊢
          refine g5_rs [(b_pi, (arI G 400 v_pi)), (b_pa, (arI G 400 v_pa)), (b_o, (oc12 u_th u_sa b_rf b_ro b_im b_ke u_fd b_tp u_td u_fr u_to u_so u_wo u_fa u_bd u_nc b_nl z19 b_op b_ar u_le b_pi b_pa (k0_pd - 1) u_od b_ws b_hw u_la b_se b_re u_bk u_va u_su u_ce u_ho u_wy u_bt u_ps b_pt u_tg u_sn b_ip u_ic b_ah b_be b_me u_wd b_tr b_ld u_st b_wn u_id)), (b_op, (arI G 400 (upd k0_op k0_co.toNatClampNeg (v_pi (k0_pd - 1).toNatClampNeg)))), (b_ar, (arI G 400 (upd k0_ar k0_co.toNatClampNeg 0)))] hP hD (fun hP hD => ?_)
          refine lv_goto (tgt := 0) hx hb dX12_settle_98 (by decide) ?_
          exact ih_0_6 (z19, (k0_pd - 1), (upd k0_op k0_co.toNatClampNeg (v_pi (k0_pd - 1).toNatClampNeg)), (upd k0_ar k0_co.toNatClampNeg 0)) ls H locs (show Int.toNat ((k0_pd - 1).toInt + 1) < Int.toNat (k0_pd.toInt + 1) from g_dn (show (k0_pd - 1).toInt < k0_pd.toInt by omega) (show 0 ≤ k0_pd.toInt by omega)) ⟨lv_sub hl [0, 1] rfl, hP.sub [2, 3, 4, 0, 1] rfl, hD.sub [2, 3, 4, 0, 1] (by decide) rfl, hS, i_17, ⟨by omega, by omega⟩, xj_popE i_3 (by omega) (by omega) (by omega) hx28, s1_S i_4 (by omega) (by omega) (by omega), by omega⟩
        ·
          have i_16 : (v_pi (k0_pd - 1).toNatClampNeg).toInt = 29 := by have z := g5_neN (a := (v_pi (k0_pd - 1).toNatClampNeg).toInt) (b := 29) (by rfl) (by decide) c_16; omega
          have hj9 : isJ (v_pi (k0_pd - 1).toNatClampNeg) := by unfold isJ; omega
          refine lv_aload_n hx hb dX12_settle_63 rfl (lv_at hl 0 rfl) ?_
          refine va_get (D := G.1) (ci := 12) (v := .ref b_ar) (C := RX12) (T := TX12) (N := 52) hx hb hts inG_X12 hown hK hP 0 rfl rfl 19 (by decide) (hts _ fl_X12_36) (fun _ h9 => h9) rfl dX12_settle_64 ?_
          refine lv_aload_n hx hb dX12_settle_67 rfl (lv_at hl 0 rfl) ?_
          refine va_get (D := G.1) (ci := 12) (v := .ref b_pa) (C := RX12) (T := TX12) (N := 52) hx hb hts inG_X12 hown hK hP 0 rfl rfl 22 (by decide) (hts _ fl_X12_42) (fun _ h9 => h9) rfl dX12_settle_68 ?_
          refine lv_aload_n hx hb dX12_settle_71 rfl (lv_at hl 0 rfl) ?_
          refine va_get (D := G.1) (ci := 12) (v := .int (k0_pd - 1)) (C := RX12) (T := TX12) (N := 52) hx hb hts inG_X12 hown hK hP 0 rfl rfl 23 (by decide) (hts _ fl_X12_240) (fun _ h9 => h9) rfl dX12_settle_72 ?_
          refine va_iald hx hb hK hP 4 0 rfl rfl (i := (k0_pd - 1)) (vp_in_iff.mpr ⟨by omega, by omega⟩) dX12_settle_75 ?_
          have hq9 : 0 ≤ (v_pa (k0_pd - 1).toNatClampNeg).toInt ∧ (v_pa (k0_pd - 1).toNatClampNeg).toInt ≤ 399 := xj_pa i_3 (by omega) (by omega) (by omega) hj9
          refine lv_aload_n hx hb dX12_settle_76 rfl (lv_at hl 0 rfl) ?_
          refine va_get (D := G.1) (ci := 12) (v := .int k0_co) (C := RX12) (T := TX12) (N := 52) hx hb hts inG_X12 hown hK hP 0 rfl rfl 17 (by decide) (hts _ fl_X12_237) (fun _ h9 => h9) rfl dX12_settle_77 ?_
          refine va_iast hx hb hK hP hD hS 2 0 rfl rfl (i := (v_pa (k0_pd - 1).toNatClampNeg)) (x := k0_co) (vp_in_iff.mpr ⟨by omega, by omega⟩) dX12_settle_80 (fun H locs hP hD hS => ?_)
          refine g5_rs [(b_o, (oc12 u_th u_sa b_rf b_ro b_im b_ke u_fd b_tp u_td u_fr u_to u_so u_wo u_fa u_bd u_nc b_nl k0_co b_op b_ar u_le b_pi b_pa (k0_pd - 1) u_od b_ws b_hw u_la b_se b_re u_bk u_va u_su u_ce u_ho u_wy u_bt u_ps b_pt u_tg u_sn b_ip u_ic b_ah b_be b_me u_wd b_tr b_ld u_st b_wn u_id)), (b_op, (arI G 400 k0_op)), (b_ar, (arI G 400 (upd k0_ar (v_pa (k0_pd - 1).toNatClampNeg).toNatClampNeg k0_co))), (b_pi, (arI G 400 v_pi)), (b_pa, (arI G 400 v_pa))] hP hD (fun hP hD => ?_)
          refine lv_goto (tgt := 0) hx hb dX12_settle_81 (by decide) ?_
          exact ih_0_6 (k0_co, (k0_pd - 1), k0_op, (upd k0_ar (v_pa (k0_pd - 1).toNatClampNeg).toNatClampNeg k0_co)) ls H locs (show Int.toNat ((k0_pd - 1).toInt + 1) < Int.toNat (k0_pd.toInt + 1) from g_dn (show (k0_pd - 1).toInt < k0_pd.toInt by omega) (show 0 ≤ k0_pd.toInt by omega)) ⟨lv_sub hl [0, 1] rfl, hP, hD, hS, i_1, ⟨by omega, by omega⟩, xj_popJ i_3 (by omega) (by omega) hj9, s1_S i_4 (by omega) (by omega) (by omega), by omega⟩
set_option maxHeartbeats 4000000 in
set_option maxRecDepth 100000 in
theorem n_settleH (l : Launch) (G : g5_G) (b_o b_op b_ar b_pi b_pa b_rf b_ro b_im b_ke b_tp b_nl b_ws b_hw b_se b_re b_pt b_ip b_ah b_be b_me b_tr b_ld b_wn : Nat) (sz : Nat) (u_th : Int32) (u_sa : Int32) (u_fd : Int32) (u_td : Int32) (u_fr : Int32) (u_to : Int32) (u_so : Int32) (u_fa : Int32) (u_bd : Int32) (u_nc : Int32) (u_co : Int32) (u_le : Int32) (u_pd : Int32) (u_od : Int32) (u_la : Int32) (u_bk : Int32) (u_ce : Int32) (u_ho : Int32) (u_wy : Int32) (u_bt : Int32) (u_ps : Int32) (u_tg : Int32) (u_sn : Int32) (u_ic : Int32) (u_wd : Int32) (u_id : Int32) (p_1 : Int32) (g_a : Int32) (g_f : Int32) (u_wo : Int64) (u_va : Int64) (u_su : Int64) (u_st : Int64) (v_op : Nat → Int32) (v_ar : Nat → Int32) (v_pi : Nat → Int32) (v_pa : Nat → Int32) (g_op : Nat → Int32) (g_ar : Nat → Int32) (h_u_td : 0 ≤ u_td.toInt ∧ u_td.toInt ≤ 400) (h_u_fr : 0 ≤ u_fr.toInt ∧ u_fr.toInt ≤ 400) (h_u_to : 0 ≤ u_to.toInt ∧ u_to.toInt ≤ 400) (h_u_bd : 0 ≤ u_bd.toInt ∧ u_bd.toInt ≤ 1) (h_u_nc : 0 ≤ u_nc.toInt ∧ u_nc.toInt ≤ 12) (h_u_co : 0 ≤ u_co.toInt ∧ u_co.toInt ≤ 400) (h_u_pd : 0 ≤ u_pd.toInt ∧ u_pd.toInt ≤ 400) (h_u_la : 0 ≤ u_la.toInt ∧ u_la.toInt ≤ 4840) (h_u_bk : 0 ≤ u_bk.toInt ∧ u_bk.toInt ≤ 1) (h_u_ce : 0 ≤ u_ce.toInt ∧ u_ce.toInt ≤ 63) (h_u_ho : 0 ≤ u_ho.toInt ∧ u_ho.toInt ≤ 23) (h_u_wy : 0 ≤ u_wy.toInt ∧ u_wy.toInt ≤ 3) (h_u_bt : 0 ≤ u_bt.toInt ∧ u_bt.toInt ≤ 1000000) (h_u_ps : 0 ≤ u_ps.toInt ∧ u_ps.toInt ≤ 200) (h_u_ic : 0 ≤ u_ic.toInt ∧ u_ic.toInt ≤ 1) (h_u_id : 0 ≤ u_id.toInt ∧ u_id.toInt ≤ 1) (h_p_1 : 1 ≤ p_1.toInt ∧ p_1.toInt ≤ 6) (e_f : g_f.toInt ≤ 400) (e_x : XJ g_op g_ar v_op v_ar v_pi v_pa g_a.toInt u_co.toInt u_pd.toInt g_f.toInt) (e_h : HJ v_op v_ar v_pi v_pa g_a.toInt u_co.toInt u_pd.toInt 1) : Met l yX12_settle (wsG yX12_settle cX12_settle 2 none) ({ frames := 1, cells := 0, slots := 0, locals := 22 }) (va_Pc [.ref b_o, .int p_1] (g5_P G [(b_o, (oc12 u_th u_sa b_rf b_ro b_im b_ke u_fd b_tp u_td u_fr u_to u_so u_wo u_fa u_bd u_nc b_nl u_co b_op b_ar u_le b_pi b_pa u_pd u_od b_ws b_hw u_la b_se b_re u_bk u_va u_su u_ce u_ho u_wy u_bt u_ps b_pt u_tg u_sn b_ip u_ic b_ah b_be b_me u_wd b_tr b_ld u_st b_wn u_id)), (b_op, (arI G 400 v_op)), (b_ar, (arI G 400 v_ar)), (b_pi, (arI G 400 v_pi)), (b_pa, (arI G 400 v_pa))] sz)) (va_Qv (fun (u : va_W) => (∃ (o_co : Int32) (o_pd : Int32) (o_op : Nat → Int32) (o_ar : Nat → Int32), (0 ≤ o_co.toInt ∧ o_co.toInt ≤ 400) ∧ (0 ≤ o_pd.toInt ∧ o_pd.toInt ≤ 400) ∧ (XJ g_op g_ar o_op o_ar v_pi v_pa g_a.toInt o_co.toInt o_pd.toInt g_f.toInt) ∧ (HJ o_op o_ar v_pi v_pa g_a.toInt o_co.toInt o_pd.toInt 1) ∧ (S1 v_pi u_pd.toInt o_pd.toInt) ∧ (S2 v_pi o_pd.toInt p_1.toInt) ∧ (o_pd.toInt ≤ u_pd.toInt) ∧ (u = [(b_o, (oc12 u_th u_sa b_rf b_ro b_im b_ke u_fd b_tp u_td u_fr u_to u_so u_wo u_fa u_bd u_nc b_nl o_co b_op b_ar u_le b_pi b_pa o_pd u_od b_ws b_hw u_la b_se b_re u_bk u_va u_su u_ce u_ho u_wy u_bt u_ps b_pt u_tg u_sn b_ip u_ic b_ah b_be b_me u_wd b_tr b_ld u_st b_wn u_id)), (b_op, (arI G 400 o_op)), (b_ar, (arI G 400 o_ar)), (b_pi, (arI G 400 v_pi)), (b_pa, (arI G 400 v_pa))]))) (g5_B G (va_A [(b_o, (oc12 u_th u_sa b_rf b_ro b_im b_ke u_fd b_tp u_td u_fr u_to u_so u_wo u_fa u_bd u_nc b_nl u_co b_op b_ar u_le b_pi b_pa u_pd u_od b_ws b_hw u_la b_se b_re u_bk u_va u_su u_ce u_ho u_wy u_bt u_ps b_pt u_tg u_sn b_ip u_ic b_ah b_be b_me u_wd b_tr b_ld u_st b_wn u_id)), (b_op, (arI G 400 v_op)), (b_ar, (arI G 400 v_ar)), (b_pi, (arI G 400 v_pi)), (b_pa, (arI G 400 v_pa))] sz)) (va_A [(b_o, (oc12 u_th u_sa b_rf b_ro b_im b_ke u_fd b_tp u_td u_fr u_to u_so u_wo u_fa u_bd u_nc b_nl u_co b_op b_ar u_le b_pi b_pa u_pd u_od b_ws b_hw u_la b_se b_re u_bk u_va u_su u_ce u_ho u_wy u_bt u_ps b_pt u_tg u_sn b_ip u_ic b_ah b_be b_me u_wd b_tr b_ld u_st b_wn u_id)), (b_op, (arI G 400 v_op)), (b_ar, (arI G 400 v_ar)), (b_pi, (arI G 400 v_pi)), (b_pa, (arI G 400 v_pa))] sz)) 0 0 (va_A [(b_o, (oc12 u_th u_sa b_rf b_ro b_im b_ke u_fd b_tp u_td u_fr u_to u_so u_wo u_fa u_bd u_nc b_nl u_co b_op b_ar u_le b_pi b_pa u_pd u_od b_ws b_hw u_la b_se b_re u_bk u_va u_su u_ce u_ho u_wy u_bt u_ps b_pt u_tg u_sn b_ip u_ic b_ah b_be b_me u_wd b_tr b_ld u_st b_wn u_id)), (b_op, (arI G 400 v_op)), (b_ar, (arI G 400 v_ar)), (b_pi, (arI G 400 v_pi)), (b_pa, (arI G 400 v_pa))] sz) := by
  refine Met.ofW (cc := cX12_settle) (maxL := 2) (ret := none) (by decide) rfl ?_
  intro p e s m args below meth c s₁ B hml hv
  obtain ⟨rfl, hsz, hP, hK, hD0, hN, hT⟩ := hv
  have hx := B.exec
  have hb := B.bytes
  have hr := B.returns
  have hts : ∀ w ∈ tblG, w.before _ s = true := fun w h => atoms_spec (ws := (wsG yX12_settle cX12_settle 2 none)) B.pre w (List.mem_cons_of_mem _ h)
  have hown : s.vm.findClass RX12 = some m.cls := findClass_of_methodNamed B.named
  have hlocks := B.notSynchronized
  subst hsz
  have hD := hD0.self (sz := s.heap.size)
  generalize hAe : va_A [(b_o, (oc12 u_th u_sa b_rf b_ro b_im b_ke u_fd b_tp u_td u_fr u_to u_so u_wo u_fa u_bd u_nc b_nl u_co b_op b_ar u_le b_pi b_pa u_pd u_od b_ws b_hw u_la b_se b_re u_bk u_va u_su u_ce u_ho u_wy u_bt u_ps b_pt u_tg u_sn b_ip u_ic b_ah b_be b_me u_wd b_tr b_ld u_st b_wn u_id)), (b_op, (arI G 400 v_op)), (b_ar, (arI G 400 v_ar)), (b_pi, (arI G 400 v_pi)), (b_pa, (arI G 400 v_pa))] s.heap.size = A at hD hT ⊢
  have hA : ∀ q : Nat, s.heap.size ≤ q → A q := fun q h => by rw [← hAe]; exact Or.inr h
  have hS : va_S A s.heap s.heap [] := va_S.rf
  have hP : va_P G.1 vwCl [(b_o, (oc12 u_th u_sa b_rf b_ro b_im b_ke u_fd b_tp u_td u_fr u_to u_so u_wo u_fa u_bd u_nc b_nl u_co b_op b_ar u_le b_pi b_pa u_pd u_od b_ws b_hw u_la b_se b_re u_bk u_va u_su u_ce u_ho u_wy u_bt u_ps b_pt u_tg u_sn b_ip u_ic b_ah b_be b_me u_wd b_tr b_ld u_st b_wn u_id)), (b_op, (arI G 400 v_op)), (b_ar, (arI G 400 v_ar)), (b_pi, (arI G 400 v_pi)), (b_pa, (arI G 400 v_pa))] s.heap := hP
  have hl := lv_entry ([.ref b_o, .int p_1]) (n := 2) (Nat.le_of_ble_eq_true rfl)
  rw [lg_entry_eq]
  generalize (lg_sl ([.ref b_o, .int p_1]) ++ List.replicate (2 - (lg_sl ([.ref b_o, .int p_1])).length) Slot.unset).toArray = ls at hl ⊢
  have hl : lv_has ls 2 [(0, .ref b_o), (1, .int p_1)] := hl
  refine g5_loop (α := (Int32) × (Int32) × (Nat → Int32) × (Nat → Int32)) (fun (q : (Int32) × (Int32) × (Nat → Int32) × (Nat → Int32)) (ls : Array Slot) (H : Heap) (locs : List Loc) => match q with | (k0_co, k0_pd, k0_op, k0_ar) => lv_has ls 2 [(0, .ref b_o), (1, .int p_1)] ∧ va_P G.1 vwCl [(b_o, (oc12 u_th u_sa b_rf b_ro b_im b_ke u_fd b_tp u_td u_fr u_to u_so u_wo u_fa u_bd u_nc b_nl k0_co b_op b_ar u_le b_pi b_pa k0_pd u_od b_ws b_hw u_la b_se b_re u_bk u_va u_su u_ce u_ho u_wy u_bt u_ps b_pt u_tg u_sn b_ip u_ic b_ah b_be b_me u_wd b_tr b_ld u_st b_wn u_id)), (b_op, (arI G 400 k0_op)), (b_ar, (arI G 400 k0_ar)), (b_pi, (arI G 400 v_pi)), (b_pa, (arI G 400 v_pa))] H ∧ va_D A [(b_o, (oc12 u_th u_sa b_rf b_ro b_im b_ke u_fd b_tp u_td u_fr u_to u_so u_wo u_fa u_bd u_nc b_nl k0_co b_op b_ar u_le b_pi b_pa k0_pd u_od b_ws b_hw u_la b_se b_re u_bk u_va u_su u_ce u_ho u_wy u_bt u_ps b_pt u_tg u_sn b_ip u_ic b_ah b_be b_me u_wd b_tr b_ld u_st b_wn u_id)), (b_op, (arI G 400 k0_op)), (b_ar, (arI G 400 k0_ar)), (b_pi, (arI G 400 v_pi)), (b_pa, (arI G 400 v_pa))] ∧ va_S A s.heap H locs ∧ (0 ≤ k0_co.toInt ∧ k0_co.toInt ≤ 400) ∧ (0 ≤ k0_pd.toInt ∧ k0_pd.toInt ≤ 400) ∧ (XJ g_op g_ar k0_op k0_ar v_pi v_pa g_a.toInt k0_co.toInt k0_pd.toInt g_f.toInt) ∧ (HJ k0_op k0_ar v_pi v_pa g_a.toInt k0_co.toInt k0_pd.toInt 1) ∧ (S1 v_pi u_pd.toInt k0_pd.toInt) ∧ (k0_pd.toInt ≤ u_pd.toInt)) (fun (q : (Int32) × (Int32) × (Nat → Int32) × (Nat → Int32)) => match q with | (k0_co, k0_pd, k0_op, k0_ar) => Int.toNat (k0_pd.toInt + 1)) (u_co, u_pd, v_op, v_ar) ⟨lv_sub hl [0, 1] rfl, hP, hD, hS, h_u_co, h_u_pd, e_x, e_h, s1_0, Int.le_refl _⟩ ?_
  rintro ⟨k0_co, k0_pd, k0_op, k0_ar⟩ ls H locs ⟨hl, hP, hD, hS, i_1, i_2, i_3, i_4, i_5, i_6⟩ ih_0_7
  have hl : lv_has ls 2 [(0, .ref b_o), (1, .int p_1)] := hl
  have i_1 : 0 ≤ k0_co.toInt ∧ k0_co.toInt ≤ 400 := i_1
  have i_2 : 0 ≤ k0_pd.toInt ∧ k0_pd.toInt ≤ 400 := i_2
  have i_3 : XJ g_op g_ar k0_op k0_ar v_pi v_pa g_a.toInt k0_co.toInt k0_pd.toInt g_f.toInt := i_3
  have i_4 : HJ k0_op k0_ar v_pi v_pa g_a.toInt k0_co.toInt k0_pd.toInt 1 := i_4
  have i_5 : S1 v_pi u_pd.toInt k0_pd.toInt := i_5
  have i_6 : k0_pd.toInt ≤ u_pd.toInt := i_6
  refine g5_rs [(b_o, (oc12 u_th u_sa b_rf b_ro b_im b_ke u_fd b_tp u_td u_fr u_to u_so u_wo u_fa u_bd u_nc b_nl k0_co b_op b_ar u_le b_pi b_pa k0_pd u_od b_ws b_hw u_la b_se b_re u_bk u_va u_su u_ce u_ho u_wy u_bt u_ps b_pt u_tg u_sn b_ip u_ic b_ah b_be b_me u_wd b_tr b_ld u_st b_wn u_id)), (b_op, (arI G 400 k0_op)), (b_ar, (arI G 400 k0_ar)), (b_pi, (arI G 400 v_pi)), (b_pa, (arI G 400 v_pa))] hP hD (fun hP hD => ?_)
  refine lv_aload_n hx hb dX12_settle_0 rfl (lv_at hl 0 rfl) ?_
  refine va_get (D := G.1) (ci := 12) (v := .int k0_pd) (C := RX12) (T := TX12) (N := 52) hx hb hts inG_X12 hown hK hP 0 rfl rfl 23 (by decide) (hts _ fl_X12_240) (fun _ h9 => h9) rfl dX12_settle_1 ?_
  refine lv_if_le (tgt := 101) hx hb dX12_settle_4 (by decide) (fun c_8 => ?_) (fun c_8 => ?_)
  ·
    have i_8 : k0_pd.toInt ≤ 0 := by have z := g5_le (a := k0_pd.toInt) (b := 0) (by rfl) (by decide) c_8; omega
    exact W.vret hx hb hr (fun t ht hW => ⟨⟨[(b_o, (oc12 u_th u_sa b_rf b_ro b_im b_ke u_fd b_tp u_td u_fr u_to u_so u_wo u_fa u_bd u_nc b_nl k0_co b_op b_ar u_le b_pi b_pa k0_pd u_od b_ws b_hw u_la b_se b_re u_bk u_va u_su u_ce u_ho u_wy u_bt u_ps b_pt u_tg u_sn b_ip u_ic b_ah b_be b_me u_wd b_tr b_ld u_st b_wn u_id)), (b_op, (arI G 400 k0_op)), (b_ar, (arI G 400 k0_ar)), (b_pi, (arI G 400 v_pi)), (b_pa, (arI G 400 v_pa))], rfl, ⟨k0_co, k0_pd, k0_op, k0_ar, i_1, i_2, i_3, i_4, i_5, Or.inl (by omega), by omega, rfl⟩, by rw [ht]; exact hP.sub [0, 1, 2, 3, 4] rfl, hD.sub [0, 1, 2, 3, 4] (by decide) rfl⟩, hS.F ht⟩) hS.2.2 dX12_settle_101
  ·
    have i_8 : k0_pd.toInt > 0 := by have z := g5_leN (a := k0_pd.toInt) (b := 0) (by rfl) (by decide) c_8; omega
    refine lv_aload_n hx hb dX12_settle_7 rfl (lv_at hl 0 rfl) ?_
    refine va_get (D := G.1) (ci := 12) (v := .ref b_pi) (C := RX12) (T := TX12) (N := 52) hx hb hts inG_X12 hown hK hP 0 rfl rfl 21 (by decide) (hts _ fl_X12_39) (fun _ h9 => h9) rfl dX12_settle_8 ?_
    refine lv_aload_n hx hb dX12_settle_11 rfl (lv_at hl 0 rfl) ?_
    refine va_get (D := G.1) (ci := 12) (v := .int k0_pd) (C := RX12) (T := TX12) (N := 52) hx hb hts inG_X12 hown hK hP 0 rfl rfl 23 (by decide) (hts _ fl_X12_240) (fun _ h9 => h9) rfl dX12_settle_12 ?_
    refine lv_iconst (v := 1) hx hb dX12_settle_15 (by decide) ?_
    refine lv_isub hx hb dX12_settle_16 ?_
    have t_9 : (k0_pd - 1).toInt = k0_pd.toInt - 1 := g5_isub (a := k0_pd.toInt) (b := 1) (by rfl) (by decide) (by omega) (by omega)
    refine va_iald hx hb hK hP 3 0 rfl rfl (i := (k0_pd - 1)) (vp_in_iff.mpr ⟨by omega, by omega⟩) dX12_settle_17 ?_
    have hv9 : 20 ≤ (v_pi (k0_pd - 1).toNatClampNeg).toInt ∧ (v_pi (k0_pd - 1).toNatClampNeg).toInt ≤ 31 := xj_at i_3 (by omega) (by omega)
    obtain ⟨hPc, hDc, hFc⟩ := g5_sub3 (wc := []) hP hD hS hA [] (by decide) rfl
    refine va_calli (va_runS (As := [.int (v_pi (k0_pd - 1).toNatClampNeg)]) (rest := []) ⟨hx, hb, hml, hown, hts⟩ (n_binds l G H.size (v_pi (k0_pd - 1).toNatClampNeg) ⟨by omega, by omega⟩) (va_cwS 1 hts gS_X12_243 rfl rfl rfl hs_X12_binds ⟨Nat.le_of_ble_eq_true rfl, Nat.le_of_ble_eq_true rfl⟩) (g5_preS hPc hK hDc hN hT hS hFc) rfl rfl hl.1 rfl (lv_room (Nat.le_of_ble_eq_true rfl)) dX12_settle_18 ⟨Nat.le_of_ble_eq_true rfl, Nat.le_of_ble_eq_true rfl⟩) hS (fun q _ h => hFc q h) hFc (fun r u t H1 locs ht hvm hw hB hz1 hk1 hS => ?_)
    obtain ⟨hP1, hD1⟩ := hB
    rw [ht] at hP1
    obtain ⟨z12, i_10, i_11, y13, rfl⟩ := hw
    have i_10 : 0 ≤ z12.toInt ∧ z12.toInt ≤ 6 := i_10
    have i_11 : z12.toInt = bnd (v_pi (k0_pd - 1).toNatClampNeg).toInt := i_11
    have hP := g5_same hP hk1
    generalize H1 = H at hP hS ⊢
    refine g5_ti (v := z12) y13 ?_
    refine lv_iload_n hx hb dX12_settle_21 rfl (lv_at hl 1 rfl) ?_
    refine lv_icmp_lt (tgt := 101) hx hb dX12_settle_22 (by decide) (fun c_14 => ?_) (fun c_14 => ?_)
    ·
      have i_14 : z12.toInt < p_1.toInt := by have z := g5_lt (a := z12.toInt) (b := p_1.toInt) (by rfl) (by rfl) c_14; omega
      exact W.vret hx hb hr (fun t ht hW => ⟨⟨[(b_o, (oc12 u_th u_sa b_rf b_ro b_im b_ke u_fd b_tp u_td u_fr u_to u_so u_wo u_fa u_bd u_nc b_nl k0_co b_op b_ar u_le b_pi b_pa k0_pd u_od b_ws b_hw u_la b_se b_re u_bk u_va u_su u_ce u_ho u_wy u_bt u_ps b_pt u_tg u_sn b_ip u_ic b_ah b_be b_me u_wd b_tr b_ld u_st b_wn u_id)), (b_op, (arI G 400 k0_op)), (b_ar, (arI G 400 k0_ar)), (b_pi, (arI G 400 v_pi)), (b_pa, (arI G 400 v_pa))], rfl, ⟨k0_co, k0_pd, k0_op, k0_ar, i_1, i_2, i_3, i_4, i_5, s2_lt (p' := (k0_pd - 1)) (by omega) (by omega) (by omega), by omega, rfl⟩, by rw [ht]; exact hP.sub [0, 1, 2, 3, 4] rfl, hD.sub [0, 1, 2, 3, 4] (by decide) rfl⟩, hS.F ht⟩) hS.2.2 dX12_settle_101
    ·
      have i_14 : z12.toInt ≥ p_1.toInt := by have z := g5_ltN (a := z12.toInt) (b := p_1.toInt) (by rfl) (by rfl) c_14; omega
      have hw9 : (v_pi (k0_pd - 1).toNatClampNeg).toInt < 30 := bnd_ge1 (by omega)
      refine lv_aload_n hx hb dX12_settle_25 rfl (lv_at hl 0 rfl) ?_
      refine lv_dup hx hb dX12_settle_26 rfl ?_
      refine va_get (D := G.1) (ci := 12) (v := .int k0_pd) (C := RX12) (T := TX12) (N := 52) hx hb hts inG_X12 hown hK hP 0 rfl rfl 23 (by decide) (hts _ fl_X12_240) (fun _ h9 => h9) rfl dX12_settle_27 ?_
      refine lv_iconst (v := 1) hx hb dX12_settle_30 (by decide) ?_
      refine lv_isub hx hb dX12_settle_31 ?_
      have t_15 : (k0_pd - 1).toInt = k0_pd.toInt - 1 := g5_isub (a := k0_pd.toInt) (b := 1) (by rfl) (by decide) (by omega) (by omega)
      refine va_put (D := G.1) (ci := 12) (v := .int (k0_pd - 1)) (ty := .int) (C := RX12) (T := TX12) (N := 52) hx hb hts inG_X12 tyX12 tyX12_ok nmX12 hown hK hP hD hS 0 rfl rfl 23 (by decide) (hts _ fl_X12_240) (fun _ h9 => h9) rfl (by decide +kernel) rfl rfl (Nat.le_of_ble_eq_true rfl) dX12_settle_32 (fun H locs hP hD hS => ?_)
      refine g5_rs [(b_o, (oc12 u_th u_sa b_rf b_ro b_im b_ke u_fd b_tp u_td u_fr u_to u_so u_wo u_fa u_bd u_nc b_nl k0_co b_op b_ar u_le b_pi b_pa (k0_pd - 1) u_od b_ws b_hw u_la b_se b_re u_bk u_va u_su u_ce u_ho u_wy u_bt u_ps b_pt u_tg u_sn b_ip u_ic b_ah b_be b_me u_wd b_tr b_ld u_st b_wn u_id)), (b_op, (arI G 400 k0_op)), (b_ar, (arI G 400 k0_ar)), (b_pi, (arI G 400 v_pi)), (b_pa, (arI G 400 v_pa))] hP hD (fun hP hD => ?_)
      refine lv_aload_n hx hb dX12_settle_35 rfl (lv_at hl 0 rfl) ?_
      refine va_get (D := G.1) (ci := 12) (v := .ref b_pi) (C := RX12) (T := TX12) (N := 52) hx hb hts inG_X12 hown hK hP 0 rfl rfl 21 (by decide) (hts _ fl_X12_39) (fun _ h9 => h9) rfl dX12_settle_36 ?_
      refine lv_aload_n hx hb dX12_settle_39 rfl (lv_at hl 0 rfl) ?_
      refine va_get (D := G.1) (ci := 12) (v := .int (k0_pd - 1)) (C := RX12) (T := TX12) (N := 52) hx hb hts inG_X12 hown hK hP 0 rfl rfl 23 (by decide) (hts _ fl_X12_240) (fun _ h9 => h9) rfl dX12_settle_40 ?_
      refine va_iald hx hb hK hP 3 0 rfl rfl (i := (k0_pd - 1)) (vp_in_iff.mpr ⟨by omega, by omega⟩) dX12_settle_43 ?_
      refine lv_bipush (v := 28) hx hb dX12_settle_44 (by decide) ?_
      refine lv_icmp_eq (tgt := 63) hx hb dX12_settle_46 (by decide) (fun c_16 => ?_) (fun c_16 => ?_)
      ·
        have i_16 : (v_pi (k0_pd - 1).toNatClampNeg).toInt = 28 := by have z := g5_eq (a := (v_pi (k0_pd - 1).toNatClampNeg).toInt) (b := 28) (by rfl) (by decide) c_16; omega
        have hj9 : isJ (v_pi (k0_pd - 1).toNatClampNeg) := by unfold isJ; omega
        refine lv_aload_n hx hb dX12_settle_63 rfl (lv_at hl 0 rfl) ?_
        refine va_get (D := G.1) (ci := 12) (v := .ref b_ar) (C := RX12) (T := TX12) (N := 52) hx hb hts inG_X12 hown hK hP 0 rfl rfl 19 (by decide) (hts _ fl_X12_36) (fun _ h9 => h9) rfl dX12_settle_64 ?_
        refine lv_aload_n hx hb dX12_settle_67 rfl (lv_at hl 0 rfl) ?_
        refine va_get (D := G.1) (ci := 12) (v := .ref b_pa) (C := RX12) (T := TX12) (N := 52) hx hb hts inG_X12 hown hK hP 0 rfl rfl 22 (by decide) (hts _ fl_X12_42) (fun _ h9 => h9) rfl dX12_settle_68 ?_
        refine lv_aload_n hx hb dX12_settle_71 rfl (lv_at hl 0 rfl) ?_
        refine va_get (D := G.1) (ci := 12) (v := .int (k0_pd - 1)) (C := RX12) (T := TX12) (N := 52) hx hb hts inG_X12 hown hK hP 0 rfl rfl 23 (by decide) (hts _ fl_X12_240) (fun _ h9 => h9) rfl dX12_settle_72 ?_
        refine va_iald hx hb hK hP 4 0 rfl rfl (i := (k0_pd - 1)) (vp_in_iff.mpr ⟨by omega, by omega⟩) dX12_settle_75 ?_
        have hq9 : 0 ≤ (v_pa (k0_pd - 1).toNatClampNeg).toInt ∧ (v_pa (k0_pd - 1).toNatClampNeg).toInt ≤ 399 := xj_pa i_3 (by omega) (by omega) (by omega) hj9
        refine lv_aload_n hx hb dX12_settle_76 rfl (lv_at hl 0 rfl) ?_
        refine va_get (D := G.1) (ci := 12) (v := .int k0_co) (C := RX12) (T := TX12) (N := 52) hx hb hts inG_X12 hown hK hP 0 rfl rfl 17 (by decide) (hts _ fl_X12_237) (fun _ h9 => h9) rfl dX12_settle_77 ?_
        refine va_iast hx hb hK hP hD hS 2 0 rfl rfl (i := (v_pa (k0_pd - 1).toNatClampNeg)) (x := k0_co) (vp_in_iff.mpr ⟨by omega, by omega⟩) dX12_settle_80 (fun H locs hP hD hS => ?_)
        refine g5_rs [(b_o, (oc12 u_th u_sa b_rf b_ro b_im b_ke u_fd b_tp u_td u_fr u_to u_so u_wo u_fa u_bd u_nc b_nl k0_co b_op b_ar u_le b_pi b_pa (k0_pd - 1) u_od b_ws b_hw u_la b_se b_re u_bk u_va u_su u_ce u_ho u_wy u_bt u_ps b_pt u_tg u_sn b_ip u_ic b_ah b_be b_me u_wd b_tr b_ld u_st b_wn u_id)), (b_op, (arI G 400 k0_op)), (b_ar, (arI G 400 (upd k0_ar (v_pa (k0_pd - 1).toNatClampNeg).toNatClampNeg k0_co))), (b_pi, (arI G 400 v_pi)), (b_pa, (arI G 400 v_pa))] hP hD (fun hP hD => ?_)
        refine lv_goto (tgt := 0) hx hb dX12_settle_81 (by decide) ?_
        exact ih_0_7 (k0_co, (k0_pd - 1), k0_op, (upd k0_ar (v_pa (k0_pd - 1).toNatClampNeg).toNatClampNeg k0_co)) ls H locs (show Int.toNat ((k0_pd - 1).toInt + 1) < Int.toNat (k0_pd.toInt + 1) from g_dn (show (k0_pd - 1).toInt < k0_pd.toInt by omega) (show 0 ≤ k0_pd.toInt by omega)) ⟨lv_sub hl [0, 1] rfl, hP, hD, hS, i_1, ⟨by omega, by omega⟩, xj_popJ i_3 (by omega) (by omega) hj9, hj_popJ i_3 i_4 (by omega) (by omega) hj9, s1_S i_5 (by omega) (by omega) (by omega), by omega⟩
      ·
        have n_16 : gNe ((v_pi (k0_pd - 1).toNatClampNeg).toInt) (28) := by have z := g5_eqN (a := (v_pi (k0_pd - 1).toNatClampNeg).toInt) (b := 28) (by rfl) (by decide) c_16; unfold gNe; omega
        refine lv_aload_n hx hb dX12_settle_49 rfl (lv_at hl 0 rfl) ?_
        refine va_get (D := G.1) (ci := 12) (v := .ref b_pi) (C := RX12) (T := TX12) (N := 52) hx hb hts inG_X12 hown hK hP 0 rfl rfl 21 (by decide) (hts _ fl_X12_39) (fun _ h9 => h9) rfl dX12_settle_50 ?_
        refine lv_aload_n hx hb dX12_settle_53 rfl (lv_at hl 0 rfl) ?_
        refine va_get (D := G.1) (ci := 12) (v := .int (k0_pd - 1)) (C := RX12) (T := TX12) (N := 52) hx hb hts inG_X12 hown hK hP 0 rfl rfl 23 (by decide) (hts _ fl_X12_240) (fun _ h9 => h9) rfl dX12_settle_54 ?_
        refine va_iald hx hb hK hP 3 0 rfl rfl (i := (k0_pd - 1)) (vp_in_iff.mpr ⟨by omega, by omega⟩) dX12_settle_57 ?_
        refine lv_bipush (v := 29) hx hb dX12_settle_58 (by decide) ?_
        refine lv_icmp_ne (tgt := 84) hx hb dX12_settle_60 (by decide) (fun c_17 => ?_) (fun c_17 => ?_)
        ·
          have n_17 : gNe ((v_pi (k0_pd - 1).toNatClampNeg).toInt) (29) := by have z := g5_ne (a := (v_pi (k0_pd - 1).toNatClampNeg).toInt) (b := 29) (by rfl) (by decide) c_17; unfold gNe; omega
          have i_17 : (v_pi (k0_pd - 1).toNatClampNeg).toInt ≤ 28 := by have z := g5_ne (a := (v_pi (k0_pd - 1).toNatClampNeg).toInt) (b := 29) (by rfl) (by decide) c_17; omega
          have hx28 : (v_pi (k0_pd - 1).toNatClampNeg).toInt < 28 := by have q9 : ¬ (v_pi (k0_pd - 1).toNatClampNeg).toInt = 28 := n_16; omega
          have hc9 : k0_co.toInt < 400 := xj_room i_3 (by omega) (by omega) (by omega) hx28
          refine lv_aload_n hx hb dX12_settle_84 rfl (lv_at hl 0 rfl) ?_
          refine lv_aload_n hx hb dX12_settle_85 rfl (lv_at hl 0 rfl) ?_
          refine va_get (D := G.1) (ci := 12) (v := .ref b_pi) (C := RX12) (T := TX12) (N := 52) hx hb hts inG_X12 hown hK hP 0 rfl rfl 21 (by decide) (hts _ fl_X12_39) (fun _ h9 => h9) rfl dX12_settle_86 ?_
          refine lv_aload_n hx hb dX12_settle_89 rfl (lv_at hl 0 rfl) ?_
          refine va_get (D := G.1) (ci := 12) (v := .int (k0_pd - 1)) (C := RX12) (T := TX12) (N := 52) hx hb hts inG_X12 hown hK hP 0 rfl rfl 23 (by decide) (hts _ fl_X12_240) (fun _ h9 => h9) rfl dX12_settle_90 ?_
          refine va_iald hx hb hK hP 3 0 rfl rfl (i := (k0_pd - 1)) (vp_in_iff.mpr ⟨by omega, by omega⟩) dX12_settle_93 ?_
          refine lv_iconst (v := 0) hx hb dX12_settle_94 (by decide) ?_
          obtain ⟨hPc, hDc, hFc⟩ := g5_sub3 (wc := [(b_o, (oc12 u_th u_sa b_rf b_ro b_im b_ke u_fd b_tp u_td u_fr u_to u_so u_wo u_fa u_bd u_nc b_nl k0_co b_op b_ar u_le b_pi b_pa (k0_pd - 1) u_od b_ws b_hw u_la b_se b_re u_bk u_va u_su u_ce u_ho u_wy u_bt u_ps b_pt u_tg u_sn b_ip u_ic b_ah b_be b_me u_wd b_tr b_ld u_st b_wn u_id)), (b_op, (arI G 400 k0_op)), (b_ar, (arI G 400 k0_ar))]) hP hD hS hA [0, 1, 2] (by decide) rfl
          refine va_callv (va_runV (As := [.int (v_pi (k0_pd - 1).toNatClampNeg), .int 0]) (rest := []) ⟨hx, hb, hml, hown, hts⟩ (n_emit l G b_o b_op b_ar b_rf b_ro b_im b_ke b_tp b_nl b_pi b_pa b_ws b_hw b_se b_re b_pt b_ip b_ah b_be b_me b_tr b_ld b_wn H.size u_th u_sa u_fd u_td u_fr u_to u_so u_fa u_bd u_nc k0_co u_le (k0_pd - 1) u_od u_la u_bk u_ce u_ho u_wy u_bt u_ps u_tg u_sn u_ic u_wd u_id (v_pi (k0_pd - 1).toNatClampNeg) 0 u_wo u_va u_su u_st k0_op k0_ar h_u_td h_u_fr h_u_to h_u_bd h_u_nc i_1 ⟨by omega, by omega⟩ h_u_la h_u_bk h_u_ce h_u_ho h_u_wy h_u_bt h_u_ps h_u_ic h_u_id (by omega)) (cwV 2 hts gV_X12_246 rfl rfl rfl hv_X12_emit ⟨Nat.le_of_ble_eq_true rfl, Nat.le_of_ble_eq_true rfl⟩) (g5_preV hPc hK hDc hN hT hS hFc (ci := 12) (q0 := 0) rfl rfl) rfl rfl hl.1 rfl (lv_room (Nat.le_of_ble_eq_true rfl)) dX12_settle_95 ⟨Nat.le_of_ble_eq_true rfl, Nat.le_of_ble_eq_true rfl⟩) hS (fun q _ h => hFc q h) hFc (fun u t H1 locs ht hvm hw hB hz1 hk1 hS => ?_)
          obtain ⟨hP1, hD1⟩ := hB
          rw [ht] at hP1
          obtain ⟨z20, i_18, i_19, rfl⟩ := hw
          have i_18 : 0 ≤ z20.toInt ∧ z20.toInt ≤ 400 := i_18
          have i_19 : z20.toInt = k0_co.toInt + 1 := i_19
          obtain ⟨hP, hD⟩ := va_join (wr := [(b_pi, (arI G 400 v_pi)), (b_pa, (arI G 400 v_pa))]) hP hD [0, 1, 2] [3, 4] rfl rfl (by decide) (by decide) hk1 hFc hP1 hD1
          generalize H1 = H at hP hS ⊢
          refine g5_rs [(b_pi, (arI G 400 v_pi)), (b_pa, (arI G 400 v_pa)), (b_o, (oc12 u_th u_sa b_rf b_ro b_im b_ke u_fd b_tp u_td u_fr u_to u_so u_wo u_fa u_bd u_nc b_nl z20 b_op b_ar u_le b_pi b_pa (k0_pd - 1) u_od b_ws b_hw u_la b_se b_re u_bk u_va u_su u_ce u_ho u_wy u_bt u_ps b_pt u_tg u_sn b_ip u_ic b_ah b_be b_me u_wd b_tr b_ld u_st b_wn u_id)), (b_op, (arI G 400 (upd k0_op k0_co.toNatClampNeg (v_pi (k0_pd - 1).toNatClampNeg)))), (b_ar, (arI G 400 (upd k0_ar k0_co.toNatClampNeg 0)))] hP hD (fun hP hD => ?_)
          refine lv_goto (tgt := 0) hx hb dX12_settle_98 (by decide) ?_
          exact ih_0_7 (z20, (k0_pd - 1), (upd k0_op k0_co.toNatClampNeg (v_pi (k0_pd - 1).toNatClampNeg)), (upd k0_ar k0_co.toNatClampNeg 0)) ls H locs (show Int.toNat ((k0_pd - 1).toInt + 1) < Int.toNat (k0_pd.toInt + 1) from g_dn (show (k0_pd - 1).toInt < k0_pd.toInt by omega) (show 0 ≤ k0_pd.toInt by omega)) ⟨lv_sub hl [0, 1] rfl, hP.sub [2, 3, 4, 0, 1] rfl, hD.sub [2, 3, 4, 0, 1] (by decide) rfl, hS, i_18, ⟨by omega, by omega⟩, xj_popE i_3 (by omega) (by omega) (by omega) hx28, hj_popE i_3 i_4 (by omega) (by omega) (by omega) hx28, s1_S i_5 (by omega) (by omega) (by omega), by omega⟩
        ·
          have i_17 : (v_pi (k0_pd - 1).toNatClampNeg).toInt = 29 := by have z := g5_neN (a := (v_pi (k0_pd - 1).toNatClampNeg).toInt) (b := 29) (by rfl) (by decide) c_17; omega
          have hj9 : isJ (v_pi (k0_pd - 1).toNatClampNeg) := by unfold isJ; omega
          refine lv_aload_n hx hb dX12_settle_63 rfl (lv_at hl 0 rfl) ?_
          refine va_get (D := G.1) (ci := 12) (v := .ref b_ar) (C := RX12) (T := TX12) (N := 52) hx hb hts inG_X12 hown hK hP 0 rfl rfl 19 (by decide) (hts _ fl_X12_36) (fun _ h9 => h9) rfl dX12_settle_64 ?_
          refine lv_aload_n hx hb dX12_settle_67 rfl (lv_at hl 0 rfl) ?_
          refine va_get (D := G.1) (ci := 12) (v := .ref b_pa) (C := RX12) (T := TX12) (N := 52) hx hb hts inG_X12 hown hK hP 0 rfl rfl 22 (by decide) (hts _ fl_X12_42) (fun _ h9 => h9) rfl dX12_settle_68 ?_
          refine lv_aload_n hx hb dX12_settle_71 rfl (lv_at hl 0 rfl) ?_
          refine va_get (D := G.1) (ci := 12) (v := .int (k0_pd - 1)) (C := RX12) (T := TX12) (N := 52) hx hb hts inG_X12 hown hK hP 0 rfl rfl 23 (by decide) (hts _ fl_X12_240) (fun _ h9 => h9) rfl dX12_settle_72 ?_
          refine va_iald hx hb hK hP 4 0 rfl rfl (i := (k0_pd - 1)) (vp_in_iff.mpr ⟨by omega, by omega⟩) dX12_settle_75 ?_
          have hq9 : 0 ≤ (v_pa (k0_pd - 1).toNatClampNeg).toInt ∧ (v_pa (k0_pd - 1).toNatClampNeg).toInt ≤ 399 := xj_pa i_3 (by omega) (by omega) (by omega) hj9
          refine lv_aload_n hx hb dX12_settle_76 rfl (lv_at hl 0 rfl) ?_
          refine va_get (D := G.1) (ci := 12) (v := .int k0_co) (C := RX12) (T := TX12) (N := 52) hx hb hts inG_X12 hown hK hP 0 rfl rfl 17 (by decide) (hts _ fl_X12_237) (fun _ h9 => h9) rfl dX12_settle_77 ?_
          refine va_iast hx hb hK hP hD hS 2 0 rfl rfl (i := (v_pa (k0_pd - 1).toNatClampNeg)) (x := k0_co) (vp_in_iff.mpr ⟨by omega, by omega⟩) dX12_settle_80 (fun H locs hP hD hS => ?_)
          refine g5_rs [(b_o, (oc12 u_th u_sa b_rf b_ro b_im b_ke u_fd b_tp u_td u_fr u_to u_so u_wo u_fa u_bd u_nc b_nl k0_co b_op b_ar u_le b_pi b_pa (k0_pd - 1) u_od b_ws b_hw u_la b_se b_re u_bk u_va u_su u_ce u_ho u_wy u_bt u_ps b_pt u_tg u_sn b_ip u_ic b_ah b_be b_me u_wd b_tr b_ld u_st b_wn u_id)), (b_op, (arI G 400 k0_op)), (b_ar, (arI G 400 (upd k0_ar (v_pa (k0_pd - 1).toNatClampNeg).toNatClampNeg k0_co))), (b_pi, (arI G 400 v_pi)), (b_pa, (arI G 400 v_pa))] hP hD (fun hP hD => ?_)
          refine lv_goto (tgt := 0) hx hb dX12_settle_81 (by decide) ?_
          exact ih_0_7 (k0_co, (k0_pd - 1), k0_op, (upd k0_ar (v_pa (k0_pd - 1).toNatClampNeg).toNatClampNeg k0_co)) ls H locs (show Int.toNat ((k0_pd - 1).toInt + 1) < Int.toNat (k0_pd.toInt + 1) from g_dn (show (k0_pd - 1).toInt < k0_pd.toInt by omega) (show 0 ≤ k0_pd.toInt by omega)) ⟨lv_sub hl [0, 1] rfl, hP, hD, hS, i_1, ⟨by omega, by omega⟩, xj_popJ i_3 (by omega) (by omega) hj9, hj_popJ i_3 i_4 (by omega) (by omega) hj9, s1_S i_5 (by omega) (by omega) (by omega), by omega⟩
theorem dgX12_inner_0 : ∀ r ∈ ([(0, (.iconst (-1), 1)), (1, (.istore_n 1, 1)), (2, (.iconst 0, 1)), (3, (.istore_n 2, 1)), (4, (.iload_n 2, 1)), (5, (.aload_n 0, 1)), (6, (.getfield 240, 3)), (9, (.if_icmp .ge 31, 3)), (12, (.aload_n 0, 1)), (13, (.getfield 39, 3)), (16, (.iload_n 2, 1)), (17, (.iaload, 1)), (18, (.bipush 30, 2)), (20, (.if_icmp .lt 12, 3)), (23, (.aload_n 0, 1)), (24, (.getfield 39, 3)), (27, (.iload_n 2, 1)), (28, (.iaload, 1)), (29, (.goto 4, 3)), (32, (.iload_n 1, 1)), (33, (.istore_n 1, 1)), (34, (.iinc 2 1, 3)), (37, (.goto (-33), 3)), (40, (.iload_n 1, 1)), (41, (.ireturn, 1))] : List (Nat × (Instr × Nat))), decode cX12_inner r.1 = .ok r.2 := by decide +kernel
theorem dX12_inner_0 : decode cX12_inner 0 = .ok (.iconst (-1), 1) := dgX12_inner_0 (0, (.iconst (-1), 1)) (List.mem_of_getElem? (i := 0) rfl)
theorem dX12_inner_1 : decode cX12_inner 1 = .ok (.istore_n 1, 1) := dgX12_inner_0 (1, (.istore_n 1, 1)) (List.mem_of_getElem? (i := 1) rfl)
theorem dX12_inner_2 : decode cX12_inner 2 = .ok (.iconst 0, 1) := dgX12_inner_0 (2, (.iconst 0, 1)) (List.mem_of_getElem? (i := 2) rfl)
theorem dX12_inner_3 : decode cX12_inner 3 = .ok (.istore_n 2, 1) := dgX12_inner_0 (3, (.istore_n 2, 1)) (List.mem_of_getElem? (i := 3) rfl)
theorem dX12_inner_4 : decode cX12_inner 4 = .ok (.iload_n 2, 1) := dgX12_inner_0 (4, (.iload_n 2, 1)) (List.mem_of_getElem? (i := 4) rfl)
theorem dX12_inner_5 : decode cX12_inner 5 = .ok (.aload_n 0, 1) := dgX12_inner_0 (5, (.aload_n 0, 1)) (List.mem_of_getElem? (i := 5) rfl)
theorem dX12_inner_6 : decode cX12_inner 6 = .ok (.getfield 240, 3) := dgX12_inner_0 (6, (.getfield 240, 3)) (List.mem_of_getElem? (i := 6) rfl)
theorem dX12_inner_9 : decode cX12_inner 9 = .ok (.if_icmp .ge 31, 3) := dgX12_inner_0 (9, (.if_icmp .ge 31, 3)) (List.mem_of_getElem? (i := 7) rfl)
theorem dX12_inner_12 : decode cX12_inner 12 = .ok (.aload_n 0, 1) := dgX12_inner_0 (12, (.aload_n 0, 1)) (List.mem_of_getElem? (i := 8) rfl)
theorem dX12_inner_13 : decode cX12_inner 13 = .ok (.getfield 39, 3) := dgX12_inner_0 (13, (.getfield 39, 3)) (List.mem_of_getElem? (i := 9) rfl)
theorem dX12_inner_16 : decode cX12_inner 16 = .ok (.iload_n 2, 1) := dgX12_inner_0 (16, (.iload_n 2, 1)) (List.mem_of_getElem? (i := 10) rfl)
theorem dX12_inner_17 : decode cX12_inner 17 = .ok (.iaload, 1) := dgX12_inner_0 (17, (.iaload, 1)) (List.mem_of_getElem? (i := 11) rfl)
theorem dX12_inner_18 : decode cX12_inner 18 = .ok (.bipush 30, 2) := dgX12_inner_0 (18, (.bipush 30, 2)) (List.mem_of_getElem? (i := 12) rfl)
theorem dX12_inner_20 : decode cX12_inner 20 = .ok (.if_icmp .lt 12, 3) := dgX12_inner_0 (20, (.if_icmp .lt 12, 3)) (List.mem_of_getElem? (i := 13) rfl)
theorem dX12_inner_23 : decode cX12_inner 23 = .ok (.aload_n 0, 1) := dgX12_inner_0 (23, (.aload_n 0, 1)) (List.mem_of_getElem? (i := 14) rfl)
theorem dX12_inner_24 : decode cX12_inner 24 = .ok (.getfield 39, 3) := dgX12_inner_0 (24, (.getfield 39, 3)) (List.mem_of_getElem? (i := 15) rfl)
theorem dX12_inner_27 : decode cX12_inner 27 = .ok (.iload_n 2, 1) := dgX12_inner_0 (27, (.iload_n 2, 1)) (List.mem_of_getElem? (i := 16) rfl)
theorem dX12_inner_28 : decode cX12_inner 28 = .ok (.iaload, 1) := dgX12_inner_0 (28, (.iaload, 1)) (List.mem_of_getElem? (i := 17) rfl)
theorem dX12_inner_29 : decode cX12_inner 29 = .ok (.goto 4, 3) := dgX12_inner_0 (29, (.goto 4, 3)) (List.mem_of_getElem? (i := 18) rfl)
theorem dX12_inner_32 : decode cX12_inner 32 = .ok (.iload_n 1, 1) := dgX12_inner_0 (32, (.iload_n 1, 1)) (List.mem_of_getElem? (i := 19) rfl)
theorem dX12_inner_33 : decode cX12_inner 33 = .ok (.istore_n 1, 1) := dgX12_inner_0 (33, (.istore_n 1, 1)) (List.mem_of_getElem? (i := 20) rfl)
theorem dX12_inner_34 : decode cX12_inner 34 = .ok (.iinc 2 1, 3) := dgX12_inner_0 (34, (.iinc 2 1, 3)) (List.mem_of_getElem? (i := 21) rfl)
theorem dX12_inner_37 : decode cX12_inner 37 = .ok (.goto (-33), 3) := dgX12_inner_0 (37, (.goto (-33), 3)) (List.mem_of_getElem? (i := 22) rfl)
theorem dX12_inner_40 : decode cX12_inner 40 = .ok (.iload_n 1, 1) := dgX12_inner_0 (40, (.iload_n 1, 1)) (List.mem_of_getElem? (i := 23) rfl)
theorem dX12_inner_41 : decode cX12_inner 41 = .ok (.ireturn, 1) := dgX12_inner_0 (41, (.ireturn, 1)) (List.mem_of_getElem? (i := 24) rfl)
set_option maxHeartbeats 4000000 in
set_option maxRecDepth 100000 in
theorem n_inner (l : Launch) (G : g5_G) (b_o b_pi b_rf b_ro b_im b_ke b_tp b_nl b_op b_ar b_pa b_ws b_hw b_se b_re b_pt b_ip b_ah b_be b_me b_tr b_ld b_wn : Nat) (sz : Nat) (u_th : Int32) (u_sa : Int32) (u_fd : Int32) (u_td : Int32) (u_fr : Int32) (u_to : Int32) (u_so : Int32) (u_fa : Int32) (u_bd : Int32) (u_nc : Int32) (u_co : Int32) (u_le : Int32) (u_pd : Int32) (u_od : Int32) (u_la : Int32) (u_bk : Int32) (u_ce : Int32) (u_ho : Int32) (u_wy : Int32) (u_bt : Int32) (u_ps : Int32) (u_tg : Int32) (u_sn : Int32) (u_ic : Int32) (u_wd : Int32) (u_id : Int32) (u_wo : Int64) (u_va : Int64) (u_su : Int64) (u_st : Int64) (v_pi : Nat → Int32) (h_u_td : 0 ≤ u_td.toInt ∧ u_td.toInt ≤ 400) (h_u_fr : 0 ≤ u_fr.toInt ∧ u_fr.toInt ≤ 400) (h_u_to : 0 ≤ u_to.toInt ∧ u_to.toInt ≤ 400) (h_u_bd : 0 ≤ u_bd.toInt ∧ u_bd.toInt ≤ 1) (h_u_nc : 0 ≤ u_nc.toInt ∧ u_nc.toInt ≤ 12) (h_u_co : 0 ≤ u_co.toInt ∧ u_co.toInt ≤ 400) (h_u_pd : 0 ≤ u_pd.toInt ∧ u_pd.toInt ≤ 400) (h_u_la : 0 ≤ u_la.toInt ∧ u_la.toInt ≤ 4840) (h_u_bk : 0 ≤ u_bk.toInt ∧ u_bk.toInt ≤ 1) (h_u_ce : 0 ≤ u_ce.toInt ∧ u_ce.toInt ≤ 63) (h_u_ho : 0 ≤ u_ho.toInt ∧ u_ho.toInt ≤ 23) (h_u_wy : 0 ≤ u_wy.toInt ∧ u_wy.toInt ≤ 3) (h_u_bt : 0 ≤ u_bt.toInt ∧ u_bt.toInt ≤ 1000000) (h_u_ps : 0 ≤ u_ps.toInt ∧ u_ps.toInt ≤ 200) (h_u_ic : 0 ≤ u_ic.toInt ∧ u_ic.toInt ≤ 1) (h_u_id : 0 ≤ u_id.toInt ∧ u_id.toInt ≤ 1) : Met l yX12_inner (wsG yX12_inner cX12_inner 3 (some .int)) ({ frames := 0, cells := 0, slots := 0, locals := 0 }) (va_Pc [.ref b_o] (g5_P G [(b_o, (oc12 u_th u_sa b_rf b_ro b_im b_ke u_fd b_tp u_td u_fr u_to u_so u_wo u_fa u_bd u_nc b_nl u_co b_op b_ar u_le b_pi b_pa u_pd u_od b_ws b_hw u_la b_se b_re u_bk u_va u_su u_ce u_ho u_wy u_bt u_ps b_pt u_tg u_sn b_ip u_ic b_ah b_be b_me u_wd b_tr b_ld u_st b_wn u_id)), (b_pi, (arI G 400 v_pi))] sz)) (va_Qi (fun (r : Int32) (u : va_W) => (∃ (o_r : Int32), (innP v_pi u_pd.toInt o_r.toInt) ∧ (r = o_r) ∧ (u = [(b_o, (oc12 u_th u_sa b_rf b_ro b_im b_ke u_fd b_tp u_td u_fr u_to u_so u_wo u_fa u_bd u_nc b_nl u_co b_op b_ar u_le b_pi b_pa u_pd u_od b_ws b_hw u_la b_se b_re u_bk u_va u_su u_ce u_ho u_wy u_bt u_ps b_pt u_tg u_sn b_ip u_ic b_ah b_be b_me u_wd b_tr b_ld u_st b_wn u_id)), (b_pi, (arI G 400 v_pi))]))) (g5_B G (va_A [(b_o, (oc12 u_th u_sa b_rf b_ro b_im b_ke u_fd b_tp u_td u_fr u_to u_so u_wo u_fa u_bd u_nc b_nl u_co b_op b_ar u_le b_pi b_pa u_pd u_od b_ws b_hw u_la b_se b_re u_bk u_va u_su u_ce u_ho u_wy u_bt u_ps b_pt u_tg u_sn b_ip u_ic b_ah b_be b_me u_wd b_tr b_ld u_st b_wn u_id)), (b_pi, (arI G 400 v_pi))] sz)) (va_A [(b_o, (oc12 u_th u_sa b_rf b_ro b_im b_ke u_fd b_tp u_td u_fr u_to u_so u_wo u_fa u_bd u_nc b_nl u_co b_op b_ar u_le b_pi b_pa u_pd u_od b_ws b_hw u_la b_se b_re u_bk u_va u_su u_ce u_ho u_wy u_bt u_ps b_pt u_tg u_sn b_ip u_ic b_ah b_be b_me u_wd b_tr b_ld u_st b_wn u_id)), (b_pi, (arI G 400 v_pi))] sz)) 0 0 (va_A [(b_o, (oc12 u_th u_sa b_rf b_ro b_im b_ke u_fd b_tp u_td u_fr u_to u_so u_wo u_fa u_bd u_nc b_nl u_co b_op b_ar u_le b_pi b_pa u_pd u_od b_ws b_hw u_la b_se b_re u_bk u_va u_su u_ce u_ho u_wy u_bt u_ps b_pt u_tg u_sn b_ip u_ic b_ah b_be b_me u_wd b_tr b_ld u_st b_wn u_id)), (b_pi, (arI G 400 v_pi))] sz) := by
  refine Met.ofW (cc := cX12_inner) (maxL := 3) (ret := (some .int)) (by decide) rfl ?_
  intro p e s m args below meth c s₁ B hml hv
  obtain ⟨rfl, hsz, hP, hK, hD0, hN, hT⟩ := hv
  have hx := B.exec
  have hb := B.bytes
  have hr := B.returns
  have hts : ∀ w ∈ tblG, w.before _ s = true := fun w h => atoms_spec (ws := (wsG yX12_inner cX12_inner 3 (some .int))) B.pre w (List.mem_cons_of_mem _ h)
  have hown : s.vm.findClass RX12 = some m.cls := findClass_of_methodNamed B.named
  have hlocks := B.notSynchronized
  subst hsz
  have hD := hD0.self (sz := s.heap.size)
  generalize hAe : va_A [(b_o, (oc12 u_th u_sa b_rf b_ro b_im b_ke u_fd b_tp u_td u_fr u_to u_so u_wo u_fa u_bd u_nc b_nl u_co b_op b_ar u_le b_pi b_pa u_pd u_od b_ws b_hw u_la b_se b_re u_bk u_va u_su u_ce u_ho u_wy u_bt u_ps b_pt u_tg u_sn b_ip u_ic b_ah b_be b_me u_wd b_tr b_ld u_st b_wn u_id)), (b_pi, (arI G 400 v_pi))] s.heap.size = A at hD hT ⊢
  have hA : ∀ q : Nat, s.heap.size ≤ q → A q := fun q h => by rw [← hAe]; exact Or.inr h
  have hS : va_S A s.heap s.heap [] := va_S.rf
  have hP : va_P G.1 vwCl [(b_o, (oc12 u_th u_sa b_rf b_ro b_im b_ke u_fd b_tp u_td u_fr u_to u_so u_wo u_fa u_bd u_nc b_nl u_co b_op b_ar u_le b_pi b_pa u_pd u_od b_ws b_hw u_la b_se b_re u_bk u_va u_su u_ce u_ho u_wy u_bt u_ps b_pt u_tg u_sn b_ip u_ic b_ah b_be b_me u_wd b_tr b_ld u_st b_wn u_id)), (b_pi, (arI G 400 v_pi))] s.heap := hP
  have hl := lv_entry ([.ref b_o]) (n := 3) (Nat.le_of_ble_eq_true rfl)
  rw [lg_entry_eq]
  generalize (lg_sl ([.ref b_o]) ++ List.replicate (3 - (lg_sl ([.ref b_o])).length) Slot.unset).toArray = ls at hl ⊢
  have hl : lv_has ls 3 [(0, .ref b_o)] := hl
  refine lv_iconst (v := (-1)) hx hb dX12_inner_0 (by decide) ?_
  refine lv_istore_n (lv' := [(1, .int (-1)), (0, .ref b_o)]) hx hb dX12_inner_1 rfl hl (by decide) rfl (fun ls hl => ?_)
  refine lv_iconst (v := 0) hx hb dX12_inner_2 (by decide) ?_
  refine lv_istore_n (lv' := [(2, .int 0), (1, .int (-1)), (0, .ref b_o)]) hx hb dX12_inner_3 rfl hl (by decide) rfl (fun ls hl => ?_)
  refine g5_loop (α := (Int32) × (Int32)) (fun (q : (Int32) × (Int32)) (ls : Array Slot) (H : Heap) (locs : List Loc) => match q with | (k4_2, k4_1) => lv_has ls 3 [(1, .int k4_1), (2, .int k4_2), (0, .ref b_o)] ∧ va_P G.1 vwCl [(b_o, (oc12 u_th u_sa b_rf b_ro b_im b_ke u_fd b_tp u_td u_fr u_to u_so u_wo u_fa u_bd u_nc b_nl u_co b_op b_ar u_le b_pi b_pa u_pd u_od b_ws b_hw u_la b_se b_re u_bk u_va u_su u_ce u_ho u_wy u_bt u_ps b_pt u_tg u_sn b_ip u_ic b_ah b_be b_me u_wd b_tr b_ld u_st b_wn u_id)), (b_pi, (arI G 400 v_pi))] H ∧ va_D A [(b_o, (oc12 u_th u_sa b_rf b_ro b_im b_ke u_fd b_tp u_td u_fr u_to u_so u_wo u_fa u_bd u_nc b_nl u_co b_op b_ar u_le b_pi b_pa u_pd u_od b_ws b_hw u_la b_se b_re u_bk u_va u_su u_ce u_ho u_wy u_bt u_ps b_pt u_tg u_sn b_ip u_ic b_ah b_be b_me u_wd b_tr b_ld u_st b_wn u_id)), (b_pi, (arI G 400 v_pi))] ∧ va_S A s.heap H locs ∧ (0 ≤ k4_2.toInt ∧ k4_2.toInt ≤ 400) ∧ (innP v_pi k4_2.toInt k4_1.toInt) ∧ (k4_2.toInt ≤ u_pd.toInt)) (fun (q : (Int32) × (Int32)) => match q with | (k4_2, k4_1) => Int.toNat (400 - k4_2.toInt)) (0, (-1)) ⟨lv_sub hl [1, 0, 2] rfl, hP, hD, hS, ⟨by decide, by decide⟩, inn_0 (by decide) (by decide), by have z0 : (0 : Int32).toInt = 0 := (by decide); omega⟩ ?_
  rintro ⟨k4_2, k4_1⟩ ls H locs ⟨hl, hP, hD, hS, i_1, i_2, i_3⟩ ih_4_4
  have hl : lv_has ls 3 [(1, .int k4_1), (2, .int k4_2), (0, .ref b_o)] := hl
  have i_1 : 0 ≤ k4_2.toInt ∧ k4_2.toInt ≤ 400 := i_1
  have i_2 : innP v_pi k4_2.toInt k4_1.toInt := i_2
  have i_3 : k4_2.toInt ≤ u_pd.toInt := i_3
  refine g5_rs [(b_o, (oc12 u_th u_sa b_rf b_ro b_im b_ke u_fd b_tp u_td u_fr u_to u_so u_wo u_fa u_bd u_nc b_nl u_co b_op b_ar u_le b_pi b_pa u_pd u_od b_ws b_hw u_la b_se b_re u_bk u_va u_su u_ce u_ho u_wy u_bt u_ps b_pt u_tg u_sn b_ip u_ic b_ah b_be b_me u_wd b_tr b_ld u_st b_wn u_id)), (b_pi, (arI G 400 v_pi))] hP hD (fun hP hD => ?_)
  refine lv_iload_n hx hb dX12_inner_4 rfl (lv_at hl 1 rfl) ?_
  refine lv_aload_n hx hb dX12_inner_5 rfl (lv_at hl 2 rfl) ?_
  refine va_get (D := G.1) (ci := 12) (v := .int u_pd) (C := RX12) (T := TX12) (N := 52) hx hb hts inG_X12 hown hK hP 0 rfl rfl 23 (by decide) (hts _ fl_X12_240) (fun _ h9 => h9) rfl dX12_inner_6 ?_
  refine lv_icmp_ge (tgt := 40) hx hb dX12_inner_9 (by decide) (fun c_5 => ?_) (fun c_5 => ?_)
  ·
    have i_5 : k4_2.toInt ≥ u_pd.toInt := by have z := g5_ge (a := k4_2.toInt) (b := u_pd.toInt) (by rfl) (by rfl) c_5; omega
    refine lv_iload_n hx hb dX12_inner_40 rfl (lv_at hl 0 rfl) ?_
    exact W.iret (v := k4_1) hx hb hr (fun t ht hW => ⟨⟨k4_1, [(b_o, (oc12 u_th u_sa b_rf b_ro b_im b_ke u_fd b_tp u_td u_fr u_to u_so u_wo u_fa u_bd u_nc b_nl u_co b_op b_ar u_le b_pi b_pa u_pd u_od b_ws b_hw u_la b_se b_re u_bk u_va u_su u_ce u_ho u_wy u_bt u_ps b_pt u_tg u_sn b_ip u_ic b_ah b_be b_me u_wd b_tr b_ld u_st b_wn u_id)), (b_pi, (arI G 400 v_pi))], rfl, ⟨k4_1, by have q9 : k4_2.toInt = u_pd.toInt := (by omega); rw [← q9]; exact i_2, rfl, rfl⟩, by rw [ht]; exact hP.sub [0, 1] rfl, hD.sub [0, 1] (by decide) rfl⟩, hS.F ht⟩) hS.2.2 dX12_inner_41
  ·
    have i_5 : k4_2.toInt < u_pd.toInt := by have z := g5_geN (a := k4_2.toInt) (b := u_pd.toInt) (by rfl) (by rfl) c_5; omega
    refine lv_aload_n hx hb dX12_inner_12 rfl (lv_at hl 2 rfl) ?_
    refine va_get (D := G.1) (ci := 12) (v := .ref b_pi) (C := RX12) (T := TX12) (N := 52) hx hb hts inG_X12 hown hK hP 0 rfl rfl 21 (by decide) (hts _ fl_X12_39) (fun _ h9 => h9) rfl dX12_inner_13 ?_
    refine lv_iload_n hx hb dX12_inner_16 rfl (lv_at hl 1 rfl) ?_
    refine va_iald hx hb hK hP 1 0 rfl rfl (i := k4_2) (vp_in_iff.mpr ⟨by omega, by omega⟩) dX12_inner_17 ?_
    refine lv_bipush (v := 30) hx hb dX12_inner_18 (by decide) ?_
    refine lv_icmp_lt (tgt := 32) hx hb dX12_inner_20 (by decide) (fun c_6 => ?_) (fun c_6 => ?_)
    ·
      have i_6 : (v_pi k4_2.toNatClampNeg).toInt < 30 := by have z := g5_lt (a := (v_pi k4_2.toNatClampNeg).toInt) (b := 30) (by rfl) (by decide) c_6; omega
      refine lv_iload_n hx hb dX12_inner_32 rfl (lv_at hl 0 rfl) ?_
      refine lv_istore_n (lv' := [(1, .int k4_1), (2, .int k4_2), (0, .ref b_o)]) hx hb dX12_inner_33 rfl hl (by decide) rfl (fun ls hl => ?_)
      refine lv_iinc (v := (k4_2 + 1)) (lv' := [(2, .int (k4_2 + 1)), (1, .int k4_1), (0, .ref b_o)]) hx hb dX12_inner_34 hl (k := 1) rfl rfl (by decide) rfl (fun ls hl => ?_)
      have t_7 : (k4_2 + 1).toInt = k4_2.toInt + 1 := g5_iadd (a := k4_2.toInt) (b := 1) rfl (by decide) (by omega) (by omega)
      refine lv_goto (tgt := 4) hx hb dX12_inner_37 (by decide) ?_
      exact ih_4_4 ((k4_2 + 1), k4_1) ls H locs (show Int.toNat (400 - (k4_2 + 1).toInt) < Int.toNat (400 - k4_2.toInt) from g_up (show k4_2.toInt < (k4_2 + 1).toInt by omega) (show k4_2.toInt < 400 by omega)) ⟨lv_sub hl [1, 0, 2] rfl, hP, hD, hS, ⟨by omega, by omega⟩, inn_no i_2 (by omega) (by omega) (by omega), by omega⟩
    ·
      have i_6 : (v_pi k4_2.toNatClampNeg).toInt ≥ 30 := by have z := g5_ltN (a := (v_pi k4_2.toNatClampNeg).toInt) (b := 30) (by rfl) (by decide) c_6; omega
      refine lv_aload_n hx hb dX12_inner_23 rfl (lv_at hl 2 rfl) ?_
      refine va_get (D := G.1) (ci := 12) (v := .ref b_pi) (C := RX12) (T := TX12) (N := 52) hx hb hts inG_X12 hown hK hP 0 rfl rfl 21 (by decide) (hts _ fl_X12_39) (fun _ h9 => h9) rfl dX12_inner_24 ?_
      refine lv_iload_n hx hb dX12_inner_27 rfl (lv_at hl 1 rfl) ?_
      refine va_iald hx hb hK hP 1 0 rfl rfl (i := k4_2) (vp_in_iff.mpr ⟨by omega, by omega⟩) dX12_inner_28 ?_
      refine lv_goto (tgt := 33) hx hb dX12_inner_29 (by decide) ?_
      refine lv_istore_n (lv' := [(1, .int (v_pi k4_2.toNatClampNeg)), (2, .int k4_2), (0, .ref b_o)]) hx hb dX12_inner_33 rfl hl (by decide) rfl (fun ls hl => ?_)
      refine lv_iinc (v := (k4_2 + 1)) (lv' := [(2, .int (k4_2 + 1)), (1, .int (v_pi k4_2.toNatClampNeg)), (0, .ref b_o)]) hx hb dX12_inner_34 hl (k := 1) rfl rfl (by decide) rfl (fun ls hl => ?_)
      have t_8 : (k4_2 + 1).toInt = k4_2.toInt + 1 := g5_iadd (a := k4_2.toInt) (b := 1) rfl (by decide) (by omega) (by omega)
      refine lv_goto (tgt := 4) hx hb dX12_inner_37 (by decide) ?_
      exact ih_4_4 ((k4_2 + 1), (v_pi k4_2.toNatClampNeg)) ls H locs (show Int.toNat (400 - (k4_2 + 1).toInt) < Int.toNat (400 - k4_2.toInt) from g_up (show k4_2.toInt < (k4_2 + 1).toInt by omega) (show k4_2.toInt < 400 by omega)) ⟨lv_sub hl [1, 0, 2] rfl, hP, hD, hS, ⟨by omega, by omega⟩, inn_yes (by omega) (by omega) (by omega), by omega⟩
theorem dgX12_isCompared_0 : ∀ r ∈ ([(0, (.aload_n 0, 1)), (1, (.getfield 240, 3)), (4, (.iconst 1, 1)), (5, (.isub, 1)), (6, (.istore_n 1, 1)), (7, (.iload_n 1, 1)), (8, (.ifCond .lt 28, 3)), (11, (.aload_n 0, 1)), (12, (.getfield 39, 3)), (15, (.iload_n 1, 1)), (16, (.iaload, 1)), (17, (.i2l, 1)), (18, (.ldc2_w 250, 3)), (21, (.ldc2_w 130, 3)), (24, (.invokestatic 121, 3)), (27, (.ifCond .eq 9, 3)), (30, (.iinc 1 (-1), 3)), (33, (.goto (-26), 3)), (36, (.iload_n 1, 1)), (37, (.ifCond .lt 26, 3)), (40, (.aload_n 0, 1)), (41, (.getfield 39, 3)), (44, (.iload_n 1, 1)), (45, (.iaload, 1)), (46, (.i2l, 1)), (47, (.ldc2_w 47, 3)), (50, (.ldc2_w 252, 3)), (53, (.invokestatic 121, 3)), (56, (.ifCond .eq 7, 3)), (59, (.iconst 1, 1)), (60, (.goto 4, 3)), (63, (.iconst 0, 1)), (64, (.ireturn, 1))] : List (Nat × (Instr × Nat))), decode cX12_isCompared r.1 = .ok r.2 := by decide +kernel
theorem dX12_isCompared_0 : decode cX12_isCompared 0 = .ok (.aload_n 0, 1) := dgX12_isCompared_0 (0, (.aload_n 0, 1)) (List.mem_of_getElem? (i := 0) rfl)
theorem dX12_isCompared_1 : decode cX12_isCompared 1 = .ok (.getfield 240, 3) := dgX12_isCompared_0 (1, (.getfield 240, 3)) (List.mem_of_getElem? (i := 1) rfl)
theorem dX12_isCompared_4 : decode cX12_isCompared 4 = .ok (.iconst 1, 1) := dgX12_isCompared_0 (4, (.iconst 1, 1)) (List.mem_of_getElem? (i := 2) rfl)
theorem dX12_isCompared_5 : decode cX12_isCompared 5 = .ok (.isub, 1) := dgX12_isCompared_0 (5, (.isub, 1)) (List.mem_of_getElem? (i := 3) rfl)
theorem dX12_isCompared_6 : decode cX12_isCompared 6 = .ok (.istore_n 1, 1) := dgX12_isCompared_0 (6, (.istore_n 1, 1)) (List.mem_of_getElem? (i := 4) rfl)
theorem dX12_isCompared_7 : decode cX12_isCompared 7 = .ok (.iload_n 1, 1) := dgX12_isCompared_0 (7, (.iload_n 1, 1)) (List.mem_of_getElem? (i := 5) rfl)
theorem dX12_isCompared_8 : decode cX12_isCompared 8 = .ok (.ifCond .lt 28, 3) := dgX12_isCompared_0 (8, (.ifCond .lt 28, 3)) (List.mem_of_getElem? (i := 6) rfl)
theorem dX12_isCompared_11 : decode cX12_isCompared 11 = .ok (.aload_n 0, 1) := dgX12_isCompared_0 (11, (.aload_n 0, 1)) (List.mem_of_getElem? (i := 7) rfl)
theorem dX12_isCompared_12 : decode cX12_isCompared 12 = .ok (.getfield 39, 3) := dgX12_isCompared_0 (12, (.getfield 39, 3)) (List.mem_of_getElem? (i := 8) rfl)
theorem dX12_isCompared_15 : decode cX12_isCompared 15 = .ok (.iload_n 1, 1) := dgX12_isCompared_0 (15, (.iload_n 1, 1)) (List.mem_of_getElem? (i := 9) rfl)
theorem dX12_isCompared_16 : decode cX12_isCompared 16 = .ok (.iaload, 1) := dgX12_isCompared_0 (16, (.iaload, 1)) (List.mem_of_getElem? (i := 10) rfl)
theorem dX12_isCompared_17 : decode cX12_isCompared 17 = .ok (.i2l, 1) := dgX12_isCompared_0 (17, (.i2l, 1)) (List.mem_of_getElem? (i := 11) rfl)
theorem dX12_isCompared_18 : decode cX12_isCompared 18 = .ok (.ldc2_w 250, 3) := dgX12_isCompared_0 (18, (.ldc2_w 250, 3)) (List.mem_of_getElem? (i := 12) rfl)
theorem dX12_isCompared_21 : decode cX12_isCompared 21 = .ok (.ldc2_w 130, 3) := dgX12_isCompared_0 (21, (.ldc2_w 130, 3)) (List.mem_of_getElem? (i := 13) rfl)
theorem dX12_isCompared_24 : decode cX12_isCompared 24 = .ok (.invokestatic 121, 3) := dgX12_isCompared_0 (24, (.invokestatic 121, 3)) (List.mem_of_getElem? (i := 14) rfl)
theorem dX12_isCompared_27 : decode cX12_isCompared 27 = .ok (.ifCond .eq 9, 3) := dgX12_isCompared_0 (27, (.ifCond .eq 9, 3)) (List.mem_of_getElem? (i := 15) rfl)
theorem dX12_isCompared_30 : decode cX12_isCompared 30 = .ok (.iinc 1 (-1), 3) := dgX12_isCompared_0 (30, (.iinc 1 (-1), 3)) (List.mem_of_getElem? (i := 16) rfl)
theorem dX12_isCompared_33 : decode cX12_isCompared 33 = .ok (.goto (-26), 3) := dgX12_isCompared_0 (33, (.goto (-26), 3)) (List.mem_of_getElem? (i := 17) rfl)
theorem dX12_isCompared_36 : decode cX12_isCompared 36 = .ok (.iload_n 1, 1) := dgX12_isCompared_0 (36, (.iload_n 1, 1)) (List.mem_of_getElem? (i := 18) rfl)
theorem dX12_isCompared_37 : decode cX12_isCompared 37 = .ok (.ifCond .lt 26, 3) := dgX12_isCompared_0 (37, (.ifCond .lt 26, 3)) (List.mem_of_getElem? (i := 19) rfl)
theorem dX12_isCompared_40 : decode cX12_isCompared 40 = .ok (.aload_n 0, 1) := dgX12_isCompared_0 (40, (.aload_n 0, 1)) (List.mem_of_getElem? (i := 20) rfl)
theorem dX12_isCompared_41 : decode cX12_isCompared 41 = .ok (.getfield 39, 3) := dgX12_isCompared_0 (41, (.getfield 39, 3)) (List.mem_of_getElem? (i := 21) rfl)
theorem dX12_isCompared_44 : decode cX12_isCompared 44 = .ok (.iload_n 1, 1) := dgX12_isCompared_0 (44, (.iload_n 1, 1)) (List.mem_of_getElem? (i := 22) rfl)
theorem dX12_isCompared_45 : decode cX12_isCompared 45 = .ok (.iaload, 1) := dgX12_isCompared_0 (45, (.iaload, 1)) (List.mem_of_getElem? (i := 23) rfl)
theorem dX12_isCompared_46 : decode cX12_isCompared 46 = .ok (.i2l, 1) := dgX12_isCompared_0 (46, (.i2l, 1)) (List.mem_of_getElem? (i := 24) rfl)
theorem dX12_isCompared_47 : decode cX12_isCompared 47 = .ok (.ldc2_w 47, 3) := dgX12_isCompared_0 (47, (.ldc2_w 47, 3)) (List.mem_of_getElem? (i := 25) rfl)
theorem dX12_isCompared_50 : decode cX12_isCompared 50 = .ok (.ldc2_w 252, 3) := dgX12_isCompared_0 (50, (.ldc2_w 252, 3)) (List.mem_of_getElem? (i := 26) rfl)
theorem dX12_isCompared_53 : decode cX12_isCompared 53 = .ok (.invokestatic 121, 3) := dgX12_isCompared_0 (53, (.invokestatic 121, 3)) (List.mem_of_getElem? (i := 27) rfl)
theorem dX12_isCompared_56 : decode cX12_isCompared 56 = .ok (.ifCond .eq 7, 3) := dgX12_isCompared_0 (56, (.ifCond .eq 7, 3)) (List.mem_of_getElem? (i := 28) rfl)
theorem dX12_isCompared_59 : decode cX12_isCompared 59 = .ok (.iconst 1, 1) := dgX12_isCompared_0 (59, (.iconst 1, 1)) (List.mem_of_getElem? (i := 29) rfl)
theorem dX12_isCompared_60 : decode cX12_isCompared 60 = .ok (.goto 4, 3) := dgX12_isCompared_0 (60, (.goto 4, 3)) (List.mem_of_getElem? (i := 30) rfl)
theorem dX12_isCompared_63 : decode cX12_isCompared 63 = .ok (.iconst 0, 1) := dgX12_isCompared_0 (63, (.iconst 0, 1)) (List.mem_of_getElem? (i := 31) rfl)
theorem dX12_isCompared_64 : decode cX12_isCompared 64 = .ok (.ireturn, 1) := dgX12_isCompared_0 (64, (.ireturn, 1)) (List.mem_of_getElem? (i := 32) rfl)
theorem kl_X12_250 : Cond.constantLong RX12 250 20 ∈ tblG := tg 1586 (by decide +kernel) (by decide +kernel)
set_option maxHeartbeats 4000000 in
set_option maxRecDepth 100000 in
theorem n_in_20_23 (l : Launch) (G : g5_G) (sz : Nat) (p_x : Int32) : Met l yX12_in (wsG yX12_in cX12_in 6 (some .boolean)) ({ frames := 0, cells := 0, slots := 0, locals := 0 }) (va_Pc [.long p_x.toInt64, .long 20, .long 23] (g5_P G [] sz)) (va_Qi (fun (r : Int32) (u : va_W) => ((p_x.toInt < 20 ∨ 23 < p_x.toInt) ∧ (r = 0) ∧ (u = [])) ∨ ((20 ≤ p_x.toInt ∧ p_x.toInt ≤ 23) ∧ (r = 1) ∧ (u = []))) (g5_B G (va_A [] sz)) (va_A [] sz)) 0 0 (va_A [] sz) := by
  refine Met.ofW (cc := cX12_in) (maxL := 6) (ret := (some .boolean)) (by decide) rfl ?_
  intro p e s m args below meth c s₁ B hml hv
  obtain ⟨rfl, hsz, hP, hK, hD0, hN, hT⟩ := hv
  have hx := B.exec
  have hb := B.bytes
  have hr := B.returns
  have hts : ∀ w ∈ tblG, w.before _ s = true := fun w h => atoms_spec (ws := (wsG yX12_in cX12_in 6 (some .boolean))) B.pre w (List.mem_cons_of_mem _ h)
  have hown : s.vm.findClass RX12 = some m.cls := findClass_of_methodNamed B.named
  have hlocks := B.notSynchronized
  subst hsz
  have hD := hD0.self (sz := s.heap.size)
  generalize hAe : va_A [] s.heap.size = A at hD hT ⊢
  have hA : ∀ q : Nat, s.heap.size ≤ q → A q := fun q h => by rw [← hAe]; exact Or.inr h
  have hS : va_S A s.heap s.heap [] := va_S.rf
  have hP : va_P G.1 vwCl [] s.heap := hP
  have hl := lv_entry ([.long p_x.toInt64, .long 20, .long 23]) (n := 6) (Nat.le_of_ble_eq_true rfl)
  rw [lg_entry_eq]
  generalize (lg_sl ([.long p_x.toInt64, .long 20, .long 23]) ++ List.replicate (6 - (lg_sl ([.long p_x.toInt64, .long 20, .long 23])).length) Slot.unset).toArray = ls at hl ⊢
  have hl : lv_has ls 6 [(0, .long p_x.toInt64), (2, .long 20), (4, .long 23)] := hl
  refine lv_lload_n hx hb dX12_in_0 rfl (lv_at hl 0 rfl) ?_
  refine lv_lload_n hx hb dX12_in_1 rfl (lv_at hl 1 rfl) ?_
  have tl_1 : p_x.toInt64.toInt = p_x.toInt := Int32.toInt_toInt64 _
  have tl_2 : (20 : Int64).toInt = 20 := (by decide)
  have tc_3 := g5_cmpI p_x.toInt64 20
  refine W.lcmp hx hb dX12_in_2 ?_
  refine lv_if_lt (tgt := 17) hx hb dX12_in_3 (by decide) (fun c_4 => ?_) (fun c_4 => ?_)
  ·
    have i_4 : (lg_cmp p_x.toInt64 20).toInt < 0 := by have z := g5_lt (a := (lg_cmp p_x.toInt64 20).toInt) (b := 0) (by rfl) (by decide) c_4; omega
    refine lv_iconst (v := 0) hx hb dX12_in_17 (by decide) ?_
    exact W.zret (v := 0) hx hb hr rfl (fun t ht hW => ⟨⟨0, [], rfl, Or.inl (⟨by omega, rfl, rfl⟩), by rw [ht]; exact hP.sub [] rfl, hD.sub [] (by decide) rfl⟩, hS.F ht⟩) hS.2.2 dX12_in_18
  ·
    have i_4 : (lg_cmp p_x.toInt64 20).toInt ≥ 0 := by have z := g5_ltN (a := (lg_cmp p_x.toInt64 20).toInt) (b := 0) (by rfl) (by decide) c_4; omega
    refine lv_lload_n hx hb dX12_in_6 rfl (lv_at hl 0 rfl) ?_
    refine lv_lload hx hb dX12_in_7 (lv_at hl 2 rfl) ?_
    have tl_5 : p_x.toInt64.toInt = p_x.toInt := Int32.toInt_toInt64 _
    have tl_6 : (23 : Int64).toInt = 23 := (by decide)
    have tc_7 := g5_cmpI p_x.toInt64 23
    refine W.lcmp hx hb dX12_in_9 ?_
    refine lv_if_gt (tgt := 17) hx hb dX12_in_10 (by decide) (fun c_8 => ?_) (fun c_8 => ?_)
    ·
      have i_8 : (lg_cmp p_x.toInt64 23).toInt > 0 := by have z := g5_gt (a := (lg_cmp p_x.toInt64 23).toInt) (b := 0) (by rfl) (by decide) c_8; omega
      refine lv_iconst (v := 0) hx hb dX12_in_17 (by decide) ?_
      exact W.zret (v := 0) hx hb hr rfl (fun t ht hW => ⟨⟨0, [], rfl, Or.inl (⟨by omega, rfl, rfl⟩), by rw [ht]; exact hP.sub [] rfl, hD.sub [] (by decide) rfl⟩, hS.F ht⟩) hS.2.2 dX12_in_18
    ·
      have i_8 : (lg_cmp p_x.toInt64 23).toInt ≤ 0 := by have z := g5_gtN (a := (lg_cmp p_x.toInt64 23).toInt) (b := 0) (by rfl) (by decide) c_8; omega
      refine lv_iconst (v := 1) hx hb dX12_in_13 (by decide) ?_
      refine lv_goto (tgt := 18) hx hb dX12_in_14 (by decide) ?_
      exact W.zret (v := 1) hx hb hr rfl (fun t ht hW => ⟨⟨1, [], rfl, Or.inr (⟨by omega, rfl, rfl⟩), by rw [ht]; exact hP.sub [] rfl, hD.sub [] (by decide) rfl⟩, hS.F ht⟩) hS.2.2 dX12_in_18
theorem kl_X12_47 : Cond.constantLong RX12 47 24 ∈ tblG := tg 1191 (by decide +kernel) (by decide +kernel)
theorem kl_X12_252 : Cond.constantLong RX12 252 26 ∈ tblG := tg 1587 (by decide +kernel) (by decide +kernel)
set_option maxHeartbeats 4000000 in
set_option maxRecDepth 100000 in
theorem n_in_24_26 (l : Launch) (G : g5_G) (sz : Nat) (p_x : Int32) : Met l yX12_in (wsG yX12_in cX12_in 6 (some .boolean)) ({ frames := 0, cells := 0, slots := 0, locals := 0 }) (va_Pc [.long p_x.toInt64, .long 24, .long 26] (g5_P G [] sz)) (va_Qi (fun (r : Int32) (u : va_W) => ((p_x.toInt < 24 ∨ 26 < p_x.toInt) ∧ (r = 0) ∧ (u = [])) ∨ ((24 ≤ p_x.toInt ∧ p_x.toInt ≤ 26) ∧ (r = 1) ∧ (u = []))) (g5_B G (va_A [] sz)) (va_A [] sz)) 0 0 (va_A [] sz) := by
  refine Met.ofW (cc := cX12_in) (maxL := 6) (ret := (some .boolean)) (by decide) rfl ?_
  intro p e s m args below meth c s₁ B hml hv
  obtain ⟨rfl, hsz, hP, hK, hD0, hN, hT⟩ := hv
  have hx := B.exec
  have hb := B.bytes
  have hr := B.returns
  have hts : ∀ w ∈ tblG, w.before _ s = true := fun w h => atoms_spec (ws := (wsG yX12_in cX12_in 6 (some .boolean))) B.pre w (List.mem_cons_of_mem _ h)
  have hown : s.vm.findClass RX12 = some m.cls := findClass_of_methodNamed B.named
  have hlocks := B.notSynchronized
  subst hsz
  have hD := hD0.self (sz := s.heap.size)
  generalize hAe : va_A [] s.heap.size = A at hD hT ⊢
  have hA : ∀ q : Nat, s.heap.size ≤ q → A q := fun q h => by rw [← hAe]; exact Or.inr h
  have hS : va_S A s.heap s.heap [] := va_S.rf
  have hP : va_P G.1 vwCl [] s.heap := hP
  have hl := lv_entry ([.long p_x.toInt64, .long 24, .long 26]) (n := 6) (Nat.le_of_ble_eq_true rfl)
  rw [lg_entry_eq]
  generalize (lg_sl ([.long p_x.toInt64, .long 24, .long 26]) ++ List.replicate (6 - (lg_sl ([.long p_x.toInt64, .long 24, .long 26])).length) Slot.unset).toArray = ls at hl ⊢
  have hl : lv_has ls 6 [(0, .long p_x.toInt64), (2, .long 24), (4, .long 26)] := hl
  refine lv_lload_n hx hb dX12_in_0 rfl (lv_at hl 0 rfl) ?_
  refine lv_lload_n hx hb dX12_in_1 rfl (lv_at hl 1 rfl) ?_
  have tl_1 : p_x.toInt64.toInt = p_x.toInt := Int32.toInt_toInt64 _
  have tl_2 : (24 : Int64).toInt = 24 := (by decide)
  have tc_3 := g5_cmpI p_x.toInt64 24
  refine W.lcmp hx hb dX12_in_2 ?_
  refine lv_if_lt (tgt := 17) hx hb dX12_in_3 (by decide) (fun c_4 => ?_) (fun c_4 => ?_)
  ·
    have i_4 : (lg_cmp p_x.toInt64 24).toInt < 0 := by have z := g5_lt (a := (lg_cmp p_x.toInt64 24).toInt) (b := 0) (by rfl) (by decide) c_4; omega
    refine lv_iconst (v := 0) hx hb dX12_in_17 (by decide) ?_
    exact W.zret (v := 0) hx hb hr rfl (fun t ht hW => ⟨⟨0, [], rfl, Or.inl (⟨by omega, rfl, rfl⟩), by rw [ht]; exact hP.sub [] rfl, hD.sub [] (by decide) rfl⟩, hS.F ht⟩) hS.2.2 dX12_in_18
  ·
    have i_4 : (lg_cmp p_x.toInt64 24).toInt ≥ 0 := by have z := g5_ltN (a := (lg_cmp p_x.toInt64 24).toInt) (b := 0) (by rfl) (by decide) c_4; omega
    refine lv_lload_n hx hb dX12_in_6 rfl (lv_at hl 0 rfl) ?_
    refine lv_lload hx hb dX12_in_7 (lv_at hl 2 rfl) ?_
    have tl_5 : p_x.toInt64.toInt = p_x.toInt := Int32.toInt_toInt64 _
    have tl_6 : (26 : Int64).toInt = 26 := (by decide)
    have tc_7 := g5_cmpI p_x.toInt64 26
    refine W.lcmp hx hb dX12_in_9 ?_
    refine lv_if_gt (tgt := 17) hx hb dX12_in_10 (by decide) (fun c_8 => ?_) (fun c_8 => ?_)
    ·
      have i_8 : (lg_cmp p_x.toInt64 26).toInt > 0 := by have z := g5_gt (a := (lg_cmp p_x.toInt64 26).toInt) (b := 0) (by rfl) (by decide) c_8; omega
      refine lv_iconst (v := 0) hx hb dX12_in_17 (by decide) ?_
      exact W.zret (v := 0) hx hb hr rfl (fun t ht hW => ⟨⟨0, [], rfl, Or.inl (⟨by omega, rfl, rfl⟩), by rw [ht]; exact hP.sub [] rfl, hD.sub [] (by decide) rfl⟩, hS.F ht⟩) hS.2.2 dX12_in_18
    ·
      have i_8 : (lg_cmp p_x.toInt64 26).toInt ≤ 0 := by have z := g5_gtN (a := (lg_cmp p_x.toInt64 26).toInt) (b := 0) (by rfl) (by decide) c_8; omega
      refine lv_iconst (v := 1) hx hb dX12_in_13 (by decide) ?_
      refine lv_goto (tgt := 18) hx hb dX12_in_14 (by decide) ?_
      exact W.zret (v := 1) hx hb hr rfl (fun t ht hW => ⟨⟨1, [], rfl, Or.inr (⟨by omega, rfl, rfl⟩), by rw [ht]; exact hP.sub [] rfl, hD.sub [] (by decide) rfl⟩, hS.F ht⟩) hS.2.2 dX12_in_18
set_option maxHeartbeats 4000000 in
set_option maxRecDepth 100000 in
theorem n_isCompared (l : Launch) (G : g5_G) (b_o b_pi b_rf b_ro b_im b_ke b_tp b_nl b_op b_ar b_pa b_ws b_hw b_se b_re b_pt b_ip b_ah b_be b_me b_tr b_ld b_wn : Nat) (sz : Nat) (u_th : Int32) (u_sa : Int32) (u_fd : Int32) (u_td : Int32) (u_fr : Int32) (u_to : Int32) (u_so : Int32) (u_fa : Int32) (u_bd : Int32) (u_nc : Int32) (u_co : Int32) (u_le : Int32) (u_pd : Int32) (u_od : Int32) (u_la : Int32) (u_bk : Int32) (u_ce : Int32) (u_ho : Int32) (u_wy : Int32) (u_bt : Int32) (u_ps : Int32) (u_tg : Int32) (u_sn : Int32) (u_ic : Int32) (u_wd : Int32) (u_id : Int32) (u_wo : Int64) (u_va : Int64) (u_su : Int64) (u_st : Int64) (v_pi : Nat → Int32) (h_u_td : 0 ≤ u_td.toInt ∧ u_td.toInt ≤ 400) (h_u_fr : 0 ≤ u_fr.toInt ∧ u_fr.toInt ≤ 400) (h_u_to : 0 ≤ u_to.toInt ∧ u_to.toInt ≤ 400) (h_u_bd : 0 ≤ u_bd.toInt ∧ u_bd.toInt ≤ 1) (h_u_nc : 0 ≤ u_nc.toInt ∧ u_nc.toInt ≤ 12) (h_u_co : 0 ≤ u_co.toInt ∧ u_co.toInt ≤ 400) (h_u_pd : 0 ≤ u_pd.toInt ∧ u_pd.toInt ≤ 400) (h_u_la : 0 ≤ u_la.toInt ∧ u_la.toInt ≤ 4840) (h_u_bk : 0 ≤ u_bk.toInt ∧ u_bk.toInt ≤ 1) (h_u_ce : 0 ≤ u_ce.toInt ∧ u_ce.toInt ≤ 63) (h_u_ho : 0 ≤ u_ho.toInt ∧ u_ho.toInt ≤ 23) (h_u_wy : 0 ≤ u_wy.toInt ∧ u_wy.toInt ≤ 3) (h_u_bt : 0 ≤ u_bt.toInt ∧ u_bt.toInt ≤ 1000000) (h_u_ps : 0 ≤ u_ps.toInt ∧ u_ps.toInt ≤ 200) (h_u_ic : 0 ≤ u_ic.toInt ∧ u_ic.toInt ≤ 1) (h_u_id : 0 ≤ u_id.toInt ∧ u_id.toInt ≤ 1) : Met l yX12_isCompared (wsG yX12_isCompared cX12_isCompared 2 (some .boolean)) ({ frames := 1, cells := 0, slots := 0, locals := 25 }) (va_Pc [.ref b_o] (g5_P G [(b_o, (oc12 u_th u_sa b_rf b_ro b_im b_ke u_fd b_tp u_td u_fr u_to u_so u_wo u_fa u_bd u_nc b_nl u_co b_op b_ar u_le b_pi b_pa u_pd u_od b_ws b_hw u_la b_se b_re u_bk u_va u_su u_ce u_ho u_wy u_bt u_ps b_pt u_tg u_sn b_ip u_ic b_ah b_be b_me u_wd b_tr b_ld u_st b_wn u_id)), (b_pi, (arI G 400 v_pi))] sz)) (va_Qi (fun (r : Int32) (u : va_W) => (∃ (o_r : Int32), (0 ≤ o_r.toInt ∧ o_r.toInt ≤ 1) ∧ (r = o_r) ∧ (u = [(b_o, (oc12 u_th u_sa b_rf b_ro b_im b_ke u_fd b_tp u_td u_fr u_to u_so u_wo u_fa u_bd u_nc b_nl u_co b_op b_ar u_le b_pi b_pa u_pd u_od b_ws b_hw u_la b_se b_re u_bk u_va u_su u_ce u_ho u_wy u_bt u_ps b_pt u_tg u_sn b_ip u_ic b_ah b_be b_me u_wd b_tr b_ld u_st b_wn u_id)), (b_pi, (arI G 400 v_pi))]))) (g5_B G (va_A [(b_o, (oc12 u_th u_sa b_rf b_ro b_im b_ke u_fd b_tp u_td u_fr u_to u_so u_wo u_fa u_bd u_nc b_nl u_co b_op b_ar u_le b_pi b_pa u_pd u_od b_ws b_hw u_la b_se b_re u_bk u_va u_su u_ce u_ho u_wy u_bt u_ps b_pt u_tg u_sn b_ip u_ic b_ah b_be b_me u_wd b_tr b_ld u_st b_wn u_id)), (b_pi, (arI G 400 v_pi))] sz)) (va_A [(b_o, (oc12 u_th u_sa b_rf b_ro b_im b_ke u_fd b_tp u_td u_fr u_to u_so u_wo u_fa u_bd u_nc b_nl u_co b_op b_ar u_le b_pi b_pa u_pd u_od b_ws b_hw u_la b_se b_re u_bk u_va u_su u_ce u_ho u_wy u_bt u_ps b_pt u_tg u_sn b_ip u_ic b_ah b_be b_me u_wd b_tr b_ld u_st b_wn u_id)), (b_pi, (arI G 400 v_pi))] sz)) 0 0 (va_A [(b_o, (oc12 u_th u_sa b_rf b_ro b_im b_ke u_fd b_tp u_td u_fr u_to u_so u_wo u_fa u_bd u_nc b_nl u_co b_op b_ar u_le b_pi b_pa u_pd u_od b_ws b_hw u_la b_se b_re u_bk u_va u_su u_ce u_ho u_wy u_bt u_ps b_pt u_tg u_sn b_ip u_ic b_ah b_be b_me u_wd b_tr b_ld u_st b_wn u_id)), (b_pi, (arI G 400 v_pi))] sz) := by
  refine Met.ofW (cc := cX12_isCompared) (maxL := 2) (ret := (some .boolean)) (by decide) rfl ?_
  intro p e s m args below meth c s₁ B hml hv
  obtain ⟨rfl, hsz, hP, hK, hD0, hN, hT⟩ := hv
  have hx := B.exec
  have hb := B.bytes
  have hr := B.returns
  have hts : ∀ w ∈ tblG, w.before _ s = true := fun w h => atoms_spec (ws := (wsG yX12_isCompared cX12_isCompared 2 (some .boolean))) B.pre w (List.mem_cons_of_mem _ h)
  have hown : s.vm.findClass RX12 = some m.cls := findClass_of_methodNamed B.named
  have hlocks := B.notSynchronized
  subst hsz
  have hD := hD0.self (sz := s.heap.size)
  generalize hAe : va_A [(b_o, (oc12 u_th u_sa b_rf b_ro b_im b_ke u_fd b_tp u_td u_fr u_to u_so u_wo u_fa u_bd u_nc b_nl u_co b_op b_ar u_le b_pi b_pa u_pd u_od b_ws b_hw u_la b_se b_re u_bk u_va u_su u_ce u_ho u_wy u_bt u_ps b_pt u_tg u_sn b_ip u_ic b_ah b_be b_me u_wd b_tr b_ld u_st b_wn u_id)), (b_pi, (arI G 400 v_pi))] s.heap.size = A at hD hT ⊢
  have hA : ∀ q : Nat, s.heap.size ≤ q → A q := fun q h => by rw [← hAe]; exact Or.inr h
  have hS : va_S A s.heap s.heap [] := va_S.rf
  have hP : va_P G.1 vwCl [(b_o, (oc12 u_th u_sa b_rf b_ro b_im b_ke u_fd b_tp u_td u_fr u_to u_so u_wo u_fa u_bd u_nc b_nl u_co b_op b_ar u_le b_pi b_pa u_pd u_od b_ws b_hw u_la b_se b_re u_bk u_va u_su u_ce u_ho u_wy u_bt u_ps b_pt u_tg u_sn b_ip u_ic b_ah b_be b_me u_wd b_tr b_ld u_st b_wn u_id)), (b_pi, (arI G 400 v_pi))] s.heap := hP
  have hl := lv_entry ([.ref b_o]) (n := 2) (Nat.le_of_ble_eq_true rfl)
  rw [lg_entry_eq]
  generalize (lg_sl ([.ref b_o]) ++ List.replicate (2 - (lg_sl ([.ref b_o])).length) Slot.unset).toArray = ls at hl ⊢
  have hl : lv_has ls 2 [(0, .ref b_o)] := hl
  refine lv_aload_n hx hb dX12_isCompared_0 rfl (lv_at hl 0 rfl) ?_
  refine va_get (D := G.1) (ci := 12) (v := .int u_pd) (C := RX12) (T := TX12) (N := 52) hx hb hts inG_X12 hown hK hP 0 rfl rfl 23 (by decide) (hts _ fl_X12_240) (fun _ h9 => h9) rfl dX12_isCompared_1 ?_
  refine lv_iconst (v := 1) hx hb dX12_isCompared_4 (by decide) ?_
  refine lv_isub hx hb dX12_isCompared_5 ?_
  have t_1 : (u_pd - 1).toInt = u_pd.toInt - 1 := g5_isub (a := u_pd.toInt) (b := 1) (by rfl) (by decide) (by omega) (by omega)
  refine lv_istore_n (lv' := [(1, .int (u_pd - 1)), (0, .ref b_o)]) hx hb dX12_isCompared_6 rfl hl (by decide) rfl (fun ls hl => ?_)
  refine g5_loop (α := (Int32)) (fun (k7_1 : (Int32)) (ls : Array Slot) (H : Heap) (locs : List Loc) => lv_has ls 2 [(1, .int k7_1), (0, .ref b_o)] ∧ va_P G.1 vwCl [(b_o, (oc12 u_th u_sa b_rf b_ro b_im b_ke u_fd b_tp u_td u_fr u_to u_so u_wo u_fa u_bd u_nc b_nl u_co b_op b_ar u_le b_pi b_pa u_pd u_od b_ws b_hw u_la b_se b_re u_bk u_va u_su u_ce u_ho u_wy u_bt u_ps b_pt u_tg u_sn b_ip u_ic b_ah b_be b_me u_wd b_tr b_ld u_st b_wn u_id)), (b_pi, (arI G 400 v_pi))] H ∧ va_D A [(b_o, (oc12 u_th u_sa b_rf b_ro b_im b_ke u_fd b_tp u_td u_fr u_to u_so u_wo u_fa u_bd u_nc b_nl u_co b_op b_ar u_le b_pi b_pa u_pd u_od b_ws b_hw u_la b_se b_re u_bk u_va u_su u_ce u_ho u_wy u_bt u_ps b_pt u_tg u_sn b_ip u_ic b_ah b_be b_me u_wd b_tr b_ld u_st b_wn u_id)), (b_pi, (arI G 400 v_pi))] ∧ va_S A s.heap H locs ∧ ((-1) ≤ k7_1.toInt ∧ k7_1.toInt ≤ 399)) (fun (k7_1 : (Int32)) => Int.toNat (k7_1.toInt + 1)) (u_pd - 1) ⟨lv_sub hl [0, 1] rfl, hP, hD, hS, ⟨by omega, by omega⟩⟩ ?_
  rintro k7_1 ls H locs ⟨hl, hP, hD, hS, i_2⟩ ih_7_3
  have hl : lv_has ls 2 [(1, .int k7_1), (0, .ref b_o)] := hl
  have i_2 : (-1) ≤ k7_1.toInt ∧ k7_1.toInt ≤ 399 := i_2
  refine g5_rs [(b_o, (oc12 u_th u_sa b_rf b_ro b_im b_ke u_fd b_tp u_td u_fr u_to u_so u_wo u_fa u_bd u_nc b_nl u_co b_op b_ar u_le b_pi b_pa u_pd u_od b_ws b_hw u_la b_se b_re u_bk u_va u_su u_ce u_ho u_wy u_bt u_ps b_pt u_tg u_sn b_ip u_ic b_ah b_be b_me u_wd b_tr b_ld u_st b_wn u_id)), (b_pi, (arI G 400 v_pi))] hP hD (fun hP hD => ?_)
  refine lv_iload_n hx hb dX12_isCompared_7 rfl (lv_at hl 0 rfl) ?_
  refine lv_if_lt (tgt := 36) hx hb dX12_isCompared_8 (by decide) (fun c_4 => ?_) (fun c_4 => ?_)
  ·
    have i_4 : k7_1.toInt < 0 := by have z := g5_lt (a := k7_1.toInt) (b := 0) (by rfl) (by decide) c_4; omega
    refine lv_iload_n hx hb dX12_isCompared_36 rfl (lv_at hl 0 rfl) ?_
    refine lv_if_lt (tgt := 63) hx hb dX12_isCompared_37 (by decide) (fun c_5 => ?_) (fun c_5 => ?_)
    ·
      have i_5 : k7_1.toInt < 0 := by have z := g5_lt (a := k7_1.toInt) (b := 0) (by rfl) (by decide) c_5; omega
      refine lv_iconst (v := 0) hx hb dX12_isCompared_63 (by decide) ?_
      exact W.zret (v := 0) hx hb hr rfl (fun t ht hW => ⟨⟨0, [(b_o, (oc12 u_th u_sa b_rf b_ro b_im b_ke u_fd b_tp u_td u_fr u_to u_so u_wo u_fa u_bd u_nc b_nl u_co b_op b_ar u_le b_pi b_pa u_pd u_od b_ws b_hw u_la b_se b_re u_bk u_va u_su u_ce u_ho u_wy u_bt u_ps b_pt u_tg u_sn b_ip u_ic b_ah b_be b_me u_wd b_tr b_ld u_st b_wn u_id)), (b_pi, (arI G 400 v_pi))], rfl, ⟨0, ⟨by have zc_o_r : (0 : Int32).toInt = 0 := (by decide); omega, by have zc_o_r : (0 : Int32).toInt = 0 := (by decide); omega⟩, rfl, rfl⟩, by rw [ht]; exact hP.sub [0, 1] rfl, hD.sub [0, 1] (by decide) rfl⟩, hS.F ht⟩) hS.2.2 dX12_isCompared_64
    ·
      have i_5 : k7_1.toInt ≥ 0 := by have z := g5_ltN (a := k7_1.toInt) (b := 0) (by rfl) (by decide) c_5; omega
      omega
  ·
    have i_4 : k7_1.toInt ≥ 0 := by have z := g5_ltN (a := k7_1.toInt) (b := 0) (by rfl) (by decide) c_4; omega
    refine lv_aload_n hx hb dX12_isCompared_11 rfl (lv_at hl 1 rfl) ?_
    refine va_get (D := G.1) (ci := 12) (v := .ref b_pi) (C := RX12) (T := TX12) (N := 52) hx hb hts inG_X12 hown hK hP 0 rfl rfl 21 (by decide) (hts _ fl_X12_39) (fun _ h9 => h9) rfl dX12_isCompared_12 ?_
    refine lv_iload_n hx hb dX12_isCompared_15 rfl (lv_at hl 0 rfl) ?_
    refine va_iald hx hb hK hP 1 0 rfl rfl (i := k7_1) (vp_in_iff.mpr ⟨by omega, by omega⟩) dX12_isCompared_16 ?_
    refine lv_i2l (v := (v_pi k7_1.toNatClampNeg).toInt64) hx hb dX12_isCompared_17 rfl ?_
    refine lv_ldc2 (v := 20) hx hb hown (hts _ kl_X12_250) dX12_isCompared_18 ?_
    refine lv_ldc2 (v := 23) hx hb hown (hts _ kl_X12_130) dX12_isCompared_21 ?_
    obtain ⟨hPc, hDc, hFc⟩ := g5_sub3 (wc := []) hP hD hS hA [] (by decide) rfl
    refine va_calli (va_runS (As := [.long (v_pi k7_1.toNatClampNeg).toInt64, .long 20, .long 23]) (rest := []) ⟨hx, hb, hml, hown, hts⟩ (n_in_20_23 l G H.size (v_pi k7_1.toNatClampNeg)) (va_cwS 3 hts gS_X12_121 rfl rfl rfl hs_X12_in ⟨Nat.le_of_ble_eq_true rfl, Nat.le_of_ble_eq_true rfl⟩) (g5_preS hPc hK hDc hN hT hS hFc) rfl rfl hl.1 rfl (lv_room (Nat.le_of_ble_eq_true rfl)) dX12_isCompared_24 ⟨Nat.le_of_ble_eq_true rfl, Nat.le_of_ble_eq_true rfl⟩) hS (fun q _ h => hFc q h) hFc (fun r u t H1 locs ht hvm hw hB hz1 hk1 hS => ?_)
    obtain ⟨hP1, hD1⟩ := hB
    rw [ht] at hP1
    rcases hw with ⟨i_6, rfl, rfl⟩ | ⟨i_7, rfl, rfl⟩
    ·
      have i_6 : (v_pi k7_1.toNatClampNeg).toInt < 20 ∨ 23 < (v_pi k7_1.toNatClampNeg).toInt := i_6
      have hP := g5_same hP hk1
      generalize H1 = H at hP hS ⊢
      refine lv_if_eq (tgt := 36) hx hb dX12_isCompared_27 (by decide) (fun c_8 => ?_) (fun c_8 => ?_)
      ·
        refine lv_iload_n hx hb dX12_isCompared_36 rfl (lv_at hl 0 rfl) ?_
        refine lv_if_lt (tgt := 63) hx hb dX12_isCompared_37 (by decide) (fun c_9 => ?_) (fun c_9 => ?_)
        ·
          have i_9 : k7_1.toInt < 0 := by have z := g5_lt (a := k7_1.toInt) (b := 0) (by rfl) (by decide) c_9; omega
          omega
        ·
          have i_9 : k7_1.toInt ≥ 0 := by have z := g5_ltN (a := k7_1.toInt) (b := 0) (by rfl) (by decide) c_9; omega
          refine lv_aload_n hx hb dX12_isCompared_40 rfl (lv_at hl 1 rfl) ?_
          refine va_get (D := G.1) (ci := 12) (v := .ref b_pi) (C := RX12) (T := TX12) (N := 52) hx hb hts inG_X12 hown hK hP 0 rfl rfl 21 (by decide) (hts _ fl_X12_39) (fun _ h9 => h9) rfl dX12_isCompared_41 ?_
          refine lv_iload_n hx hb dX12_isCompared_44 rfl (lv_at hl 0 rfl) ?_
          refine va_iald hx hb hK hP 1 0 rfl rfl (i := k7_1) (vp_in_iff.mpr ⟨by omega, by omega⟩) dX12_isCompared_45 ?_
          refine lv_i2l (v := (v_pi k7_1.toNatClampNeg).toInt64) hx hb dX12_isCompared_46 rfl ?_
          refine lv_ldc2 (v := 24) hx hb hown (hts _ kl_X12_47) dX12_isCompared_47 ?_
          refine lv_ldc2 (v := 26) hx hb hown (hts _ kl_X12_252) dX12_isCompared_50 ?_
          obtain ⟨hPc, hDc, hFc⟩ := g5_sub3 (wc := []) hP hD hS hA [] (by decide) rfl
          refine va_calli (va_runS (As := [.long (v_pi k7_1.toNatClampNeg).toInt64, .long 24, .long 26]) (rest := []) ⟨hx, hb, hml, hown, hts⟩ (n_in_24_26 l G H.size (v_pi k7_1.toNatClampNeg)) (va_cwS 3 hts gS_X12_121 rfl rfl rfl hs_X12_in ⟨Nat.le_of_ble_eq_true rfl, Nat.le_of_ble_eq_true rfl⟩) (g5_preS hPc hK hDc hN hT hS hFc) rfl rfl hl.1 rfl (lv_room (Nat.le_of_ble_eq_true rfl)) dX12_isCompared_53 ⟨Nat.le_of_ble_eq_true rfl, Nat.le_of_ble_eq_true rfl⟩) hS (fun q _ h => hFc q h) hFc (fun r u t H1 locs ht hvm hw hB hz1 hk1 hS => ?_)
          obtain ⟨hP1, hD1⟩ := hB
          rw [ht] at hP1
          rcases hw with ⟨i_10, rfl, rfl⟩ | ⟨i_11, rfl, rfl⟩
          ·
            have i_10 : (v_pi k7_1.toNatClampNeg).toInt < 24 ∨ 26 < (v_pi k7_1.toNatClampNeg).toInt := i_10
            have hP := g5_same hP hk1
            generalize H1 = H at hP hS ⊢
            refine lv_if_eq (tgt := 63) hx hb dX12_isCompared_56 (by decide) (fun c_12 => ?_) (fun c_12 => ?_)
            ·
              refine lv_iconst (v := 0) hx hb dX12_isCompared_63 (by decide) ?_
              exact W.zret (v := 0) hx hb hr rfl (fun t ht hW => ⟨⟨0, [(b_o, (oc12 u_th u_sa b_rf b_ro b_im b_ke u_fd b_tp u_td u_fr u_to u_so u_wo u_fa u_bd u_nc b_nl u_co b_op b_ar u_le b_pi b_pa u_pd u_od b_ws b_hw u_la b_se b_re u_bk u_va u_su u_ce u_ho u_wy u_bt u_ps b_pt u_tg u_sn b_ip u_ic b_ah b_be b_me u_wd b_tr b_ld u_st b_wn u_id)), (b_pi, (arI G 400 v_pi))], rfl, ⟨0, ⟨by have zc_o_r : (0 : Int32).toInt = 0 := (by decide); omega, by have zc_o_r : (0 : Int32).toInt = 0 := (by decide); omega⟩, rfl, rfl⟩, by rw [ht]; exact hP.sub [0, 1] rfl, hD.sub [0, 1] (by decide) rfl⟩, hS.F ht⟩) hS.2.2 dX12_isCompared_64
            ·
              exact absurd c_12 (by decide)
          ·
            have i_11 : 24 ≤ (v_pi k7_1.toNatClampNeg).toInt ∧ (v_pi k7_1.toNatClampNeg).toInt ≤ 26 := i_11
            have hP := g5_same hP hk1
            generalize H1 = H at hP hS ⊢
            refine lv_if_eq (tgt := 63) hx hb dX12_isCompared_56 (by decide) (fun c_13 => ?_) (fun c_13 => ?_)
            ·
              exact absurd c_13 (by decide)
            ·
              refine lv_iconst (v := 1) hx hb dX12_isCompared_59 (by decide) ?_
              refine lv_goto (tgt := 64) hx hb dX12_isCompared_60 (by decide) ?_
              exact W.zret (v := 1) hx hb hr rfl (fun t ht hW => ⟨⟨1, [(b_o, (oc12 u_th u_sa b_rf b_ro b_im b_ke u_fd b_tp u_td u_fr u_to u_so u_wo u_fa u_bd u_nc b_nl u_co b_op b_ar u_le b_pi b_pa u_pd u_od b_ws b_hw u_la b_se b_re u_bk u_va u_su u_ce u_ho u_wy u_bt u_ps b_pt u_tg u_sn b_ip u_ic b_ah b_be b_me u_wd b_tr b_ld u_st b_wn u_id)), (b_pi, (arI G 400 v_pi))], rfl, ⟨1, ⟨by have zc_o_r : (1 : Int32).toInt = 1 := (by decide); omega, by have zc_o_r : (1 : Int32).toInt = 1 := (by decide); omega⟩, rfl, rfl⟩, by rw [ht]; exact hP.sub [0, 1] rfl, hD.sub [0, 1] (by decide) rfl⟩, hS.F ht⟩) hS.2.2 dX12_isCompared_64
      ·
        exact absurd c_8 (by decide)
    ·
      have i_7 : 20 ≤ (v_pi k7_1.toNatClampNeg).toInt ∧ (v_pi k7_1.toNatClampNeg).toInt ≤ 23 := i_7
      have hP := g5_same hP hk1
      generalize H1 = H at hP hS ⊢
      refine lv_if_eq (tgt := 36) hx hb dX12_isCompared_27 (by decide) (fun c_14 => ?_) (fun c_14 => ?_)
      ·
        exact absurd c_14 (by decide)
      ·
        obtain ⟨y15, hy_15, t_15⟩ := g_incN k7_1 (-1) (by decide) (by omega) (by omega)
        have t_15 : y15.toInt = k7_1.toInt + (-1) := t_15
        refine lv_iinc (v := y15) (lv' := [(1, .int y15), (0, .ref b_o)]) hx hb dX12_isCompared_30 hl (k := 0) rfl hy_15 (by decide) rfl (fun ls hl => ?_)
        refine lv_goto (tgt := 7) hx hb dX12_isCompared_33 (by decide) ?_
        exact ih_7_3 y15 ls H locs (show Int.toNat (y15.toInt + 1) < Int.toNat (k7_1.toInt + 1) from g_dn (show y15.toInt < k7_1.toInt by omega) (show 0 ≤ k7_1.toInt by omega)) ⟨lv_sub hl [0, 1] rfl, hP, hD, hS, ⟨by omega, by omega⟩⟩
theorem dgX12_partAt_0 : ∀ r ∈ ([(0, (.iconst (-1), 1)), (1, (.istore_n 1, 1)), (2, (.iconst 0, 1)), (3, (.istore_n 2, 1)), (4, (.iload_n 2, 1)), (5, (.bipush 8, 2)), (7, (.if_icmp .ge 30, 3)), (10, (.aload_n 0, 1)), (11, (.aload_n 0, 1)), (12, (.getfield 61, 3)), (15, (.iload_n 2, 1)), (16, (.laload, 1)), (17, (.invokevirtual 254, 3)), (20, (.ifCond .eq 9, 3)), (23, (.iload_n 2, 1)), (24, (.iconst 1, 1)), (25, (.iadd, 1)), (26, (.goto 4, 3)), (29, (.iload_n 1, 1)), (30, (.istore_n 1, 1)), (31, (.iinc 2 1, 3)), (34, (.goto (-30), 3)), (37, (.iload_n 1, 1)), (38, (.ireturn, 1))] : List (Nat × (Instr × Nat))), decode cX12_partAt r.1 = .ok r.2 := by decide +kernel
theorem dX12_partAt_0 : decode cX12_partAt 0 = .ok (.iconst (-1), 1) := dgX12_partAt_0 (0, (.iconst (-1), 1)) (List.mem_of_getElem? (i := 0) rfl)
theorem dX12_partAt_1 : decode cX12_partAt 1 = .ok (.istore_n 1, 1) := dgX12_partAt_0 (1, (.istore_n 1, 1)) (List.mem_of_getElem? (i := 1) rfl)
theorem dX12_partAt_2 : decode cX12_partAt 2 = .ok (.iconst 0, 1) := dgX12_partAt_0 (2, (.iconst 0, 1)) (List.mem_of_getElem? (i := 2) rfl)
theorem dX12_partAt_3 : decode cX12_partAt 3 = .ok (.istore_n 2, 1) := dgX12_partAt_0 (3, (.istore_n 2, 1)) (List.mem_of_getElem? (i := 3) rfl)
theorem dX12_partAt_4 : decode cX12_partAt 4 = .ok (.iload_n 2, 1) := dgX12_partAt_0 (4, (.iload_n 2, 1)) (List.mem_of_getElem? (i := 4) rfl)
theorem dX12_partAt_5 : decode cX12_partAt 5 = .ok (.bipush 8, 2) := dgX12_partAt_0 (5, (.bipush 8, 2)) (List.mem_of_getElem? (i := 5) rfl)
theorem dX12_partAt_7 : decode cX12_partAt 7 = .ok (.if_icmp .ge 30, 3) := dgX12_partAt_0 (7, (.if_icmp .ge 30, 3)) (List.mem_of_getElem? (i := 6) rfl)
theorem dX12_partAt_10 : decode cX12_partAt 10 = .ok (.aload_n 0, 1) := dgX12_partAt_0 (10, (.aload_n 0, 1)) (List.mem_of_getElem? (i := 7) rfl)
theorem dX12_partAt_11 : decode cX12_partAt 11 = .ok (.aload_n 0, 1) := dgX12_partAt_0 (11, (.aload_n 0, 1)) (List.mem_of_getElem? (i := 8) rfl)
theorem dX12_partAt_12 : decode cX12_partAt 12 = .ok (.getfield 61, 3) := dgX12_partAt_0 (12, (.getfield 61, 3)) (List.mem_of_getElem? (i := 9) rfl)
theorem dX12_partAt_15 : decode cX12_partAt 15 = .ok (.iload_n 2, 1) := dgX12_partAt_0 (15, (.iload_n 2, 1)) (List.mem_of_getElem? (i := 10) rfl)
theorem dX12_partAt_16 : decode cX12_partAt 16 = .ok (.laload, 1) := dgX12_partAt_0 (16, (.laload, 1)) (List.mem_of_getElem? (i := 11) rfl)
theorem dX12_partAt_17 : decode cX12_partAt 17 = .ok (.invokevirtual 254, 3) := dgX12_partAt_0 (17, (.invokevirtual 254, 3)) (List.mem_of_getElem? (i := 12) rfl)
theorem dX12_partAt_20 : decode cX12_partAt 20 = .ok (.ifCond .eq 9, 3) := dgX12_partAt_0 (20, (.ifCond .eq 9, 3)) (List.mem_of_getElem? (i := 13) rfl)
theorem dX12_partAt_23 : decode cX12_partAt 23 = .ok (.iload_n 2, 1) := dgX12_partAt_0 (23, (.iload_n 2, 1)) (List.mem_of_getElem? (i := 14) rfl)
theorem dX12_partAt_24 : decode cX12_partAt 24 = .ok (.iconst 1, 1) := dgX12_partAt_0 (24, (.iconst 1, 1)) (List.mem_of_getElem? (i := 15) rfl)
theorem dX12_partAt_25 : decode cX12_partAt 25 = .ok (.iadd, 1) := dgX12_partAt_0 (25, (.iadd, 1)) (List.mem_of_getElem? (i := 16) rfl)
theorem dX12_partAt_26 : decode cX12_partAt 26 = .ok (.goto 4, 3) := dgX12_partAt_0 (26, (.goto 4, 3)) (List.mem_of_getElem? (i := 17) rfl)
theorem dX12_partAt_29 : decode cX12_partAt 29 = .ok (.iload_n 1, 1) := dgX12_partAt_0 (29, (.iload_n 1, 1)) (List.mem_of_getElem? (i := 18) rfl)
theorem dX12_partAt_30 : decode cX12_partAt 30 = .ok (.istore_n 1, 1) := dgX12_partAt_0 (30, (.istore_n 1, 1)) (List.mem_of_getElem? (i := 19) rfl)
theorem dX12_partAt_31 : decode cX12_partAt 31 = .ok (.iinc 2 1, 3) := dgX12_partAt_0 (31, (.iinc 2 1, 3)) (List.mem_of_getElem? (i := 20) rfl)
theorem dX12_partAt_34 : decode cX12_partAt 34 = .ok (.goto (-30), 3) := dgX12_partAt_0 (34, (.goto (-30), 3)) (List.mem_of_getElem? (i := 21) rfl)
theorem dX12_partAt_37 : decode cX12_partAt 37 = .ok (.iload_n 1, 1) := dgX12_partAt_0 (37, (.iload_n 1, 1)) (List.mem_of_getElem? (i := 22) rfl)
theorem dX12_partAt_38 : decode cX12_partAt 38 = .ok (.ireturn, 1) := dgX12_partAt_0 (38, (.ireturn, 1)) (List.mem_of_getElem? (i := 23) rfl)
theorem fl_X12_61 : Cond.fieldLink RX12 61 "LateGlassModel" "words" "[J" ∈ tblG := tg 1228 (by decide +kernel) (by decide +kernel)
theorem ml_X12_254 : Cond.methodLink RX12 254 yX12_isWord ∈ tblG := tg 1521 (by decide +kernel) (by decide +kernel)
theorem im_X12_isWord : Cond.instanceMethod yX12_isWord ∈ tblG := tg 1523 (by decide +kernel) (by decide +kernel)
theorem se_X12_isWord : Cond.selects RX12 yX12_isWord yX12_isWord ∈ tblG := tg 46 (by decide +kernel) (by decide +kernel)
theorem cd_X12_isWord : Cond.code yX12_isWord cX12_isWord 3 (some .boolean) ∈ tblG := tg 1524 (by decide +kernel) (by decide +kernel)
theorem gW_X12_isWord : GoodIn tblG (wsG yX12_isWord cX12_isWord 3 (some .boolean)) := tgi cd_X12_isWord
theorem gV_X12_254 : GoodIn tblG (wsV RX12 254 RX12 yX12_isWord (wsG yX12_isWord cX12_isWord 3 (some .boolean))) := tgV ml_X12_254 im_X12_isWord se_X12_isWord ini_X12 gW_X12_isWord
theorem hv_X12_isWord : yX12_isWord.cls = RX12 ∧ yX12_isWord.cls ≠ "java/lang/invoke/MethodHandle" ∧ yX12_isWord.cls ≠ "java/lang/invoke/VarHandle" ∧ (parseMethodDescriptor yX12_isWord.desc).map (fun d => d.parameters.length) = some 1 := by decide +kernel
set_option maxHeartbeats 4000000 in
set_option maxRecDepth 100000 in
theorem n_partAt (l : Launch) (G : g5_G) (b_o b_ws b_rf b_ro b_im b_ke b_tp b_nl b_op b_ar b_pi b_pa b_hw b_se b_re b_pt b_ip b_ah b_be b_me b_tr b_ld b_wn : Nat) (sz : Nat) (u_th : Int32) (u_sa : Int32) (u_fd : Int32) (u_td : Int32) (u_fr : Int32) (u_to : Int32) (u_so : Int32) (u_fa : Int32) (u_bd : Int32) (u_nc : Int32) (u_co : Int32) (u_le : Int32) (u_pd : Int32) (u_od : Int32) (u_la : Int32) (u_bk : Int32) (u_ce : Int32) (u_ho : Int32) (u_wy : Int32) (u_bt : Int32) (u_ps : Int32) (u_tg : Int32) (u_sn : Int32) (u_ic : Int32) (u_wd : Int32) (u_id : Int32) (u_wo : Int64) (u_va : Int64) (u_su : Int64) (u_st : Int64) (v_ws : Nat → Int64) (h_u_td : 0 ≤ u_td.toInt ∧ u_td.toInt ≤ 400) (h_u_fr : 0 ≤ u_fr.toInt ∧ u_fr.toInt ≤ 400) (h_u_to : 0 ≤ u_to.toInt ∧ u_to.toInt ≤ 400) (h_u_bd : 0 ≤ u_bd.toInt ∧ u_bd.toInt ≤ 1) (h_u_nc : 0 ≤ u_nc.toInt ∧ u_nc.toInt ≤ 12) (h_u_co : 0 ≤ u_co.toInt ∧ u_co.toInt ≤ 400) (h_u_pd : 0 ≤ u_pd.toInt ∧ u_pd.toInt ≤ 400) (h_u_la : 0 ≤ u_la.toInt ∧ u_la.toInt ≤ 4840) (h_u_bk : 0 ≤ u_bk.toInt ∧ u_bk.toInt ≤ 1) (h_u_ce : 0 ≤ u_ce.toInt ∧ u_ce.toInt ≤ 63) (h_u_ho : 0 ≤ u_ho.toInt ∧ u_ho.toInt ≤ 23) (h_u_wy : 0 ≤ u_wy.toInt ∧ u_wy.toInt ≤ 3) (h_u_bt : 0 ≤ u_bt.toInt ∧ u_bt.toInt ≤ 1000000) (h_u_ps : 0 ≤ u_ps.toInt ∧ u_ps.toInt ≤ 200) (h_u_ic : 0 ≤ u_ic.toInt ∧ u_ic.toInt ≤ 1) (h_u_id : 0 ≤ u_id.toInt ∧ u_id.toInt ≤ 1) : Met l yX12_partAt (wsG yX12_partAt cX12_partAt 3 (some .int)) ({ frames := 1, cells := 0, slots := 0, locals := 22 }) (va_Pc [.ref b_o] (g5_P G [(b_o, (oc12 u_th u_sa b_rf b_ro b_im b_ke u_fd b_tp u_td u_fr u_to u_so u_wo u_fa u_bd u_nc b_nl u_co b_op b_ar u_le b_pi b_pa u_pd u_od b_ws b_hw u_la b_se b_re u_bk u_va u_su u_ce u_ho u_wy u_bt u_ps b_pt u_tg u_sn b_ip u_ic b_ah b_be b_me u_wd b_tr b_ld u_st b_wn u_id)), (b_ws, (arJ G 8 v_ws))] sz)) (va_Qi (fun (r : Int32) (u : va_W) => (∃ (o_r : Int32), (-1 ≤ o_r.toInt ∧ o_r.toInt ≤ 8) ∧ (o_r.toInt = -1 ∨ u_so.toInt = 1) ∧ (r = o_r) ∧ (u = [(b_o, (oc12 u_th u_sa b_rf b_ro b_im b_ke u_fd b_tp u_td u_fr u_to u_so u_wo u_fa u_bd u_nc b_nl u_co b_op b_ar u_le b_pi b_pa u_pd u_od b_ws b_hw u_la b_se b_re u_bk u_va u_su u_ce u_ho u_wy u_bt u_ps b_pt u_tg u_sn b_ip u_ic b_ah b_be b_me u_wd b_tr b_ld u_st b_wn u_id)), (b_ws, (arJ G 8 v_ws))]))) (g5_B G (va_A [(b_o, (oc12 u_th u_sa b_rf b_ro b_im b_ke u_fd b_tp u_td u_fr u_to u_so u_wo u_fa u_bd u_nc b_nl u_co b_op b_ar u_le b_pi b_pa u_pd u_od b_ws b_hw u_la b_se b_re u_bk u_va u_su u_ce u_ho u_wy u_bt u_ps b_pt u_tg u_sn b_ip u_ic b_ah b_be b_me u_wd b_tr b_ld u_st b_wn u_id)), (b_ws, (arJ G 8 v_ws))] sz)) (va_A [(b_o, (oc12 u_th u_sa b_rf b_ro b_im b_ke u_fd b_tp u_td u_fr u_to u_so u_wo u_fa u_bd u_nc b_nl u_co b_op b_ar u_le b_pi b_pa u_pd u_od b_ws b_hw u_la b_se b_re u_bk u_va u_su u_ce u_ho u_wy u_bt u_ps b_pt u_tg u_sn b_ip u_ic b_ah b_be b_me u_wd b_tr b_ld u_st b_wn u_id)), (b_ws, (arJ G 8 v_ws))] sz)) 0 0 (va_A [(b_o, (oc12 u_th u_sa b_rf b_ro b_im b_ke u_fd b_tp u_td u_fr u_to u_so u_wo u_fa u_bd u_nc b_nl u_co b_op b_ar u_le b_pi b_pa u_pd u_od b_ws b_hw u_la b_se b_re u_bk u_va u_su u_ce u_ho u_wy u_bt u_ps b_pt u_tg u_sn b_ip u_ic b_ah b_be b_me u_wd b_tr b_ld u_st b_wn u_id)), (b_ws, (arJ G 8 v_ws))] sz) := by
  refine Met.ofW (cc := cX12_partAt) (maxL := 3) (ret := (some .int)) (by decide) rfl ?_
  intro p e s m args below meth c s₁ B hml hv
  obtain ⟨rfl, hsz, hP, hK, hD0, hN, hT⟩ := hv
  have hx := B.exec
  have hb := B.bytes
  have hr := B.returns
  have hts : ∀ w ∈ tblG, w.before _ s = true := fun w h => atoms_spec (ws := (wsG yX12_partAt cX12_partAt 3 (some .int))) B.pre w (List.mem_cons_of_mem _ h)
  have hown : s.vm.findClass RX12 = some m.cls := findClass_of_methodNamed B.named
  have hlocks := B.notSynchronized
  subst hsz
  have hD := hD0.self (sz := s.heap.size)
  generalize hAe : va_A [(b_o, (oc12 u_th u_sa b_rf b_ro b_im b_ke u_fd b_tp u_td u_fr u_to u_so u_wo u_fa u_bd u_nc b_nl u_co b_op b_ar u_le b_pi b_pa u_pd u_od b_ws b_hw u_la b_se b_re u_bk u_va u_su u_ce u_ho u_wy u_bt u_ps b_pt u_tg u_sn b_ip u_ic b_ah b_be b_me u_wd b_tr b_ld u_st b_wn u_id)), (b_ws, (arJ G 8 v_ws))] s.heap.size = A at hD hT ⊢
  have hA : ∀ q : Nat, s.heap.size ≤ q → A q := fun q h => by rw [← hAe]; exact Or.inr h
  have hS : va_S A s.heap s.heap [] := va_S.rf
  have hP : va_P G.1 vwCl [(b_o, (oc12 u_th u_sa b_rf b_ro b_im b_ke u_fd b_tp u_td u_fr u_to u_so u_wo u_fa u_bd u_nc b_nl u_co b_op b_ar u_le b_pi b_pa u_pd u_od b_ws b_hw u_la b_se b_re u_bk u_va u_su u_ce u_ho u_wy u_bt u_ps b_pt u_tg u_sn b_ip u_ic b_ah b_be b_me u_wd b_tr b_ld u_st b_wn u_id)), (b_ws, (arJ G 8 v_ws))] s.heap := hP
  have hl := lv_entry ([.ref b_o]) (n := 3) (Nat.le_of_ble_eq_true rfl)
  rw [lg_entry_eq]
  generalize (lg_sl ([.ref b_o]) ++ List.replicate (3 - (lg_sl ([.ref b_o])).length) Slot.unset).toArray = ls at hl ⊢
  have hl : lv_has ls 3 [(0, .ref b_o)] := hl
  refine lv_iconst (v := (-1)) hx hb dX12_partAt_0 (by decide) ?_
  refine lv_istore_n (lv' := [(1, .int (-1)), (0, .ref b_o)]) hx hb dX12_partAt_1 rfl hl (by decide) rfl (fun ls hl => ?_)
  refine lv_iconst (v := 0) hx hb dX12_partAt_2 (by decide) ?_
  refine lv_istore_n (lv' := [(2, .int 0), (1, .int (-1)), (0, .ref b_o)]) hx hb dX12_partAt_3 rfl hl (by decide) rfl (fun ls hl => ?_)
  refine g5_loop (α := (Int32) × (Int32)) (fun (q : (Int32) × (Int32)) (ls : Array Slot) (H : Heap) (locs : List Loc) => match q with | (k4_2, k4_1) => lv_has ls 3 [(1, .int k4_1), (2, .int k4_2), (0, .ref b_o)] ∧ va_P G.1 vwCl [(b_o, (oc12 u_th u_sa b_rf b_ro b_im b_ke u_fd b_tp u_td u_fr u_to u_so u_wo u_fa u_bd u_nc b_nl u_co b_op b_ar u_le b_pi b_pa u_pd u_od b_ws b_hw u_la b_se b_re u_bk u_va u_su u_ce u_ho u_wy u_bt u_ps b_pt u_tg u_sn b_ip u_ic b_ah b_be b_me u_wd b_tr b_ld u_st b_wn u_id)), (b_ws, (arJ G 8 v_ws))] H ∧ va_D A [(b_o, (oc12 u_th u_sa b_rf b_ro b_im b_ke u_fd b_tp u_td u_fr u_to u_so u_wo u_fa u_bd u_nc b_nl u_co b_op b_ar u_le b_pi b_pa u_pd u_od b_ws b_hw u_la b_se b_re u_bk u_va u_su u_ce u_ho u_wy u_bt u_ps b_pt u_tg u_sn b_ip u_ic b_ah b_be b_me u_wd b_tr b_ld u_st b_wn u_id)), (b_ws, (arJ G 8 v_ws))] ∧ va_S A s.heap H locs ∧ (0 ≤ k4_2.toInt ∧ k4_2.toInt ≤ 8) ∧ ((-1) ≤ k4_1.toInt ∧ k4_1.toInt ≤ 8) ∧ (k4_1.toInt = -1 ∨ u_so.toInt = 1)) (fun (q : (Int32) × (Int32)) => match q with | (k4_2, k4_1) => Int.toNat (8 - k4_2.toInt)) (0, (-1)) ⟨lv_sub hl [1, 0, 2] rfl, hP, hD, hS, ⟨by decide, by decide⟩, ⟨by decide, by decide⟩, Or.inl (by decide)⟩ ?_
  rintro ⟨k4_2, k4_1⟩ ls H locs ⟨hl, hP, hD, hS, i_1, i_2, i_3⟩ ih_4_4
  have hl : lv_has ls 3 [(1, .int k4_1), (2, .int k4_2), (0, .ref b_o)] := hl
  have i_1 : 0 ≤ k4_2.toInt ∧ k4_2.toInt ≤ 8 := i_1
  have i_2 : (-1) ≤ k4_1.toInt ∧ k4_1.toInt ≤ 8 := i_2
  have i_3 : k4_1.toInt = -1 ∨ u_so.toInt = 1 := i_3
  refine g5_rs [(b_o, (oc12 u_th u_sa b_rf b_ro b_im b_ke u_fd b_tp u_td u_fr u_to u_so u_wo u_fa u_bd u_nc b_nl u_co b_op b_ar u_le b_pi b_pa u_pd u_od b_ws b_hw u_la b_se b_re u_bk u_va u_su u_ce u_ho u_wy u_bt u_ps b_pt u_tg u_sn b_ip u_ic b_ah b_be b_me u_wd b_tr b_ld u_st b_wn u_id)), (b_ws, (arJ G 8 v_ws))] hP hD (fun hP hD => ?_)
  refine lv_iload_n hx hb dX12_partAt_4 rfl (lv_at hl 1 rfl) ?_
  refine lv_bipush (v := 8) hx hb dX12_partAt_5 (by decide) ?_
  refine lv_icmp_ge (tgt := 37) hx hb dX12_partAt_7 (by decide) (fun c_5 => ?_) (fun c_5 => ?_)
  ·
    have i_5 : k4_2.toInt ≥ 8 := by have z := g5_ge (a := k4_2.toInt) (b := 8) (by rfl) (by decide) c_5; omega
    refine lv_iload_n hx hb dX12_partAt_37 rfl (lv_at hl 0 rfl) ?_
    exact W.iret (v := k4_1) hx hb hr (fun t ht hW => ⟨⟨k4_1, [(b_o, (oc12 u_th u_sa b_rf b_ro b_im b_ke u_fd b_tp u_td u_fr u_to u_so u_wo u_fa u_bd u_nc b_nl u_co b_op b_ar u_le b_pi b_pa u_pd u_od b_ws b_hw u_la b_se b_re u_bk u_va u_su u_ce u_ho u_wy u_bt u_ps b_pt u_tg u_sn b_ip u_ic b_ah b_be b_me u_wd b_tr b_ld u_st b_wn u_id)), (b_ws, (arJ G 8 v_ws))], rfl, ⟨k4_1, ⟨by omega, by omega⟩, i_3, rfl, rfl⟩, by rw [ht]; exact hP.sub [0, 1] rfl, hD.sub [0, 1] (by decide) rfl⟩, hS.F ht⟩) hS.2.2 dX12_partAt_38
  ·
    have i_5 : k4_2.toInt < 8 := by have z := g5_geN (a := k4_2.toInt) (b := 8) (by rfl) (by decide) c_5; omega
    refine lv_aload_n hx hb dX12_partAt_10 rfl (lv_at hl 2 rfl) ?_
    refine lv_aload_n hx hb dX12_partAt_11 rfl (lv_at hl 2 rfl) ?_
    refine va_get (D := G.1) (ci := 12) (v := .ref b_ws) (C := RX12) (T := TX12) (N := 52) hx hb hts inG_X12 hown hK hP 0 rfl rfl 25 (by decide) (hts _ fl_X12_61) (fun _ h9 => h9) rfl dX12_partAt_12 ?_
    refine lv_iload_n hx hb dX12_partAt_15 rfl (lv_at hl 1 rfl) ?_
    refine va_lald hx hb hK hP 1 1 rfl rfl (i := k4_2) (vp_in_iff.mpr ⟨by omega, by omega⟩) dX12_partAt_16 ?_
    obtain ⟨hPc, hDc, hFc⟩ := g5_sub3 (wc := [(b_o, (oc12 u_th u_sa b_rf b_ro b_im b_ke u_fd b_tp u_td u_fr u_to u_so u_wo u_fa u_bd u_nc b_nl u_co b_op b_ar u_le b_pi b_pa u_pd u_od b_ws b_hw u_la b_se b_re u_bk u_va u_su u_ce u_ho u_wy u_bt u_ps b_pt u_tg u_sn b_ip u_ic b_ah b_be b_me u_wd b_tr b_ld u_st b_wn u_id))]) hP hD hS hA [0] (by decide) rfl
    refine va_calli (va_runV (As := [.long (v_ws k4_2.toNatClampNeg)]) (rest := []) ⟨hx, hb, hml, hown, hts⟩ (n_isWord l G b_o b_rf b_ro b_im b_ke b_tp b_nl b_op b_ar b_pi b_pa b_ws b_hw b_se b_re b_pt b_ip b_ah b_be b_me b_tr b_ld b_wn H.size u_th u_sa u_fd u_td u_fr u_to u_so u_fa u_bd u_nc u_co u_le u_pd u_od u_la u_bk u_ce u_ho u_wy u_bt u_ps u_tg u_sn u_ic u_wd u_id u_wo u_va u_su u_st (v_ws k4_2.toNatClampNeg) h_u_td h_u_fr h_u_to h_u_bd h_u_nc h_u_co h_u_pd h_u_la h_u_bk h_u_ce h_u_ho h_u_wy h_u_bt h_u_ps h_u_ic h_u_id) (cwV 1 hts gV_X12_254 rfl rfl rfl hv_X12_isWord ⟨Nat.le_of_ble_eq_true rfl, Nat.le_of_ble_eq_true rfl⟩) (g5_preV hPc hK hDc hN hT hS hFc (ci := 12) (q0 := 0) rfl rfl) rfl rfl hl.1 rfl (lv_room (Nat.le_of_ble_eq_true rfl)) dX12_partAt_17 ⟨Nat.le_of_ble_eq_true rfl, Nat.le_of_ble_eq_true rfl⟩) hS (fun q _ h => hFc q h) hFc (fun r u t H1 locs ht hvm hw hB hz1 hk1 hS => ?_)
    obtain ⟨hP1, hD1⟩ := hB
    rw [ht] at hP1
    rcases hw with ⟨i_6, rfl, rfl⟩ | ⟨rfl, rfl⟩
    ·
      have i_6 : u_so.toInt = 1 := i_6
      obtain ⟨hP, hD⟩ := va_join (wr := [(b_ws, (arJ G 8 v_ws))]) hP hD [0] [1] rfl rfl (by decide) (by decide) hk1 hFc hP1 hD1
      generalize H1 = H at hP hS ⊢
      refine g5_rs [(b_ws, (arJ G 8 v_ws)), (b_o, (oc12 u_th u_sa b_rf b_ro b_im b_ke u_fd b_tp u_td u_fr u_to u_so u_wo u_fa u_bd u_nc b_nl u_co b_op b_ar u_le b_pi b_pa u_pd u_od b_ws b_hw u_la b_se b_re u_bk u_va u_su u_ce u_ho u_wy u_bt u_ps b_pt u_tg u_sn b_ip u_ic b_ah b_be b_me u_wd b_tr b_ld u_st b_wn u_id))] hP hD (fun hP hD => ?_)
      refine lv_if_eq (tgt := 29) hx hb dX12_partAt_20 (by decide) (fun c_7 => ?_) (fun c_7 => ?_)
      ·
        exact absurd c_7 (by decide)
      ·
        refine lv_iload_n hx hb dX12_partAt_23 rfl (lv_at hl 1 rfl) ?_
        refine lv_iconst (v := 1) hx hb dX12_partAt_24 (by decide) ?_
        refine lv_iadd hx hb dX12_partAt_25 ?_
        have t_8 : (k4_2 + 1).toInt = k4_2.toInt + 1 := g5_iadd (a := k4_2.toInt) (b := 1) (by rfl) (by decide) (by omega) (by omega)
        refine lv_goto (tgt := 30) hx hb dX12_partAt_26 (by decide) ?_
        refine lv_istore_n (lv' := [(1, .int (k4_2 + 1)), (2, .int k4_2), (0, .ref b_o)]) hx hb dX12_partAt_30 rfl hl (by decide) rfl (fun ls hl => ?_)
        refine lv_iinc (v := (k4_2 + 1)) (lv' := [(2, .int (k4_2 + 1)), (1, .int (k4_2 + 1)), (0, .ref b_o)]) hx hb dX12_partAt_31 hl (k := 1) rfl rfl (by decide) rfl (fun ls hl => ?_)
        have t_9 : (k4_2 + 1).toInt = k4_2.toInt + 1 := g5_iadd (a := k4_2.toInt) (b := 1) rfl (by decide) (by omega) (by omega)
        refine lv_goto (tgt := 4) hx hb dX12_partAt_34 (by decide) ?_
        exact ih_4_4 ((k4_2 + 1), (k4_2 + 1)) ls H locs (show Int.toNat (8 - (k4_2 + 1).toInt) < Int.toNat (8 - k4_2.toInt) from g_up (show k4_2.toInt < (k4_2 + 1).toInt by omega) (show k4_2.toInt < 8 by omega)) ⟨lv_sub hl [1, 0, 2] rfl, hP.sub [1, 0] rfl, hD.sub [1, 0] (by decide) rfl, hS, ⟨by omega, by omega⟩, ⟨by omega, by omega⟩, Or.inr (by omega)⟩
    ·
      obtain ⟨hP, hD⟩ := va_join (wr := [(b_ws, (arJ G 8 v_ws))]) hP hD [0] [1] rfl rfl (by decide) (by decide) hk1 hFc hP1 hD1
      generalize H1 = H at hP hS ⊢
      refine g5_rs [(b_ws, (arJ G 8 v_ws)), (b_o, (oc12 u_th u_sa b_rf b_ro b_im b_ke u_fd b_tp u_td u_fr u_to u_so u_wo u_fa u_bd u_nc b_nl u_co b_op b_ar u_le b_pi b_pa u_pd u_od b_ws b_hw u_la b_se b_re u_bk u_va u_su u_ce u_ho u_wy u_bt u_ps b_pt u_tg u_sn b_ip u_ic b_ah b_be b_me u_wd b_tr b_ld u_st b_wn u_id))] hP hD (fun hP hD => ?_)
      refine lv_if_eq (tgt := 29) hx hb dX12_partAt_20 (by decide) (fun c_10 => ?_) (fun c_10 => ?_)
      ·
        refine lv_iload_n hx hb dX12_partAt_29 rfl (lv_at hl 0 rfl) ?_
        refine lv_istore_n (lv' := [(1, .int k4_1), (2, .int k4_2), (0, .ref b_o)]) hx hb dX12_partAt_30 rfl hl (by decide) rfl (fun ls hl => ?_)
        refine lv_iinc (v := (k4_2 + 1)) (lv' := [(2, .int (k4_2 + 1)), (1, .int k4_1), (0, .ref b_o)]) hx hb dX12_partAt_31 hl (k := 1) rfl rfl (by decide) rfl (fun ls hl => ?_)
        have t_11 : (k4_2 + 1).toInt = k4_2.toInt + 1 := g5_iadd (a := k4_2.toInt) (b := 1) rfl (by decide) (by omega) (by omega)
        refine lv_goto (tgt := 4) hx hb dX12_partAt_34 (by decide) ?_
        exact ih_4_4 ((k4_2 + 1), k4_1) ls H locs (show Int.toNat (8 - (k4_2 + 1).toInt) < Int.toNat (8 - k4_2.toInt) from g_up (show k4_2.toInt < (k4_2 + 1).toInt by omega) (show k4_2.toInt < 8 by omega)) ⟨lv_sub hl [1, 0, 2] rfl, hP.sub [1, 0] rfl, hD.sub [1, 0] (by decide) rfl, hS, ⟨by omega, by omega⟩, i_2, i_3⟩
      ·
        exact absurd c_10 (by decide)
theorem dgX12_openBracket_0 : ∀ r ∈ ([(0, (.aload_n 0, 1)), (1, (.aload_n 0, 1)), (2, (.getfield 258, 3)), (5, (.bipush 8, 2)), (7, (.if_icmp .ge 7, 3)), (10, (.iconst 1, 1)), (11, (.goto 4, 3)), (14, (.iconst 0, 1)), (15, (.invokevirtual 233, 3)), (18, (.aload_n 0, 1)), (19, (.getfield 205, 3)), (22, (.ifCond .ne 19, 3)), (25, (.aload_n 0, 1)), (26, (.dup, 1)), (27, (.getfield 258, 3)), (30, (.iconst 1, 1)), (31, (.iadd, 1)), (32, (.putfield 258, 3)), (35, (.aload_n 0, 1)), (36, (.iload_n 1, 1)), (37, (.iconst 0, 1)), (38, (.invokevirtual 261, 3)), (41, (.return_, 1))] : List (Nat × (Instr × Nat))), decode cX12_openBracket r.1 = .ok r.2 := by decide +kernel
theorem dX12_openBracket_0 : decode cX12_openBracket 0 = .ok (.aload_n 0, 1) := dgX12_openBracket_0 (0, (.aload_n 0, 1)) (List.mem_of_getElem? (i := 0) rfl)
theorem dX12_openBracket_1 : decode cX12_openBracket 1 = .ok (.aload_n 0, 1) := dgX12_openBracket_0 (1, (.aload_n 0, 1)) (List.mem_of_getElem? (i := 1) rfl)
theorem dX12_openBracket_2 : decode cX12_openBracket 2 = .ok (.getfield 258, 3) := dgX12_openBracket_0 (2, (.getfield 258, 3)) (List.mem_of_getElem? (i := 2) rfl)
theorem dX12_openBracket_5 : decode cX12_openBracket 5 = .ok (.bipush 8, 2) := dgX12_openBracket_0 (5, (.bipush 8, 2)) (List.mem_of_getElem? (i := 3) rfl)
theorem dX12_openBracket_7 : decode cX12_openBracket 7 = .ok (.if_icmp .ge 7, 3) := dgX12_openBracket_0 (7, (.if_icmp .ge 7, 3)) (List.mem_of_getElem? (i := 4) rfl)
theorem dX12_openBracket_10 : decode cX12_openBracket 10 = .ok (.iconst 1, 1) := dgX12_openBracket_0 (10, (.iconst 1, 1)) (List.mem_of_getElem? (i := 5) rfl)
theorem dX12_openBracket_11 : decode cX12_openBracket 11 = .ok (.goto 4, 3) := dgX12_openBracket_0 (11, (.goto 4, 3)) (List.mem_of_getElem? (i := 6) rfl)
theorem dX12_openBracket_14 : decode cX12_openBracket 14 = .ok (.iconst 0, 1) := dgX12_openBracket_0 (14, (.iconst 0, 1)) (List.mem_of_getElem? (i := 7) rfl)
theorem dX12_openBracket_15 : decode cX12_openBracket 15 = .ok (.invokevirtual 233, 3) := dgX12_openBracket_0 (15, (.invokevirtual 233, 3)) (List.mem_of_getElem? (i := 8) rfl)
theorem dX12_openBracket_18 : decode cX12_openBracket 18 = .ok (.aload_n 0, 1) := dgX12_openBracket_0 (18, (.aload_n 0, 1)) (List.mem_of_getElem? (i := 9) rfl)
theorem dX12_openBracket_19 : decode cX12_openBracket 19 = .ok (.getfield 205, 3) := dgX12_openBracket_0 (19, (.getfield 205, 3)) (List.mem_of_getElem? (i := 10) rfl)
theorem dX12_openBracket_22 : decode cX12_openBracket 22 = .ok (.ifCond .ne 19, 3) := dgX12_openBracket_0 (22, (.ifCond .ne 19, 3)) (List.mem_of_getElem? (i := 11) rfl)
theorem dX12_openBracket_25 : decode cX12_openBracket 25 = .ok (.aload_n 0, 1) := dgX12_openBracket_0 (25, (.aload_n 0, 1)) (List.mem_of_getElem? (i := 12) rfl)
theorem dX12_openBracket_26 : decode cX12_openBracket 26 = .ok (.dup, 1) := dgX12_openBracket_0 (26, (.dup, 1)) (List.mem_of_getElem? (i := 13) rfl)
theorem dX12_openBracket_27 : decode cX12_openBracket 27 = .ok (.getfield 258, 3) := dgX12_openBracket_0 (27, (.getfield 258, 3)) (List.mem_of_getElem? (i := 14) rfl)
theorem dX12_openBracket_30 : decode cX12_openBracket 30 = .ok (.iconst 1, 1) := dgX12_openBracket_0 (30, (.iconst 1, 1)) (List.mem_of_getElem? (i := 15) rfl)
theorem dX12_openBracket_31 : decode cX12_openBracket 31 = .ok (.iadd, 1) := dgX12_openBracket_0 (31, (.iadd, 1)) (List.mem_of_getElem? (i := 16) rfl)
theorem dX12_openBracket_32 : decode cX12_openBracket 32 = .ok (.putfield 258, 3) := dgX12_openBracket_0 (32, (.putfield 258, 3)) (List.mem_of_getElem? (i := 17) rfl)
theorem dX12_openBracket_35 : decode cX12_openBracket 35 = .ok (.aload_n 0, 1) := dgX12_openBracket_0 (35, (.aload_n 0, 1)) (List.mem_of_getElem? (i := 18) rfl)
theorem dX12_openBracket_36 : decode cX12_openBracket 36 = .ok (.iload_n 1, 1) := dgX12_openBracket_0 (36, (.iload_n 1, 1)) (List.mem_of_getElem? (i := 19) rfl)
theorem dX12_openBracket_37 : decode cX12_openBracket 37 = .ok (.iconst 0, 1) := dgX12_openBracket_0 (37, (.iconst 0, 1)) (List.mem_of_getElem? (i := 20) rfl)
theorem dX12_openBracket_38 : decode cX12_openBracket 38 = .ok (.invokevirtual 261, 3) := dgX12_openBracket_0 (38, (.invokevirtual 261, 3)) (List.mem_of_getElem? (i := 21) rfl)
theorem dX12_openBracket_41 : decode cX12_openBracket 41 = .ok (.return_, 1) := dgX12_openBracket_0 (41, (.return_, 1)) (List.mem_of_getElem? (i := 22) rfl)
theorem fl_X12_258 : Cond.fieldLink RX12 258 "LateGlassModel" "opened" "I" ∈ tblG := tg 1227 (by decide +kernel) (by decide +kernel)
theorem ml_X12_233 : Cond.methodLink RX12 233 yX12_must ∈ tblG := tg 1525 (by decide +kernel) (by decide +kernel)
theorem im_X12_must : Cond.instanceMethod yX12_must ∈ tblG := tg 1527 (by decide +kernel) (by decide +kernel)
theorem se_X12_must : Cond.selects RX12 yX12_must yX12_must ∈ tblG := tg 47 (by decide +kernel) (by decide +kernel)
theorem cd_X12_must : Cond.code yX12_must cX12_must 2 none ∈ tblG := tg 1528 (by decide +kernel) (by decide +kernel)
theorem gW_X12_must : GoodIn tblG (wsG yX12_must cX12_must 2 none) := tgi cd_X12_must
theorem gV_X12_233 : GoodIn tblG (wsV RX12 233 RX12 yX12_must (wsG yX12_must cX12_must 2 none)) := tgV ml_X12_233 im_X12_must se_X12_must ini_X12 gW_X12_must
theorem hv_X12_must : yX12_must.cls = RX12 ∧ yX12_must.cls ≠ "java/lang/invoke/MethodHandle" ∧ yX12_must.cls ≠ "java/lang/invoke/VarHandle" ∧ (parseMethodDescriptor yX12_must.desc).map (fun d => d.parameters.length) = some 1 := by decide +kernel
theorem ml_X12_261 : Cond.methodLink RX12 261 yX12_push ∈ tblG := tg 1538 (by decide +kernel) (by decide +kernel)
theorem im_X12_push : Cond.instanceMethod yX12_push ∈ tblG := tg 1540 (by decide +kernel) (by decide +kernel)
theorem se_X12_push : Cond.selects RX12 yX12_push yX12_push ∈ tblG := tg 50 (by decide +kernel) (by decide +kernel)
theorem cd_X12_push : Cond.code yX12_push cX12_push 3 none ∈ tblG := tg 1541 (by decide +kernel) (by decide +kernel)
theorem gW_X12_push : GoodIn tblG (wsG yX12_push cX12_push 3 none) := tgi cd_X12_push
theorem gV_X12_261 : GoodIn tblG (wsV RX12 261 RX12 yX12_push (wsG yX12_push cX12_push 3 none)) := tgV ml_X12_261 im_X12_push se_X12_push ini_X12 gW_X12_push
theorem hv_X12_push : yX12_push.cls = RX12 ∧ yX12_push.cls ≠ "java/lang/invoke/MethodHandle" ∧ yX12_push.cls ≠ "java/lang/invoke/VarHandle" ∧ (parseMethodDescriptor yX12_push.desc).map (fun d => d.parameters.length) = some 2 := by decide +kernel
set_option maxHeartbeats 4000000 in
set_option maxRecDepth 100000 in
theorem n_openBracket (l : Launch) (G : g5_G) (b_o b_tp b_pi b_pa b_rf b_ro b_im b_ke b_nl b_op b_ar b_ws b_hw b_se b_re b_pt b_ip b_ah b_be b_me b_tr b_ld b_wn : Nat) (sz : Nat) (u_th : Int32) (u_sa : Int32) (u_fd : Int32) (u_td : Int32) (u_fr : Int32) (u_to : Int32) (u_so : Int32) (u_fa : Int32) (u_bd : Int32) (u_nc : Int32) (u_co : Int32) (u_le : Int32) (u_pd : Int32) (u_od : Int32) (u_la : Int32) (u_bk : Int32) (u_ce : Int32) (u_ho : Int32) (u_wy : Int32) (u_bt : Int32) (u_ps : Int32) (u_tg : Int32) (u_sn : Int32) (u_ic : Int32) (u_wd : Int32) (u_id : Int32) (p_1 : Int32) (u_wo : Int64) (u_va : Int64) (u_su : Int64) (u_st : Int64) (v_tp : Nat → Int32) (v_pi : Nat → Int32) (v_pa : Nat → Int32) (h_u_td : 0 ≤ u_td.toInt ∧ u_td.toInt ≤ 400) (h_u_fr : 0 ≤ u_fr.toInt ∧ u_fr.toInt ≤ 400) (h_u_to : 0 ≤ u_to.toInt ∧ u_to.toInt ≤ 400) (h_u_bd : 0 ≤ u_bd.toInt ∧ u_bd.toInt ≤ 0) (h_u_nc : 0 ≤ u_nc.toInt ∧ u_nc.toInt ≤ 12) (h_u_co : 0 ≤ u_co.toInt ∧ u_co.toInt ≤ 400) (h_u_pd : 0 ≤ u_pd.toInt ∧ u_pd.toInt ≤ 400) (h_u_la : 0 ≤ u_la.toInt ∧ u_la.toInt ≤ 4840) (h_u_bk : 0 ≤ u_bk.toInt ∧ u_bk.toInt ≤ 1) (h_u_ce : 0 ≤ u_ce.toInt ∧ u_ce.toInt ≤ 63) (h_u_ho : 0 ≤ u_ho.toInt ∧ u_ho.toInt ≤ 23) (h_u_wy : 0 ≤ u_wy.toInt ∧ u_wy.toInt ≤ 3) (h_u_bt : 0 ≤ u_bt.toInt ∧ u_bt.toInt ≤ 1000000) (h_u_ps : 0 ≤ u_ps.toInt ∧ u_ps.toInt ≤ 200) (h_u_ic : 0 ≤ u_ic.toInt ∧ u_ic.toInt ≤ 1) (h_u_id : 0 ≤ u_id.toInt ∧ u_id.toInt ≤ 1) (h_p_1 : 30 ≤ p_1.toInt ∧ p_1.toInt ≤ 31) (e_t : u_fr.toInt < u_to.toInt ∧ u_to.toInt ≤ u_td.toInt) (e_p : u_pd.toInt ≤ u_fr.toInt) : Met l yX12_openBracket (wsG yX12_openBracket cX12_openBracket 2 none) ({ frames := 3, cells := 0, slots := 0, locals := 61 }) (va_Pc [.ref b_o, .int p_1] (g5_P G [(b_o, (oc12 u_th u_sa b_rf b_ro b_im b_ke u_fd b_tp u_td u_fr u_to u_so u_wo u_fa u_bd u_nc b_nl u_co b_op b_ar u_le b_pi b_pa u_pd u_od b_ws b_hw u_la b_se b_re u_bk u_va u_su u_ce u_ho u_wy u_bt u_ps b_pt u_tg u_sn b_ip u_ic b_ah b_be b_me u_wd b_tr b_ld u_st b_wn u_id)), (b_tp, (arI G 400 v_tp)), (b_pi, (arI G 400 v_pi)), (b_pa, (arI G 400 v_pa))] sz)) (va_Qv (fun (u : va_W) => ((u = [(b_o, (oc12 u_th u_sa b_rf b_ro b_im b_ke u_fd b_tp u_td u_fr u_to u_so u_wo u_fr 1 u_nc b_nl u_co b_op b_ar u_le b_pi b_pa u_pd u_od b_ws b_hw u_la b_se b_re u_bk u_va u_su u_ce u_ho u_wy u_bt u_ps b_pt u_tg u_sn b_ip u_ic b_ah b_be b_me u_wd b_tr b_ld u_st b_wn u_id)), (b_tp, (arI G 400 v_tp)), (b_pi, (arI G 400 v_pi)), (b_pa, (arI G 400 v_pa))])) ∨ (∃ (o_fr : Int32) (o_to : Int32) (o_so : Int32) (o_wo : Int64) (o_pd : Int32) (o_od : Int32), (0 ≤ o_fr.toInt ∧ o_fr.toInt ≤ 400) ∧ (0 ≤ o_to.toInt ∧ o_to.toInt ≤ 400) ∧ (0 ≤ o_pd.toInt ∧ o_pd.toInt ≤ 400) ∧ (u_to.toInt ≤ o_fr.toInt ∧ o_fr.toInt ≤ o_to.toInt ∧ o_to.toInt ≤ u_td.toInt) ∧ (TKs o_so.toInt o_fr.toInt o_to.toInt) ∧ (o_pd.toInt = u_pd.toInt + 1) ∧ (u = [(b_o, (oc12 u_th u_sa b_rf b_ro b_im b_ke u_fd b_tp u_td o_fr o_to o_so o_wo u_fa u_bd u_nc b_nl u_co b_op b_ar u_le b_pi b_pa o_pd o_od b_ws b_hw u_la b_se b_re u_bk u_va u_su u_ce u_ho u_wy u_bt u_ps b_pt u_tg u_sn b_ip u_ic b_ah b_be b_me u_wd b_tr b_ld u_st b_wn u_id)), (b_tp, (arI G 400 v_tp)), (b_pi, (arI G 400 (upd v_pi u_pd.toNatClampNeg p_1))), (b_pa, (arI G 400 (upd v_pa u_pd.toNatClampNeg 0)))]))) (g5_B G (va_A [(b_o, (oc12 u_th u_sa b_rf b_ro b_im b_ke u_fd b_tp u_td u_fr u_to u_so u_wo u_fa u_bd u_nc b_nl u_co b_op b_ar u_le b_pi b_pa u_pd u_od b_ws b_hw u_la b_se b_re u_bk u_va u_su u_ce u_ho u_wy u_bt u_ps b_pt u_tg u_sn b_ip u_ic b_ah b_be b_me u_wd b_tr b_ld u_st b_wn u_id)), (b_tp, (arI G 400 v_tp)), (b_pi, (arI G 400 v_pi)), (b_pa, (arI G 400 v_pa))] sz)) (va_A [(b_o, (oc12 u_th u_sa b_rf b_ro b_im b_ke u_fd b_tp u_td u_fr u_to u_so u_wo u_fa u_bd u_nc b_nl u_co b_op b_ar u_le b_pi b_pa u_pd u_od b_ws b_hw u_la b_se b_re u_bk u_va u_su u_ce u_ho u_wy u_bt u_ps b_pt u_tg u_sn b_ip u_ic b_ah b_be b_me u_wd b_tr b_ld u_st b_wn u_id)), (b_tp, (arI G 400 v_tp)), (b_pi, (arI G 400 v_pi)), (b_pa, (arI G 400 v_pa))] sz)) 0 0 (va_A [(b_o, (oc12 u_th u_sa b_rf b_ro b_im b_ke u_fd b_tp u_td u_fr u_to u_so u_wo u_fa u_bd u_nc b_nl u_co b_op b_ar u_le b_pi b_pa u_pd u_od b_ws b_hw u_la b_se b_re u_bk u_va u_su u_ce u_ho u_wy u_bt u_ps b_pt u_tg u_sn b_ip u_ic b_ah b_be b_me u_wd b_tr b_ld u_st b_wn u_id)), (b_tp, (arI G 400 v_tp)), (b_pi, (arI G 400 v_pi)), (b_pa, (arI G 400 v_pa))] sz) := by
  refine Met.ofW (cc := cX12_openBracket) (maxL := 2) (ret := none) (by decide) rfl ?_
  intro p e s m args below meth c s₁ B hml hv
  obtain ⟨rfl, hsz, hP, hK, hD0, hN, hT⟩ := hv
  have hx := B.exec
  have hb := B.bytes
  have hr := B.returns
  have hts : ∀ w ∈ tblG, w.before _ s = true := fun w h => atoms_spec (ws := (wsG yX12_openBracket cX12_openBracket 2 none)) B.pre w (List.mem_cons_of_mem _ h)
  have hown : s.vm.findClass RX12 = some m.cls := findClass_of_methodNamed B.named
  have hlocks := B.notSynchronized
  subst hsz
  have hD := hD0.self (sz := s.heap.size)
  generalize hAe : va_A [(b_o, (oc12 u_th u_sa b_rf b_ro b_im b_ke u_fd b_tp u_td u_fr u_to u_so u_wo u_fa u_bd u_nc b_nl u_co b_op b_ar u_le b_pi b_pa u_pd u_od b_ws b_hw u_la b_se b_re u_bk u_va u_su u_ce u_ho u_wy u_bt u_ps b_pt u_tg u_sn b_ip u_ic b_ah b_be b_me u_wd b_tr b_ld u_st b_wn u_id)), (b_tp, (arI G 400 v_tp)), (b_pi, (arI G 400 v_pi)), (b_pa, (arI G 400 v_pa))] s.heap.size = A at hD hT ⊢
  have hA : ∀ q : Nat, s.heap.size ≤ q → A q := fun q h => by rw [← hAe]; exact Or.inr h
  have hS : va_S A s.heap s.heap [] := va_S.rf
  have hP : va_P G.1 vwCl [(b_o, (oc12 u_th u_sa b_rf b_ro b_im b_ke u_fd b_tp u_td u_fr u_to u_so u_wo u_fa u_bd u_nc b_nl u_co b_op b_ar u_le b_pi b_pa u_pd u_od b_ws b_hw u_la b_se b_re u_bk u_va u_su u_ce u_ho u_wy u_bt u_ps b_pt u_tg u_sn b_ip u_ic b_ah b_be b_me u_wd b_tr b_ld u_st b_wn u_id)), (b_tp, (arI G 400 v_tp)), (b_pi, (arI G 400 v_pi)), (b_pa, (arI G 400 v_pa))] s.heap := hP
  have hl := lv_entry ([.ref b_o, .int p_1]) (n := 2) (Nat.le_of_ble_eq_true rfl)
  rw [lg_entry_eq]
  generalize (lg_sl ([.ref b_o, .int p_1]) ++ List.replicate (2 - (lg_sl ([.ref b_o, .int p_1])).length) Slot.unset).toArray = ls at hl ⊢
  have hl : lv_has ls 2 [(0, .ref b_o), (1, .int p_1)] := hl
  refine lv_aload_n hx hb dX12_openBracket_0 rfl (lv_at hl 0 rfl) ?_
  refine lv_aload_n hx hb dX12_openBracket_1 rfl (lv_at hl 0 rfl) ?_
  refine va_get (D := G.1) (ci := 12) (v := .int u_od) (C := RX12) (T := TX12) (N := 52) hx hb hts inG_X12 hown hK hP 0 rfl rfl 24 (by decide) (hts _ fl_X12_258) (fun _ h9 => h9) rfl dX12_openBracket_2 ?_
  refine lv_bipush (v := 8) hx hb dX12_openBracket_5 (by decide) ?_
  refine lv_icmp_ge (tgt := 14) hx hb dX12_openBracket_7 (by decide) (fun c_1 => ?_) (fun c_1 => ?_)
  ·
    have i_1 : u_od.toInt ≥ 8 := by have z := g5_ge (a := u_od.toInt) (b := 8) (by rfl) (by decide) c_1; omega
    refine lv_iconst (v := 0) hx hb dX12_openBracket_14 (by decide) ?_
    obtain ⟨hPc, hDc, hFc⟩ := g5_sub3 (wc := [(b_o, (oc12 u_th u_sa b_rf b_ro b_im b_ke u_fd b_tp u_td u_fr u_to u_so u_wo u_fa u_bd u_nc b_nl u_co b_op b_ar u_le b_pi b_pa u_pd u_od b_ws b_hw u_la b_se b_re u_bk u_va u_su u_ce u_ho u_wy u_bt u_ps b_pt u_tg u_sn b_ip u_ic b_ah b_be b_me u_wd b_tr b_ld u_st b_wn u_id)), (b_tp, (arI G 400 v_tp))]) hP hD hS hA [0, 1] (by decide) rfl
    refine va_callv (va_runV (As := [.int 0]) (rest := []) ⟨hx, hb, hml, hown, hts⟩ (n_must0 l G b_o b_tp b_rf b_ro b_im b_ke b_nl b_op b_ar b_pi b_pa b_ws b_hw b_se b_re b_pt b_ip b_ah b_be b_me b_tr b_ld b_wn s.heap.size u_th u_sa u_fd u_td u_fr u_to u_so u_fa u_bd u_nc u_co u_le u_pd u_od u_la u_bk u_ce u_ho u_wy u_bt u_ps u_tg u_sn u_ic u_wd u_id u_wo u_va u_su u_st v_tp h_u_td h_u_fr h_u_to h_u_bd h_u_nc h_u_co h_u_pd h_u_la h_u_bk h_u_ce h_u_ho h_u_wy h_u_bt h_u_ps h_u_ic h_u_id) (cwV 1 hts gV_X12_233 rfl rfl rfl hv_X12_must ⟨Nat.le_of_ble_eq_true rfl, Nat.le_of_ble_eq_true rfl⟩) (g5_preV hPc hK hDc hN hT hS hFc (ci := 12) (q0 := 0) rfl rfl) rfl rfl hl.1 rfl (lv_room (Nat.le_of_ble_eq_true rfl)) dX12_openBracket_15 ⟨Nat.le_of_ble_eq_true rfl, Nat.le_of_ble_eq_true rfl⟩) hS (fun q _ h => hFc q h) hFc (fun u t H1 locs ht hvm hw hB hz1 hk1 hS => ?_)
    obtain ⟨hP1, hD1⟩ := hB
    rw [ht] at hP1
    obtain rfl := hw
    obtain ⟨hP, hD⟩ := va_join (wr := [(b_pi, (arI G 400 v_pi)), (b_pa, (arI G 400 v_pa))]) hP hD [0, 1] [2, 3] rfl rfl (by decide) (by decide) hk1 hFc hP1 hD1
    generalize H1 = H at hP hS ⊢
    refine g5_rs [(b_pi, (arI G 400 v_pi)), (b_pa, (arI G 400 v_pa)), (b_o, (oc12 u_th u_sa b_rf b_ro b_im b_ke u_fd b_tp u_td u_fr u_to u_so u_wo u_fr 1 u_nc b_nl u_co b_op b_ar u_le b_pi b_pa u_pd u_od b_ws b_hw u_la b_se b_re u_bk u_va u_su u_ce u_ho u_wy u_bt u_ps b_pt u_tg u_sn b_ip u_ic b_ah b_be b_me u_wd b_tr b_ld u_st b_wn u_id)), (b_tp, (arI G 400 v_tp))] hP hD (fun hP hD => ?_)
    refine lv_aload_n hx hb dX12_openBracket_18 rfl (lv_at hl 0 rfl) ?_
    refine va_get (D := G.1) (ci := 12) (v := .int 1) (C := RX12) (T := TX12) (N := 52) hx hb hts inG_X12 hown hK hP 2 rfl rfl 14 (by decide) (hts _ fl_X12_205) (fun _ h9 => h9) rfl dX12_openBracket_19 ?_
    refine lv_if_ne (tgt := 41) hx hb dX12_openBracket_22 (by decide) (fun c_2 => ?_) (fun c_2 => ?_)
    ·
      exact W.vret hx hb hr (fun t ht hW => ⟨⟨[(b_o, (oc12 u_th u_sa b_rf b_ro b_im b_ke u_fd b_tp u_td u_fr u_to u_so u_wo u_fr 1 u_nc b_nl u_co b_op b_ar u_le b_pi b_pa u_pd u_od b_ws b_hw u_la b_se b_re u_bk u_va u_su u_ce u_ho u_wy u_bt u_ps b_pt u_tg u_sn b_ip u_ic b_ah b_be b_me u_wd b_tr b_ld u_st b_wn u_id)), (b_tp, (arI G 400 v_tp)), (b_pi, (arI G 400 v_pi)), (b_pa, (arI G 400 v_pa))], rfl, Or.inl (rfl), by rw [ht]; exact hP.sub [2, 3, 0, 1] rfl, hD.sub [2, 3, 0, 1] (by decide) rfl⟩, hS.F ht⟩) hS.2.2 dX12_openBracket_41
    ·
      exact absurd c_2 (by decide)
  ·
    have i_1 : u_od.toInt < 8 := by have z := g5_geN (a := u_od.toInt) (b := 8) (by rfl) (by decide) c_1; omega
    refine lv_iconst (v := 1) hx hb dX12_openBracket_10 (by decide) ?_
    refine lv_goto (tgt := 15) hx hb dX12_openBracket_11 (by decide) ?_
    obtain ⟨hPc, hDc, hFc⟩ := g5_sub3 (wc := [(b_o, (oc12 u_th u_sa b_rf b_ro b_im b_ke u_fd b_tp u_td u_fr u_to u_so u_wo u_fa u_bd u_nc b_nl u_co b_op b_ar u_le b_pi b_pa u_pd u_od b_ws b_hw u_la b_se b_re u_bk u_va u_su u_ce u_ho u_wy u_bt u_ps b_pt u_tg u_sn b_ip u_ic b_ah b_be b_me u_wd b_tr b_ld u_st b_wn u_id)), (b_tp, (arI G 400 v_tp))]) hP hD hS hA [0, 1] (by decide) rfl
    refine va_callv (va_runV (As := [.int 1]) (rest := []) ⟨hx, hb, hml, hown, hts⟩ (n_must1 l G b_o b_tp b_rf b_ro b_im b_ke b_nl b_op b_ar b_pi b_pa b_ws b_hw b_se b_re b_pt b_ip b_ah b_be b_me b_tr b_ld b_wn s.heap.size u_th u_sa u_fd u_td u_fr u_to u_so u_fa u_bd u_nc u_co u_le u_pd u_od u_la u_bk u_ce u_ho u_wy u_bt u_ps u_tg u_sn u_ic u_wd u_id u_wo u_va u_su u_st v_tp h_u_td h_u_fr h_u_to h_u_bd h_u_nc h_u_co h_u_pd h_u_la h_u_bk h_u_ce h_u_ho h_u_wy h_u_bt h_u_ps h_u_ic h_u_id (e_t)) (cwV 1 hts gV_X12_233 rfl rfl rfl hv_X12_must ⟨Nat.le_of_ble_eq_true rfl, Nat.le_of_ble_eq_true rfl⟩) (g5_preV hPc hK hDc hN hT hS hFc (ci := 12) (q0 := 0) rfl rfl) rfl rfl hl.1 rfl (lv_room (Nat.le_of_ble_eq_true rfl)) dX12_openBracket_15 ⟨Nat.le_of_ble_eq_true rfl, Nat.le_of_ble_eq_true rfl⟩) hS (fun q _ h => hFc q h) hFc (fun u t H1 locs ht hvm hw hB hz1 hk1 hS => ?_)
    obtain ⟨hP1, hD1⟩ := hB
    rw [ht] at hP1
    obtain ⟨z7, z8, z9, z10, i_3, i_4, i_5, i_6, rfl⟩ := hw
    have i_3 : 0 ≤ z7.toInt ∧ z7.toInt ≤ 400 := i_3
    have i_4 : 0 ≤ z8.toInt ∧ z8.toInt ≤ 400 := i_4
    have i_5 : u_to.toInt ≤ z7.toInt ∧ z7.toInt ≤ z8.toInt ∧ z8.toInt ≤ u_td.toInt := i_5
    have i_6 : TKs z9.toInt z7.toInt z8.toInt := i_6
    obtain ⟨hP, hD⟩ := va_join (wr := [(b_pi, (arI G 400 v_pi)), (b_pa, (arI G 400 v_pa))]) hP hD [0, 1] [2, 3] rfl rfl (by decide) (by decide) hk1 hFc hP1 hD1
    generalize H1 = H at hP hS ⊢
    refine g5_rs [(b_pi, (arI G 400 v_pi)), (b_pa, (arI G 400 v_pa)), (b_o, (oc12 u_th u_sa b_rf b_ro b_im b_ke u_fd b_tp u_td z7 z8 z9 z10 u_fa u_bd u_nc b_nl u_co b_op b_ar u_le b_pi b_pa u_pd u_od b_ws b_hw u_la b_se b_re u_bk u_va u_su u_ce u_ho u_wy u_bt u_ps b_pt u_tg u_sn b_ip u_ic b_ah b_be b_me u_wd b_tr b_ld u_st b_wn u_id)), (b_tp, (arI G 400 v_tp))] hP hD (fun hP hD => ?_)
    refine lv_aload_n hx hb dX12_openBracket_18 rfl (lv_at hl 0 rfl) ?_
    refine va_get (D := G.1) (ci := 12) (v := .int u_bd) (C := RX12) (T := TX12) (N := 52) hx hb hts inG_X12 hown hK hP 2 rfl rfl 14 (by decide) (hts _ fl_X12_205) (fun _ h9 => h9) rfl dX12_openBracket_19 ?_
    refine lv_if_ne (tgt := 41) hx hb dX12_openBracket_22 (by decide) (fun c_11 => ?_) (fun c_11 => ?_)
    ·
      have i_11 : u_bd.toInt ≠ 0 := by have z := g5_ne (a := u_bd.toInt) (b := 0) (by rfl) (by decide) c_11; omega
      omega
    ·
      have i_11 : u_bd.toInt = 0 := by have z := g5_neN (a := u_bd.toInt) (b := 0) (by rfl) (by decide) c_11; omega
      refine lv_aload_n hx hb dX12_openBracket_25 rfl (lv_at hl 0 rfl) ?_
      refine lv_dup hx hb dX12_openBracket_26 rfl ?_
      refine va_get (D := G.1) (ci := 12) (v := .int u_od) (C := RX12) (T := TX12) (N := 52) hx hb hts inG_X12 hown hK hP 2 rfl rfl 24 (by decide) (hts _ fl_X12_258) (fun _ h9 => h9) rfl dX12_openBracket_27 ?_
      refine lv_iconst (v := 1) hx hb dX12_openBracket_30 (by decide) ?_
      have hrg_12 := g5_rg u_od
      refine lv_iadd hx hb dX12_openBracket_31 ?_
      have t_13 : (u_od + 1).toInt = u_od.toInt + 1 := g5_iadd (a := u_od.toInt) (b := 1) (by rfl) (by decide) (by omega) (by omega)
      refine va_put (D := G.1) (ci := 12) (v := .int (u_od + 1)) (ty := .int) (C := RX12) (T := TX12) (N := 52) hx hb hts inG_X12 tyX12 tyX12_ok nmX12 hown hK hP hD hS 2 rfl rfl 24 (by decide) (hts _ fl_X12_258) (fun _ h9 => h9) rfl (by decide +kernel) rfl rfl (Nat.le_of_ble_eq_true rfl) dX12_openBracket_32 (fun H locs hP hD hS => ?_)
      refine g5_rs [(b_pi, (arI G 400 v_pi)), (b_pa, (arI G 400 v_pa)), (b_o, (oc12 u_th u_sa b_rf b_ro b_im b_ke u_fd b_tp u_td z7 z8 z9 z10 u_fa u_bd u_nc b_nl u_co b_op b_ar u_le b_pi b_pa u_pd (u_od + 1) b_ws b_hw u_la b_se b_re u_bk u_va u_su u_ce u_ho u_wy u_bt u_ps b_pt u_tg u_sn b_ip u_ic b_ah b_be b_me u_wd b_tr b_ld u_st b_wn u_id)), (b_tp, (arI G 400 v_tp))] hP hD (fun hP hD => ?_)
      refine lv_aload_n hx hb dX12_openBracket_35 rfl (lv_at hl 0 rfl) ?_
      refine lv_iload_n hx hb dX12_openBracket_36 rfl (lv_at hl 1 rfl) ?_
      refine lv_iconst (v := 0) hx hb dX12_openBracket_37 (by decide) ?_
      obtain ⟨hPc, hDc, hFc⟩ := g5_sub3 (wc := [(b_o, (oc12 u_th u_sa b_rf b_ro b_im b_ke u_fd b_tp u_td z7 z8 z9 z10 u_fa u_bd u_nc b_nl u_co b_op b_ar u_le b_pi b_pa u_pd (u_od + 1) b_ws b_hw u_la b_se b_re u_bk u_va u_su u_ce u_ho u_wy u_bt u_ps b_pt u_tg u_sn b_ip u_ic b_ah b_be b_me u_wd b_tr b_ld u_st b_wn u_id)), (b_pi, (arI G 400 v_pi)), (b_pa, (arI G 400 v_pa))]) hP hD hS hA [2, 0, 1] (by decide) rfl
      refine va_callv (va_runV (As := [.int p_1, .int 0]) (rest := []) ⟨hx, hb, hml, hown, hts⟩ (n_push l G b_o b_pi b_pa b_rf b_ro b_im b_ke b_tp b_nl b_op b_ar b_ws b_hw b_se b_re b_pt b_ip b_ah b_be b_me b_tr b_ld b_wn H.size u_th u_sa u_fd u_td z7 z8 z9 u_fa u_bd u_nc u_co u_le u_pd (u_od + 1) u_la u_bk u_ce u_ho u_wy u_bt u_ps u_tg u_sn u_ic u_wd u_id p_1 0 z10 u_va u_su u_st v_pi v_pa h_u_td i_3 i_4 ⟨by omega, by omega⟩ h_u_nc h_u_co h_u_pd h_u_la h_u_bk h_u_ce h_u_ho h_u_wy h_u_bt h_u_ps h_u_ic h_u_id (by omega)) (cwV 2 hts gV_X12_261 rfl rfl rfl hv_X12_push ⟨Nat.le_of_ble_eq_true rfl, Nat.le_of_ble_eq_true rfl⟩) (g5_preV hPc hK hDc hN hT hS hFc (ci := 12) (q0 := 0) rfl rfl) rfl rfl hl.1 rfl (lv_room (Nat.le_of_ble_eq_true rfl)) dX12_openBracket_38 ⟨Nat.le_of_ble_eq_true rfl, Nat.le_of_ble_eq_true rfl⟩) hS (fun q _ h => hFc q h) hFc (fun u t H1 locs ht hvm hw hB hz1 hk1 hS => ?_)
      obtain ⟨hP1, hD1⟩ := hB
      rw [ht] at hP1
      obtain ⟨z16, i_14, i_15, rfl⟩ := hw
      have i_14 : 0 ≤ z16.toInt ∧ z16.toInt ≤ 400 := i_14
      have i_15 : z16.toInt = u_pd.toInt + 1 := i_15
      obtain ⟨hP, hD⟩ := va_join (wr := [(b_tp, (arI G 400 v_tp))]) hP hD [2, 0, 1] [3] rfl rfl (by decide) (by decide) hk1 hFc hP1 hD1
      generalize H1 = H at hP hS ⊢
      refine g5_rs [(b_tp, (arI G 400 v_tp)), (b_o, (oc12 u_th u_sa b_rf b_ro b_im b_ke u_fd b_tp u_td z7 z8 z9 z10 u_fa u_bd u_nc b_nl u_co b_op b_ar u_le b_pi b_pa z16 (u_od + 1) b_ws b_hw u_la b_se b_re u_bk u_va u_su u_ce u_ho u_wy u_bt u_ps b_pt u_tg u_sn b_ip u_ic b_ah b_be b_me u_wd b_tr b_ld u_st b_wn u_id)), (b_pi, (arI G 400 (upd v_pi u_pd.toNatClampNeg p_1))), (b_pa, (arI G 400 (upd v_pa u_pd.toNatClampNeg 0)))] hP hD (fun hP hD => ?_)
      exact W.vret hx hb hr (fun t ht hW => ⟨⟨[(b_o, (oc12 u_th u_sa b_rf b_ro b_im b_ke u_fd b_tp u_td z7 z8 z9 z10 u_fa u_bd u_nc b_nl u_co b_op b_ar u_le b_pi b_pa z16 (u_od + 1) b_ws b_hw u_la b_se b_re u_bk u_va u_su u_ce u_ho u_wy u_bt u_ps b_pt u_tg u_sn b_ip u_ic b_ah b_be b_me u_wd b_tr b_ld u_st b_wn u_id)), (b_tp, (arI G 400 v_tp)), (b_pi, (arI G 400 (upd v_pi u_pd.toNatClampNeg p_1))), (b_pa, (arI G 400 (upd v_pa u_pd.toNatClampNeg 0)))], rfl, Or.inr (⟨z7, z8, z9, z10, z16, (u_od + 1), i_3, i_4, i_14, by omega, i_6, by omega, rfl⟩), by rw [ht]; exact hP.sub [1, 0, 2, 3] rfl, hD.sub [1, 0, 2, 3] (by decide) rfl⟩, hS.F ht⟩) hS.2.2 dX12_openBracket_41
theorem dgX12_leaf_0 : ∀ r ∈ ([(0, (.aload_n 0, 1)), (1, (.iload_n 1, 1)), (2, (.ifCond .eq 16, 3)), (5, (.aload_n 0, 1)), (6, (.getfield 264, 3)), (9, (.bipush 50, 2)), (11, (.if_icmp .ge 7, 3)), (14, (.iconst 1, 1)), (15, (.goto 4, 3)), (18, (.iconst 0, 1)), (19, (.invokevirtual 233, 3)), (22, (.aload_n 0, 1)), (23, (.getfield 205, 3)), (26, (.ifCond .ne 19, 3)), (29, (.aload_n 0, 1)), (30, (.iload_n 2, 1)), (31, (.iload_n 3, 1)), (32, (.invokevirtual 246, 3)), (35, (.aload_n 0, 1)), (36, (.dup, 1)), (37, (.getfield 264, 3)), (40, (.iconst 1, 1)), (41, (.iadd, 1)), (42, (.putfield 264, 3)), (45, (.return_, 1))] : List (Nat × (Instr × Nat))), decode cX12_leaf r.1 = .ok r.2 := by decide +kernel
theorem dX12_leaf_0 : decode cX12_leaf 0 = .ok (.aload_n 0, 1) := dgX12_leaf_0 (0, (.aload_n 0, 1)) (List.mem_of_getElem? (i := 0) rfl)
theorem dX12_leaf_1 : decode cX12_leaf 1 = .ok (.iload_n 1, 1) := dgX12_leaf_0 (1, (.iload_n 1, 1)) (List.mem_of_getElem? (i := 1) rfl)
theorem dX12_leaf_2 : decode cX12_leaf 2 = .ok (.ifCond .eq 16, 3) := dgX12_leaf_0 (2, (.ifCond .eq 16, 3)) (List.mem_of_getElem? (i := 2) rfl)
theorem dX12_leaf_5 : decode cX12_leaf 5 = .ok (.aload_n 0, 1) := dgX12_leaf_0 (5, (.aload_n 0, 1)) (List.mem_of_getElem? (i := 3) rfl)
theorem dX12_leaf_6 : decode cX12_leaf 6 = .ok (.getfield 264, 3) := dgX12_leaf_0 (6, (.getfield 264, 3)) (List.mem_of_getElem? (i := 4) rfl)
theorem dX12_leaf_9 : decode cX12_leaf 9 = .ok (.bipush 50, 2) := dgX12_leaf_0 (9, (.bipush 50, 2)) (List.mem_of_getElem? (i := 5) rfl)
theorem dX12_leaf_11 : decode cX12_leaf 11 = .ok (.if_icmp .ge 7, 3) := dgX12_leaf_0 (11, (.if_icmp .ge 7, 3)) (List.mem_of_getElem? (i := 6) rfl)
theorem dX12_leaf_14 : decode cX12_leaf 14 = .ok (.iconst 1, 1) := dgX12_leaf_0 (14, (.iconst 1, 1)) (List.mem_of_getElem? (i := 7) rfl)
theorem dX12_leaf_15 : decode cX12_leaf 15 = .ok (.goto 4, 3) := dgX12_leaf_0 (15, (.goto 4, 3)) (List.mem_of_getElem? (i := 8) rfl)
theorem dX12_leaf_18 : decode cX12_leaf 18 = .ok (.iconst 0, 1) := dgX12_leaf_0 (18, (.iconst 0, 1)) (List.mem_of_getElem? (i := 9) rfl)
theorem dX12_leaf_19 : decode cX12_leaf 19 = .ok (.invokevirtual 233, 3) := dgX12_leaf_0 (19, (.invokevirtual 233, 3)) (List.mem_of_getElem? (i := 10) rfl)
theorem dX12_leaf_22 : decode cX12_leaf 22 = .ok (.aload_n 0, 1) := dgX12_leaf_0 (22, (.aload_n 0, 1)) (List.mem_of_getElem? (i := 11) rfl)
theorem dX12_leaf_23 : decode cX12_leaf 23 = .ok (.getfield 205, 3) := dgX12_leaf_0 (23, (.getfield 205, 3)) (List.mem_of_getElem? (i := 12) rfl)
theorem dX12_leaf_26 : decode cX12_leaf 26 = .ok (.ifCond .ne 19, 3) := dgX12_leaf_0 (26, (.ifCond .ne 19, 3)) (List.mem_of_getElem? (i := 13) rfl)
theorem dX12_leaf_29 : decode cX12_leaf 29 = .ok (.aload_n 0, 1) := dgX12_leaf_0 (29, (.aload_n 0, 1)) (List.mem_of_getElem? (i := 14) rfl)
theorem dX12_leaf_30 : decode cX12_leaf 30 = .ok (.iload_n 2, 1) := dgX12_leaf_0 (30, (.iload_n 2, 1)) (List.mem_of_getElem? (i := 15) rfl)
theorem dX12_leaf_31 : decode cX12_leaf 31 = .ok (.iload_n 3, 1) := dgX12_leaf_0 (31, (.iload_n 3, 1)) (List.mem_of_getElem? (i := 16) rfl)
theorem dX12_leaf_32 : decode cX12_leaf 32 = .ok (.invokevirtual 246, 3) := dgX12_leaf_0 (32, (.invokevirtual 246, 3)) (List.mem_of_getElem? (i := 17) rfl)
theorem dX12_leaf_35 : decode cX12_leaf 35 = .ok (.aload_n 0, 1) := dgX12_leaf_0 (35, (.aload_n 0, 1)) (List.mem_of_getElem? (i := 18) rfl)
theorem dX12_leaf_36 : decode cX12_leaf 36 = .ok (.dup, 1) := dgX12_leaf_0 (36, (.dup, 1)) (List.mem_of_getElem? (i := 19) rfl)
theorem dX12_leaf_37 : decode cX12_leaf 37 = .ok (.getfield 264, 3) := dgX12_leaf_0 (37, (.getfield 264, 3)) (List.mem_of_getElem? (i := 20) rfl)
theorem dX12_leaf_40 : decode cX12_leaf 40 = .ok (.iconst 1, 1) := dgX12_leaf_0 (40, (.iconst 1, 1)) (List.mem_of_getElem? (i := 21) rfl)
theorem dX12_leaf_41 : decode cX12_leaf 41 = .ok (.iadd, 1) := dgX12_leaf_0 (41, (.iadd, 1)) (List.mem_of_getElem? (i := 22) rfl)
theorem dX12_leaf_42 : decode cX12_leaf 42 = .ok (.putfield 264, 3) := dgX12_leaf_0 (42, (.putfield 264, 3)) (List.mem_of_getElem? (i := 23) rfl)
theorem dX12_leaf_45 : decode cX12_leaf 45 = .ok (.return_, 1) := dgX12_leaf_0 (45, (.return_, 1)) (List.mem_of_getElem? (i := 24) rfl)
theorem fl_X12_264 : Cond.fieldLink RX12 264 "LateGlassModel" "nLeaves" "I" ∈ tblG := tg 1223 (by decide +kernel) (by decide +kernel)
set_option maxHeartbeats 4000000 in
set_option maxRecDepth 100000 in
theorem n_leaf1 (l : Launch) (G : g5_G) (b_o b_tp b_op b_ar b_rf b_ro b_im b_ke b_nl b_pi b_pa b_ws b_hw b_se b_re b_pt b_ip b_ah b_be b_me b_tr b_ld b_wn : Nat) (sz : Nat) (u_th : Int32) (u_sa : Int32) (u_fd : Int32) (u_td : Int32) (u_fr : Int32) (u_to : Int32) (u_so : Int32) (u_fa : Int32) (u_bd : Int32) (u_nc : Int32) (u_co : Int32) (u_le : Int32) (u_pd : Int32) (u_od : Int32) (u_la : Int32) (u_bk : Int32) (u_ce : Int32) (u_ho : Int32) (u_wy : Int32) (u_bt : Int32) (u_ps : Int32) (u_tg : Int32) (u_sn : Int32) (u_ic : Int32) (u_wd : Int32) (u_id : Int32) (p_2 : Int32) (p_3 : Int32) (u_wo : Int64) (u_va : Int64) (u_su : Int64) (u_st : Int64) (v_tp : Nat → Int32) (v_op : Nat → Int32) (v_ar : Nat → Int32) (h_u_td : 0 ≤ u_td.toInt ∧ u_td.toInt ≤ 400) (h_u_fr : 0 ≤ u_fr.toInt ∧ u_fr.toInt ≤ 400) (h_u_to : 0 ≤ u_to.toInt ∧ u_to.toInt ≤ 400) (h_u_bd : 0 ≤ u_bd.toInt ∧ u_bd.toInt ≤ 0) (h_u_nc : 0 ≤ u_nc.toInt ∧ u_nc.toInt ≤ 12) (h_u_co : 0 ≤ u_co.toInt ∧ u_co.toInt ≤ 400) (h_u_pd : 0 ≤ u_pd.toInt ∧ u_pd.toInt ≤ 400) (h_u_la : 0 ≤ u_la.toInt ∧ u_la.toInt ≤ 4840) (h_u_bk : 0 ≤ u_bk.toInt ∧ u_bk.toInt ≤ 1) (h_u_ce : 0 ≤ u_ce.toInt ∧ u_ce.toInt ≤ 63) (h_u_ho : 0 ≤ u_ho.toInt ∧ u_ho.toInt ≤ 23) (h_u_wy : 0 ≤ u_wy.toInt ∧ u_wy.toInt ≤ 3) (h_u_bt : 0 ≤ u_bt.toInt ∧ u_bt.toInt ≤ 1000000) (h_u_ps : 0 ≤ u_ps.toInt ∧ u_ps.toInt ≤ 200) (h_u_ic : 0 ≤ u_ic.toInt ∧ u_ic.toInt ≤ 1) (h_u_id : 0 ≤ u_id.toInt ∧ u_id.toInt ≤ 1) (h_p_2 : 0 ≤ p_2.toInt ∧ p_2.toInt ≤ 8) (e_t : u_fr.toInt < u_to.toInt ∧ u_to.toInt ≤ u_td.toInt) (e_p : u_co.toInt ≤ u_fr.toInt) : Met l yX12_leaf (wsG yX12_leaf cX12_leaf 4 none) ({ frames := 3, cells := 0, slots := 0, locals := 61 }) (va_Pc [.ref b_o, .int 1, .int p_2, .int p_3] (g5_P G [(b_o, (oc12 u_th u_sa b_rf b_ro b_im b_ke u_fd b_tp u_td u_fr u_to u_so u_wo u_fa u_bd u_nc b_nl u_co b_op b_ar u_le b_pi b_pa u_pd u_od b_ws b_hw u_la b_se b_re u_bk u_va u_su u_ce u_ho u_wy u_bt u_ps b_pt u_tg u_sn b_ip u_ic b_ah b_be b_me u_wd b_tr b_ld u_st b_wn u_id)), (b_tp, (arI G 400 v_tp)), (b_op, (arI G 400 v_op)), (b_ar, (arI G 400 v_ar))] sz)) (va_Qv (fun (u : va_W) => ((u = [(b_o, (oc12 u_th u_sa b_rf b_ro b_im b_ke u_fd b_tp u_td u_fr u_to u_so u_wo u_fr 1 u_nc b_nl u_co b_op b_ar u_le b_pi b_pa u_pd u_od b_ws b_hw u_la b_se b_re u_bk u_va u_su u_ce u_ho u_wy u_bt u_ps b_pt u_tg u_sn b_ip u_ic b_ah b_be b_me u_wd b_tr b_ld u_st b_wn u_id)), (b_tp, (arI G 400 v_tp)), (b_op, (arI G 400 v_op)), (b_ar, (arI G 400 v_ar))])) ∨ (∃ (o_fr : Int32) (o_to : Int32) (o_so : Int32) (o_wo : Int64) (o_co : Int32) (o_le : Int32), (0 ≤ o_fr.toInt ∧ o_fr.toInt ≤ 400) ∧ (0 ≤ o_to.toInt ∧ o_to.toInt ≤ 400) ∧ (0 ≤ o_co.toInt ∧ o_co.toInt ≤ 400) ∧ (u_to.toInt ≤ o_fr.toInt ∧ o_fr.toInt ≤ o_to.toInt ∧ o_to.toInt ≤ u_td.toInt) ∧ (TKs o_so.toInt o_fr.toInt o_to.toInt) ∧ (o_co.toInt = u_co.toInt + 1) ∧ (u = [(b_o, (oc12 u_th u_sa b_rf b_ro b_im b_ke u_fd b_tp u_td o_fr o_to o_so o_wo u_fa u_bd u_nc b_nl o_co b_op b_ar o_le b_pi b_pa u_pd u_od b_ws b_hw u_la b_se b_re u_bk u_va u_su u_ce u_ho u_wy u_bt u_ps b_pt u_tg u_sn b_ip u_ic b_ah b_be b_me u_wd b_tr b_ld u_st b_wn u_id)), (b_tp, (arI G 400 v_tp)), (b_op, (arI G 400 (upd v_op u_co.toNatClampNeg p_2))), (b_ar, (arI G 400 (upd v_ar u_co.toNatClampNeg p_3)))]))) (g5_B G (va_A [(b_o, (oc12 u_th u_sa b_rf b_ro b_im b_ke u_fd b_tp u_td u_fr u_to u_so u_wo u_fa u_bd u_nc b_nl u_co b_op b_ar u_le b_pi b_pa u_pd u_od b_ws b_hw u_la b_se b_re u_bk u_va u_su u_ce u_ho u_wy u_bt u_ps b_pt u_tg u_sn b_ip u_ic b_ah b_be b_me u_wd b_tr b_ld u_st b_wn u_id)), (b_tp, (arI G 400 v_tp)), (b_op, (arI G 400 v_op)), (b_ar, (arI G 400 v_ar))] sz)) (va_A [(b_o, (oc12 u_th u_sa b_rf b_ro b_im b_ke u_fd b_tp u_td u_fr u_to u_so u_wo u_fa u_bd u_nc b_nl u_co b_op b_ar u_le b_pi b_pa u_pd u_od b_ws b_hw u_la b_se b_re u_bk u_va u_su u_ce u_ho u_wy u_bt u_ps b_pt u_tg u_sn b_ip u_ic b_ah b_be b_me u_wd b_tr b_ld u_st b_wn u_id)), (b_tp, (arI G 400 v_tp)), (b_op, (arI G 400 v_op)), (b_ar, (arI G 400 v_ar))] sz)) 0 0 (va_A [(b_o, (oc12 u_th u_sa b_rf b_ro b_im b_ke u_fd b_tp u_td u_fr u_to u_so u_wo u_fa u_bd u_nc b_nl u_co b_op b_ar u_le b_pi b_pa u_pd u_od b_ws b_hw u_la b_se b_re u_bk u_va u_su u_ce u_ho u_wy u_bt u_ps b_pt u_tg u_sn b_ip u_ic b_ah b_be b_me u_wd b_tr b_ld u_st b_wn u_id)), (b_tp, (arI G 400 v_tp)), (b_op, (arI G 400 v_op)), (b_ar, (arI G 400 v_ar))] sz) := by
  refine Met.ofW (cc := cX12_leaf) (maxL := 4) (ret := none) (by decide) rfl ?_
  intro p e s m args below meth c s₁ B hml hv
  obtain ⟨rfl, hsz, hP, hK, hD0, hN, hT⟩ := hv
  have hx := B.exec
  have hb := B.bytes
  have hr := B.returns
  have hts : ∀ w ∈ tblG, w.before _ s = true := fun w h => atoms_spec (ws := (wsG yX12_leaf cX12_leaf 4 none)) B.pre w (List.mem_cons_of_mem _ h)
  have hown : s.vm.findClass RX12 = some m.cls := findClass_of_methodNamed B.named
  have hlocks := B.notSynchronized
  subst hsz
  have hD := hD0.self (sz := s.heap.size)
  generalize hAe : va_A [(b_o, (oc12 u_th u_sa b_rf b_ro b_im b_ke u_fd b_tp u_td u_fr u_to u_so u_wo u_fa u_bd u_nc b_nl u_co b_op b_ar u_le b_pi b_pa u_pd u_od b_ws b_hw u_la b_se b_re u_bk u_va u_su u_ce u_ho u_wy u_bt u_ps b_pt u_tg u_sn b_ip u_ic b_ah b_be b_me u_wd b_tr b_ld u_st b_wn u_id)), (b_tp, (arI G 400 v_tp)), (b_op, (arI G 400 v_op)), (b_ar, (arI G 400 v_ar))] s.heap.size = A at hD hT ⊢
  have hA : ∀ q : Nat, s.heap.size ≤ q → A q := fun q h => by rw [← hAe]; exact Or.inr h
  have hS : va_S A s.heap s.heap [] := va_S.rf
  have hP : va_P G.1 vwCl [(b_o, (oc12 u_th u_sa b_rf b_ro b_im b_ke u_fd b_tp u_td u_fr u_to u_so u_wo u_fa u_bd u_nc b_nl u_co b_op b_ar u_le b_pi b_pa u_pd u_od b_ws b_hw u_la b_se b_re u_bk u_va u_su u_ce u_ho u_wy u_bt u_ps b_pt u_tg u_sn b_ip u_ic b_ah b_be b_me u_wd b_tr b_ld u_st b_wn u_id)), (b_tp, (arI G 400 v_tp)), (b_op, (arI G 400 v_op)), (b_ar, (arI G 400 v_ar))] s.heap := hP
  have hl := lv_entry ([.ref b_o, .int 1, .int p_2, .int p_3]) (n := 4) (Nat.le_of_ble_eq_true rfl)
  rw [lg_entry_eq]
  generalize (lg_sl ([.ref b_o, .int 1, .int p_2, .int p_3]) ++ List.replicate (4 - (lg_sl ([.ref b_o, .int 1, .int p_2, .int p_3])).length) Slot.unset).toArray = ls at hl ⊢
  have hl : lv_has ls 4 [(0, .ref b_o), (1, .int 1), (2, .int p_2), (3, .int p_3)] := hl
  refine lv_aload_n hx hb dX12_leaf_0 rfl (lv_at hl 0 rfl) ?_
  refine lv_iload_n hx hb dX12_leaf_1 rfl (lv_at hl 1 rfl) ?_
  refine lv_if_eq (tgt := 18) hx hb dX12_leaf_2 (by decide) (fun c_1 => ?_) (fun c_1 => ?_)
  ·
    exact absurd c_1 (by decide)
  ·
    refine lv_aload_n hx hb dX12_leaf_5 rfl (lv_at hl 0 rfl) ?_
    refine va_get (D := G.1) (ci := 12) (v := .int u_le) (C := RX12) (T := TX12) (N := 52) hx hb hts inG_X12 hown hK hP 0 rfl rfl 20 (by decide) (hts _ fl_X12_264) (fun _ h9 => h9) rfl dX12_leaf_6 ?_
    refine lv_bipush (v := 50) hx hb dX12_leaf_9 (by decide) ?_
    refine lv_icmp_ge (tgt := 18) hx hb dX12_leaf_11 (by decide) (fun c_2 => ?_) (fun c_2 => ?_)
    ·
      have i_2 : u_le.toInt ≥ 50 := by have z := g5_ge (a := u_le.toInt) (b := 50) (by rfl) (by decide) c_2; omega
      refine lv_iconst (v := 0) hx hb dX12_leaf_18 (by decide) ?_
      obtain ⟨hPc, hDc, hFc⟩ := g5_sub3 (wc := [(b_o, (oc12 u_th u_sa b_rf b_ro b_im b_ke u_fd b_tp u_td u_fr u_to u_so u_wo u_fa u_bd u_nc b_nl u_co b_op b_ar u_le b_pi b_pa u_pd u_od b_ws b_hw u_la b_se b_re u_bk u_va u_su u_ce u_ho u_wy u_bt u_ps b_pt u_tg u_sn b_ip u_ic b_ah b_be b_me u_wd b_tr b_ld u_st b_wn u_id)), (b_tp, (arI G 400 v_tp))]) hP hD hS hA [0, 1] (by decide) rfl
      refine va_callv (va_runV (As := [.int 0]) (rest := []) ⟨hx, hb, hml, hown, hts⟩ (n_must0 l G b_o b_tp b_rf b_ro b_im b_ke b_nl b_op b_ar b_pi b_pa b_ws b_hw b_se b_re b_pt b_ip b_ah b_be b_me b_tr b_ld b_wn s.heap.size u_th u_sa u_fd u_td u_fr u_to u_so u_fa u_bd u_nc u_co u_le u_pd u_od u_la u_bk u_ce u_ho u_wy u_bt u_ps u_tg u_sn u_ic u_wd u_id u_wo u_va u_su u_st v_tp h_u_td h_u_fr h_u_to h_u_bd h_u_nc h_u_co h_u_pd h_u_la h_u_bk h_u_ce h_u_ho h_u_wy h_u_bt h_u_ps h_u_ic h_u_id) (cwV 1 hts gV_X12_233 rfl rfl rfl hv_X12_must ⟨Nat.le_of_ble_eq_true rfl, Nat.le_of_ble_eq_true rfl⟩) (g5_preV hPc hK hDc hN hT hS hFc (ci := 12) (q0 := 0) rfl rfl) rfl rfl hl.1 rfl (lv_room (Nat.le_of_ble_eq_true rfl)) dX12_leaf_19 ⟨Nat.le_of_ble_eq_true rfl, Nat.le_of_ble_eq_true rfl⟩) hS (fun q _ h => hFc q h) hFc (fun u t H1 locs ht hvm hw hB hz1 hk1 hS => ?_)
      obtain ⟨hP1, hD1⟩ := hB
      rw [ht] at hP1
      obtain rfl := hw
      obtain ⟨hP, hD⟩ := va_join (wr := [(b_op, (arI G 400 v_op)), (b_ar, (arI G 400 v_ar))]) hP hD [0, 1] [2, 3] rfl rfl (by decide) (by decide) hk1 hFc hP1 hD1
      generalize H1 = H at hP hS ⊢
      refine g5_rs [(b_op, (arI G 400 v_op)), (b_ar, (arI G 400 v_ar)), (b_o, (oc12 u_th u_sa b_rf b_ro b_im b_ke u_fd b_tp u_td u_fr u_to u_so u_wo u_fr 1 u_nc b_nl u_co b_op b_ar u_le b_pi b_pa u_pd u_od b_ws b_hw u_la b_se b_re u_bk u_va u_su u_ce u_ho u_wy u_bt u_ps b_pt u_tg u_sn b_ip u_ic b_ah b_be b_me u_wd b_tr b_ld u_st b_wn u_id)), (b_tp, (arI G 400 v_tp))] hP hD (fun hP hD => ?_)
      refine lv_aload_n hx hb dX12_leaf_22 rfl (lv_at hl 0 rfl) ?_
      refine va_get (D := G.1) (ci := 12) (v := .int 1) (C := RX12) (T := TX12) (N := 52) hx hb hts inG_X12 hown hK hP 2 rfl rfl 14 (by decide) (hts _ fl_X12_205) (fun _ h9 => h9) rfl dX12_leaf_23 ?_
      refine lv_if_ne (tgt := 45) hx hb dX12_leaf_26 (by decide) (fun c_3 => ?_) (fun c_3 => ?_)
      ·
        exact W.vret hx hb hr (fun t ht hW => ⟨⟨[(b_o, (oc12 u_th u_sa b_rf b_ro b_im b_ke u_fd b_tp u_td u_fr u_to u_so u_wo u_fr 1 u_nc b_nl u_co b_op b_ar u_le b_pi b_pa u_pd u_od b_ws b_hw u_la b_se b_re u_bk u_va u_su u_ce u_ho u_wy u_bt u_ps b_pt u_tg u_sn b_ip u_ic b_ah b_be b_me u_wd b_tr b_ld u_st b_wn u_id)), (b_tp, (arI G 400 v_tp)), (b_op, (arI G 400 v_op)), (b_ar, (arI G 400 v_ar))], rfl, Or.inl (rfl), by rw [ht]; exact hP.sub [2, 3, 0, 1] rfl, hD.sub [2, 3, 0, 1] (by decide) rfl⟩, hS.F ht⟩) hS.2.2 dX12_leaf_45
      ·
        exact absurd c_3 (by decide)
    ·
      have i_2 : u_le.toInt < 50 := by have z := g5_geN (a := u_le.toInt) (b := 50) (by rfl) (by decide) c_2; omega
      refine lv_iconst (v := 1) hx hb dX12_leaf_14 (by decide) ?_
      refine lv_goto (tgt := 19) hx hb dX12_leaf_15 (by decide) ?_
      obtain ⟨hPc, hDc, hFc⟩ := g5_sub3 (wc := [(b_o, (oc12 u_th u_sa b_rf b_ro b_im b_ke u_fd b_tp u_td u_fr u_to u_so u_wo u_fa u_bd u_nc b_nl u_co b_op b_ar u_le b_pi b_pa u_pd u_od b_ws b_hw u_la b_se b_re u_bk u_va u_su u_ce u_ho u_wy u_bt u_ps b_pt u_tg u_sn b_ip u_ic b_ah b_be b_me u_wd b_tr b_ld u_st b_wn u_id)), (b_tp, (arI G 400 v_tp))]) hP hD hS hA [0, 1] (by decide) rfl
      refine va_callv (va_runV (As := [.int 1]) (rest := []) ⟨hx, hb, hml, hown, hts⟩ (n_must1 l G b_o b_tp b_rf b_ro b_im b_ke b_nl b_op b_ar b_pi b_pa b_ws b_hw b_se b_re b_pt b_ip b_ah b_be b_me b_tr b_ld b_wn s.heap.size u_th u_sa u_fd u_td u_fr u_to u_so u_fa u_bd u_nc u_co u_le u_pd u_od u_la u_bk u_ce u_ho u_wy u_bt u_ps u_tg u_sn u_ic u_wd u_id u_wo u_va u_su u_st v_tp h_u_td h_u_fr h_u_to h_u_bd h_u_nc h_u_co h_u_pd h_u_la h_u_bk h_u_ce h_u_ho h_u_wy h_u_bt h_u_ps h_u_ic h_u_id (e_t)) (cwV 1 hts gV_X12_233 rfl rfl rfl hv_X12_must ⟨Nat.le_of_ble_eq_true rfl, Nat.le_of_ble_eq_true rfl⟩) (g5_preV hPc hK hDc hN hT hS hFc (ci := 12) (q0 := 0) rfl rfl) rfl rfl hl.1 rfl (lv_room (Nat.le_of_ble_eq_true rfl)) dX12_leaf_19 ⟨Nat.le_of_ble_eq_true rfl, Nat.le_of_ble_eq_true rfl⟩) hS (fun q _ h => hFc q h) hFc (fun u t H1 locs ht hvm hw hB hz1 hk1 hS => ?_)
      obtain ⟨hP1, hD1⟩ := hB
      rw [ht] at hP1
      obtain ⟨z8, z9, z10, z11, i_4, i_5, i_6, i_7, rfl⟩ := hw
      have i_4 : 0 ≤ z8.toInt ∧ z8.toInt ≤ 400 := i_4
      have i_5 : 0 ≤ z9.toInt ∧ z9.toInt ≤ 400 := i_5
      have i_6 : u_to.toInt ≤ z8.toInt ∧ z8.toInt ≤ z9.toInt ∧ z9.toInt ≤ u_td.toInt := i_6
      have i_7 : TKs z10.toInt z8.toInt z9.toInt := i_7
      obtain ⟨hP, hD⟩ := va_join (wr := [(b_op, (arI G 400 v_op)), (b_ar, (arI G 400 v_ar))]) hP hD [0, 1] [2, 3] rfl rfl (by decide) (by decide) hk1 hFc hP1 hD1
      generalize H1 = H at hP hS ⊢
      refine g5_rs [(b_op, (arI G 400 v_op)), (b_ar, (arI G 400 v_ar)), (b_o, (oc12 u_th u_sa b_rf b_ro b_im b_ke u_fd b_tp u_td z8 z9 z10 z11 u_fa u_bd u_nc b_nl u_co b_op b_ar u_le b_pi b_pa u_pd u_od b_ws b_hw u_la b_se b_re u_bk u_va u_su u_ce u_ho u_wy u_bt u_ps b_pt u_tg u_sn b_ip u_ic b_ah b_be b_me u_wd b_tr b_ld u_st b_wn u_id)), (b_tp, (arI G 400 v_tp))] hP hD (fun hP hD => ?_)
      refine lv_aload_n hx hb dX12_leaf_22 rfl (lv_at hl 0 rfl) ?_
      refine va_get (D := G.1) (ci := 12) (v := .int u_bd) (C := RX12) (T := TX12) (N := 52) hx hb hts inG_X12 hown hK hP 2 rfl rfl 14 (by decide) (hts _ fl_X12_205) (fun _ h9 => h9) rfl dX12_leaf_23 ?_
      refine lv_if_ne (tgt := 45) hx hb dX12_leaf_26 (by decide) (fun c_12 => ?_) (fun c_12 => ?_)
      ·
        have i_12 : u_bd.toInt ≠ 0 := by have z := g5_ne (a := u_bd.toInt) (b := 0) (by rfl) (by decide) c_12; omega
        omega
      ·
        have i_12 : u_bd.toInt = 0 := by have z := g5_neN (a := u_bd.toInt) (b := 0) (by rfl) (by decide) c_12; omega
        refine lv_aload_n hx hb dX12_leaf_29 rfl (lv_at hl 0 rfl) ?_
        refine lv_iload_n hx hb dX12_leaf_30 rfl (lv_at hl 2 rfl) ?_
        refine lv_iload_n hx hb dX12_leaf_31 rfl (lv_at hl 3 rfl) ?_
        obtain ⟨hPc, hDc, hFc⟩ := g5_sub3 (wc := [(b_o, (oc12 u_th u_sa b_rf b_ro b_im b_ke u_fd b_tp u_td z8 z9 z10 z11 u_fa u_bd u_nc b_nl u_co b_op b_ar u_le b_pi b_pa u_pd u_od b_ws b_hw u_la b_se b_re u_bk u_va u_su u_ce u_ho u_wy u_bt u_ps b_pt u_tg u_sn b_ip u_ic b_ah b_be b_me u_wd b_tr b_ld u_st b_wn u_id)), (b_op, (arI G 400 v_op)), (b_ar, (arI G 400 v_ar))]) hP hD hS hA [2, 0, 1] (by decide) rfl
        refine va_callv (va_runV (As := [.int p_2, .int p_3]) (rest := []) ⟨hx, hb, hml, hown, hts⟩ (n_emit l G b_o b_op b_ar b_rf b_ro b_im b_ke b_tp b_nl b_pi b_pa b_ws b_hw b_se b_re b_pt b_ip b_ah b_be b_me b_tr b_ld b_wn H.size u_th u_sa u_fd u_td z8 z9 z10 u_fa u_bd u_nc u_co u_le u_pd u_od u_la u_bk u_ce u_ho u_wy u_bt u_ps u_tg u_sn u_ic u_wd u_id p_2 p_3 z11 u_va u_su u_st v_op v_ar h_u_td i_4 i_5 ⟨by omega, by omega⟩ h_u_nc h_u_co h_u_pd h_u_la h_u_bk h_u_ce h_u_ho h_u_wy h_u_bt h_u_ps h_u_ic h_u_id (by omega)) (cwV 2 hts gV_X12_246 rfl rfl rfl hv_X12_emit ⟨Nat.le_of_ble_eq_true rfl, Nat.le_of_ble_eq_true rfl⟩) (g5_preV hPc hK hDc hN hT hS hFc (ci := 12) (q0 := 0) rfl rfl) rfl rfl hl.1 rfl (lv_room (Nat.le_of_ble_eq_true rfl)) dX12_leaf_32 ⟨Nat.le_of_ble_eq_true rfl, Nat.le_of_ble_eq_true rfl⟩) hS (fun q _ h => hFc q h) hFc (fun u t H1 locs ht hvm hw hB hz1 hk1 hS => ?_)
        obtain ⟨hP1, hD1⟩ := hB
        rw [ht] at hP1
        obtain ⟨z15, i_13, i_14, rfl⟩ := hw
        have i_13 : 0 ≤ z15.toInt ∧ z15.toInt ≤ 400 := i_13
        have i_14 : z15.toInt = u_co.toInt + 1 := i_14
        obtain ⟨hP, hD⟩ := va_join (wr := [(b_tp, (arI G 400 v_tp))]) hP hD [2, 0, 1] [3] rfl rfl (by decide) (by decide) hk1 hFc hP1 hD1
        generalize H1 = H at hP hS ⊢
        refine g5_rs [(b_tp, (arI G 400 v_tp)), (b_o, (oc12 u_th u_sa b_rf b_ro b_im b_ke u_fd b_tp u_td z8 z9 z10 z11 u_fa u_bd u_nc b_nl z15 b_op b_ar u_le b_pi b_pa u_pd u_od b_ws b_hw u_la b_se b_re u_bk u_va u_su u_ce u_ho u_wy u_bt u_ps b_pt u_tg u_sn b_ip u_ic b_ah b_be b_me u_wd b_tr b_ld u_st b_wn u_id)), (b_op, (arI G 400 (upd v_op u_co.toNatClampNeg p_2))), (b_ar, (arI G 400 (upd v_ar u_co.toNatClampNeg p_3)))] hP hD (fun hP hD => ?_)
        refine lv_aload_n hx hb dX12_leaf_35 rfl (lv_at hl 0 rfl) ?_
        refine lv_dup hx hb dX12_leaf_36 rfl ?_
        refine va_get (D := G.1) (ci := 12) (v := .int u_le) (C := RX12) (T := TX12) (N := 52) hx hb hts inG_X12 hown hK hP 1 rfl rfl 20 (by decide) (hts _ fl_X12_264) (fun _ h9 => h9) rfl dX12_leaf_37 ?_
        have hrg_16 := g5_rg u_le
        refine lv_iconst (v := 1) hx hb dX12_leaf_40 (by decide) ?_
        refine lv_iadd hx hb dX12_leaf_41 ?_
        have t_17 : (u_le + 1).toInt = u_le.toInt + 1 := g5_iadd (a := u_le.toInt) (b := 1) (by rfl) (by decide) (by omega) (by omega)
        refine va_put (D := G.1) (ci := 12) (v := .int (u_le + 1)) (ty := .int) (C := RX12) (T := TX12) (N := 52) hx hb hts inG_X12 tyX12 tyX12_ok nmX12 hown hK hP hD hS 1 rfl rfl 20 (by decide) (hts _ fl_X12_264) (fun _ h9 => h9) rfl (by decide +kernel) rfl rfl (Nat.le_of_ble_eq_true rfl) dX12_leaf_42 (fun H locs hP hD hS => ?_)
        refine g5_rs [(b_tp, (arI G 400 v_tp)), (b_o, (oc12 u_th u_sa b_rf b_ro b_im b_ke u_fd b_tp u_td z8 z9 z10 z11 u_fa u_bd u_nc b_nl z15 b_op b_ar (u_le + 1) b_pi b_pa u_pd u_od b_ws b_hw u_la b_se b_re u_bk u_va u_su u_ce u_ho u_wy u_bt u_ps b_pt u_tg u_sn b_ip u_ic b_ah b_be b_me u_wd b_tr b_ld u_st b_wn u_id)), (b_op, (arI G 400 (upd v_op u_co.toNatClampNeg p_2))), (b_ar, (arI G 400 (upd v_ar u_co.toNatClampNeg p_3)))] hP hD (fun hP hD => ?_)
        exact W.vret hx hb hr (fun t ht hW => ⟨⟨[(b_o, (oc12 u_th u_sa b_rf b_ro b_im b_ke u_fd b_tp u_td z8 z9 z10 z11 u_fa u_bd u_nc b_nl z15 b_op b_ar (u_le + 1) b_pi b_pa u_pd u_od b_ws b_hw u_la b_se b_re u_bk u_va u_su u_ce u_ho u_wy u_bt u_ps b_pt u_tg u_sn b_ip u_ic b_ah b_be b_me u_wd b_tr b_ld u_st b_wn u_id)), (b_tp, (arI G 400 v_tp)), (b_op, (arI G 400 (upd v_op u_co.toNatClampNeg p_2))), (b_ar, (arI G 400 (upd v_ar u_co.toNatClampNeg p_3)))], rfl, Or.inr (⟨z8, z9, z10, z11, z15, (u_le + 1), i_4, i_5, i_13, by omega, i_7, by omega, rfl⟩), by rw [ht]; exact hP.sub [1, 0, 2, 3] rfl, hD.sub [1, 0, 2, 3] (by decide) rfl⟩, hS.F ht⟩) hS.2.2 dX12_leaf_45
set_option maxHeartbeats 4000000 in
set_option maxRecDepth 100000 in
theorem n_leaf0 (l : Launch) (G : g5_G) (b_o b_tp b_op b_ar b_rf b_ro b_im b_ke b_nl b_pi b_pa b_ws b_hw b_se b_re b_pt b_ip b_ah b_be b_me b_tr b_ld b_wn : Nat) (sz : Nat) (u_th : Int32) (u_sa : Int32) (u_fd : Int32) (u_td : Int32) (u_fr : Int32) (u_to : Int32) (u_so : Int32) (u_fa : Int32) (u_bd : Int32) (u_nc : Int32) (u_co : Int32) (u_le : Int32) (u_pd : Int32) (u_od : Int32) (u_la : Int32) (u_bk : Int32) (u_ce : Int32) (u_ho : Int32) (u_wy : Int32) (u_bt : Int32) (u_ps : Int32) (u_tg : Int32) (u_sn : Int32) (u_ic : Int32) (u_wd : Int32) (u_id : Int32) (p_2 : Int32) (p_3 : Int32) (u_wo : Int64) (u_va : Int64) (u_su : Int64) (u_st : Int64) (v_tp : Nat → Int32) (v_op : Nat → Int32) (v_ar : Nat → Int32) (h_u_td : 0 ≤ u_td.toInt ∧ u_td.toInt ≤ 400) (h_u_fr : 0 ≤ u_fr.toInt ∧ u_fr.toInt ≤ 400) (h_u_to : 0 ≤ u_to.toInt ∧ u_to.toInt ≤ 400) (h_u_bd : 0 ≤ u_bd.toInt ∧ u_bd.toInt ≤ 0) (h_u_nc : 0 ≤ u_nc.toInt ∧ u_nc.toInt ≤ 12) (h_u_co : 0 ≤ u_co.toInt ∧ u_co.toInt ≤ 400) (h_u_pd : 0 ≤ u_pd.toInt ∧ u_pd.toInt ≤ 400) (h_u_la : 0 ≤ u_la.toInt ∧ u_la.toInt ≤ 4840) (h_u_bk : 0 ≤ u_bk.toInt ∧ u_bk.toInt ≤ 1) (h_u_ce : 0 ≤ u_ce.toInt ∧ u_ce.toInt ≤ 63) (h_u_ho : 0 ≤ u_ho.toInt ∧ u_ho.toInt ≤ 23) (h_u_wy : 0 ≤ u_wy.toInt ∧ u_wy.toInt ≤ 3) (h_u_bt : 0 ≤ u_bt.toInt ∧ u_bt.toInt ≤ 1000000) (h_u_ps : 0 ≤ u_ps.toInt ∧ u_ps.toInt ≤ 200) (h_u_ic : 0 ≤ u_ic.toInt ∧ u_ic.toInt ≤ 1) (h_u_id : 0 ≤ u_id.toInt ∧ u_id.toInt ≤ 1) (h_p_2 : 0 ≤ p_2.toInt ∧ p_2.toInt ≤ 8) : Met l yX12_leaf (wsG yX12_leaf cX12_leaf 4 none) ({ frames := 1, cells := 0, slots := 0, locals := 21 }) (va_Pc [.ref b_o, .int 0, .int p_2, .int p_3] (g5_P G [(b_o, (oc12 u_th u_sa b_rf b_ro b_im b_ke u_fd b_tp u_td u_fr u_to u_so u_wo u_fa u_bd u_nc b_nl u_co b_op b_ar u_le b_pi b_pa u_pd u_od b_ws b_hw u_la b_se b_re u_bk u_va u_su u_ce u_ho u_wy u_bt u_ps b_pt u_tg u_sn b_ip u_ic b_ah b_be b_me u_wd b_tr b_ld u_st b_wn u_id)), (b_tp, (arI G 400 v_tp)), (b_op, (arI G 400 v_op)), (b_ar, (arI G 400 v_ar))] sz)) (va_Qv (fun (u : va_W) => ((u = [(b_o, (oc12 u_th u_sa b_rf b_ro b_im b_ke u_fd b_tp u_td u_fr u_to u_so u_wo u_fr 1 u_nc b_nl u_co b_op b_ar u_le b_pi b_pa u_pd u_od b_ws b_hw u_la b_se b_re u_bk u_va u_su u_ce u_ho u_wy u_bt u_ps b_pt u_tg u_sn b_ip u_ic b_ah b_be b_me u_wd b_tr b_ld u_st b_wn u_id)), (b_tp, (arI G 400 v_tp)), (b_op, (arI G 400 v_op)), (b_ar, (arI G 400 v_ar))]))) (g5_B G (va_A [(b_o, (oc12 u_th u_sa b_rf b_ro b_im b_ke u_fd b_tp u_td u_fr u_to u_so u_wo u_fa u_bd u_nc b_nl u_co b_op b_ar u_le b_pi b_pa u_pd u_od b_ws b_hw u_la b_se b_re u_bk u_va u_su u_ce u_ho u_wy u_bt u_ps b_pt u_tg u_sn b_ip u_ic b_ah b_be b_me u_wd b_tr b_ld u_st b_wn u_id)), (b_tp, (arI G 400 v_tp)), (b_op, (arI G 400 v_op)), (b_ar, (arI G 400 v_ar))] sz)) (va_A [(b_o, (oc12 u_th u_sa b_rf b_ro b_im b_ke u_fd b_tp u_td u_fr u_to u_so u_wo u_fa u_bd u_nc b_nl u_co b_op b_ar u_le b_pi b_pa u_pd u_od b_ws b_hw u_la b_se b_re u_bk u_va u_su u_ce u_ho u_wy u_bt u_ps b_pt u_tg u_sn b_ip u_ic b_ah b_be b_me u_wd b_tr b_ld u_st b_wn u_id)), (b_tp, (arI G 400 v_tp)), (b_op, (arI G 400 v_op)), (b_ar, (arI G 400 v_ar))] sz)) 0 0 (va_A [(b_o, (oc12 u_th u_sa b_rf b_ro b_im b_ke u_fd b_tp u_td u_fr u_to u_so u_wo u_fa u_bd u_nc b_nl u_co b_op b_ar u_le b_pi b_pa u_pd u_od b_ws b_hw u_la b_se b_re u_bk u_va u_su u_ce u_ho u_wy u_bt u_ps b_pt u_tg u_sn b_ip u_ic b_ah b_be b_me u_wd b_tr b_ld u_st b_wn u_id)), (b_tp, (arI G 400 v_tp)), (b_op, (arI G 400 v_op)), (b_ar, (arI G 400 v_ar))] sz) := by
  refine Met.ofW (cc := cX12_leaf) (maxL := 4) (ret := none) (by decide) rfl ?_
  intro p e s m args below meth c s₁ B hml hv
  obtain ⟨rfl, hsz, hP, hK, hD0, hN, hT⟩ := hv
  have hx := B.exec
  have hb := B.bytes
  have hr := B.returns
  have hts : ∀ w ∈ tblG, w.before _ s = true := fun w h => atoms_spec (ws := (wsG yX12_leaf cX12_leaf 4 none)) B.pre w (List.mem_cons_of_mem _ h)
  have hown : s.vm.findClass RX12 = some m.cls := findClass_of_methodNamed B.named
  have hlocks := B.notSynchronized
  subst hsz
  have hD := hD0.self (sz := s.heap.size)
  generalize hAe : va_A [(b_o, (oc12 u_th u_sa b_rf b_ro b_im b_ke u_fd b_tp u_td u_fr u_to u_so u_wo u_fa u_bd u_nc b_nl u_co b_op b_ar u_le b_pi b_pa u_pd u_od b_ws b_hw u_la b_se b_re u_bk u_va u_su u_ce u_ho u_wy u_bt u_ps b_pt u_tg u_sn b_ip u_ic b_ah b_be b_me u_wd b_tr b_ld u_st b_wn u_id)), (b_tp, (arI G 400 v_tp)), (b_op, (arI G 400 v_op)), (b_ar, (arI G 400 v_ar))] s.heap.size = A at hD hT ⊢
  have hA : ∀ q : Nat, s.heap.size ≤ q → A q := fun q h => by rw [← hAe]; exact Or.inr h
  have hS : va_S A s.heap s.heap [] := va_S.rf
  have hP : va_P G.1 vwCl [(b_o, (oc12 u_th u_sa b_rf b_ro b_im b_ke u_fd b_tp u_td u_fr u_to u_so u_wo u_fa u_bd u_nc b_nl u_co b_op b_ar u_le b_pi b_pa u_pd u_od b_ws b_hw u_la b_se b_re u_bk u_va u_su u_ce u_ho u_wy u_bt u_ps b_pt u_tg u_sn b_ip u_ic b_ah b_be b_me u_wd b_tr b_ld u_st b_wn u_id)), (b_tp, (arI G 400 v_tp)), (b_op, (arI G 400 v_op)), (b_ar, (arI G 400 v_ar))] s.heap := hP
  have hl := lv_entry ([.ref b_o, .int 0, .int p_2, .int p_3]) (n := 4) (Nat.le_of_ble_eq_true rfl)
  rw [lg_entry_eq]
  generalize (lg_sl ([.ref b_o, .int 0, .int p_2, .int p_3]) ++ List.replicate (4 - (lg_sl ([.ref b_o, .int 0, .int p_2, .int p_3])).length) Slot.unset).toArray = ls at hl ⊢
  have hl : lv_has ls 4 [(0, .ref b_o), (1, .int 0), (2, .int p_2), (3, .int p_3)] := hl
  refine lv_aload_n hx hb dX12_leaf_0 rfl (lv_at hl 0 rfl) ?_
  refine lv_iload_n hx hb dX12_leaf_1 rfl (lv_at hl 1 rfl) ?_
  refine lv_if_eq (tgt := 18) hx hb dX12_leaf_2 (by decide) (fun c_1 => ?_) (fun c_1 => ?_)
  ·
    refine lv_iconst (v := 0) hx hb dX12_leaf_18 (by decide) ?_
    obtain ⟨hPc, hDc, hFc⟩ := g5_sub3 (wc := [(b_o, (oc12 u_th u_sa b_rf b_ro b_im b_ke u_fd b_tp u_td u_fr u_to u_so u_wo u_fa u_bd u_nc b_nl u_co b_op b_ar u_le b_pi b_pa u_pd u_od b_ws b_hw u_la b_se b_re u_bk u_va u_su u_ce u_ho u_wy u_bt u_ps b_pt u_tg u_sn b_ip u_ic b_ah b_be b_me u_wd b_tr b_ld u_st b_wn u_id)), (b_tp, (arI G 400 v_tp))]) hP hD hS hA [0, 1] (by decide) rfl
    refine va_callv (va_runV (As := [.int 0]) (rest := []) ⟨hx, hb, hml, hown, hts⟩ (n_must0 l G b_o b_tp b_rf b_ro b_im b_ke b_nl b_op b_ar b_pi b_pa b_ws b_hw b_se b_re b_pt b_ip b_ah b_be b_me b_tr b_ld b_wn s.heap.size u_th u_sa u_fd u_td u_fr u_to u_so u_fa u_bd u_nc u_co u_le u_pd u_od u_la u_bk u_ce u_ho u_wy u_bt u_ps u_tg u_sn u_ic u_wd u_id u_wo u_va u_su u_st v_tp h_u_td h_u_fr h_u_to h_u_bd h_u_nc h_u_co h_u_pd h_u_la h_u_bk h_u_ce h_u_ho h_u_wy h_u_bt h_u_ps h_u_ic h_u_id) (cwV 1 hts gV_X12_233 rfl rfl rfl hv_X12_must ⟨Nat.le_of_ble_eq_true rfl, Nat.le_of_ble_eq_true rfl⟩) (g5_preV hPc hK hDc hN hT hS hFc (ci := 12) (q0 := 0) rfl rfl) rfl rfl hl.1 rfl (lv_room (Nat.le_of_ble_eq_true rfl)) dX12_leaf_19 ⟨Nat.le_of_ble_eq_true rfl, Nat.le_of_ble_eq_true rfl⟩) hS (fun q _ h => hFc q h) hFc (fun u t H1 locs ht hvm hw hB hz1 hk1 hS => ?_)
    obtain ⟨hP1, hD1⟩ := hB
    rw [ht] at hP1
    obtain rfl := hw
    obtain ⟨hP, hD⟩ := va_join (wr := [(b_op, (arI G 400 v_op)), (b_ar, (arI G 400 v_ar))]) hP hD [0, 1] [2, 3] rfl rfl (by decide) (by decide) hk1 hFc hP1 hD1
    generalize H1 = H at hP hS ⊢
    refine g5_rs [(b_op, (arI G 400 v_op)), (b_ar, (arI G 400 v_ar)), (b_o, (oc12 u_th u_sa b_rf b_ro b_im b_ke u_fd b_tp u_td u_fr u_to u_so u_wo u_fr 1 u_nc b_nl u_co b_op b_ar u_le b_pi b_pa u_pd u_od b_ws b_hw u_la b_se b_re u_bk u_va u_su u_ce u_ho u_wy u_bt u_ps b_pt u_tg u_sn b_ip u_ic b_ah b_be b_me u_wd b_tr b_ld u_st b_wn u_id)), (b_tp, (arI G 400 v_tp))] hP hD (fun hP hD => ?_)
    refine lv_aload_n hx hb dX12_leaf_22 rfl (lv_at hl 0 rfl) ?_
    refine va_get (D := G.1) (ci := 12) (v := .int 1) (C := RX12) (T := TX12) (N := 52) hx hb hts inG_X12 hown hK hP 2 rfl rfl 14 (by decide) (hts _ fl_X12_205) (fun _ h9 => h9) rfl dX12_leaf_23 ?_
    refine lv_if_ne (tgt := 45) hx hb dX12_leaf_26 (by decide) (fun c_2 => ?_) (fun c_2 => ?_)
    ·
      exact W.vret hx hb hr (fun t ht hW => ⟨⟨[(b_o, (oc12 u_th u_sa b_rf b_ro b_im b_ke u_fd b_tp u_td u_fr u_to u_so u_wo u_fr 1 u_nc b_nl u_co b_op b_ar u_le b_pi b_pa u_pd u_od b_ws b_hw u_la b_se b_re u_bk u_va u_su u_ce u_ho u_wy u_bt u_ps b_pt u_tg u_sn b_ip u_ic b_ah b_be b_me u_wd b_tr b_ld u_st b_wn u_id)), (b_tp, (arI G 400 v_tp)), (b_op, (arI G 400 v_op)), (b_ar, (arI G 400 v_ar))], rfl, rfl, by rw [ht]; exact hP.sub [2, 3, 0, 1] rfl, hD.sub [2, 3, 0, 1] (by decide) rfl⟩, hS.F ht⟩) hS.2.2 dX12_leaf_45
    ·
      exact absurd c_2 (by decide)
  ·
    exact absurd c_1 (by decide)
theorem dgX12_readPart_0 : ∀ r ∈ ([(0, (.aload_n 0, 1)), (1, (.bipush 91, 2)), (3, (.invokevirtual 267, 3)), (6, (.ifCond .eq 11, 3)), (9, (.aload_n 0, 1)), (10, (.bipush 31, 2)), (12, (.invokevirtual 270, 3)), (15, (.iconst 1, 1)), (16, (.ireturn, 1)), (17, (.aload_n 0, 1)), (18, (.invokevirtual 273, 3)), (21, (.istore_n 1, 1)), (22, (.aload_n 0, 1)), (23, (.getfield 224, 3)), (26, (.iconst 2, 1)), (27, (.if_icmp .ne 18, 3)), (30, (.aload_n 0, 1)), (31, (.getfield 214, 3)), (34, (.ldc2_w 277, 3)), (37, (.lcmp, 1)), (38, (.ifCond .gt 7, 3)), (41, (.iconst 1, 1)), (42, (.goto 4, 3)), (45, (.iconst 0, 1)), (46, (.istore_n 2, 1)), (47, (.aload_n 0, 1)), (48, (.iload_n 1, 1)), (49, (.iconst (-1), 1)), (50, (.if_icmp .ne 7, 3)), (53, (.iload_n 2, 1)), (54, (.ifCond .eq 7, 3)), (57, (.iconst 1, 1)), (58, (.goto 4, 3)), (61, (.iconst 0, 1)), (62, (.iload_n 1, 1)), (63, (.iconst (-1), 1)), (64, (.if_icmp .ne 7, 3)), (67, (.iconst 0, 1)), (68, (.goto 4, 3)), (71, (.iload_n 1, 1))] : List (Nat × (Instr × Nat))), decode cX12_readPart r.1 = .ok r.2 := by decide +kernel
theorem dX12_readPart_0 : decode cX12_readPart 0 = .ok (.aload_n 0, 1) := dgX12_readPart_0 (0, (.aload_n 0, 1)) (List.mem_of_getElem? (i := 0) rfl)
theorem dX12_readPart_1 : decode cX12_readPart 1 = .ok (.bipush 91, 2) := dgX12_readPart_0 (1, (.bipush 91, 2)) (List.mem_of_getElem? (i := 1) rfl)
theorem dX12_readPart_3 : decode cX12_readPart 3 = .ok (.invokevirtual 267, 3) := dgX12_readPart_0 (3, (.invokevirtual 267, 3)) (List.mem_of_getElem? (i := 2) rfl)
theorem dX12_readPart_6 : decode cX12_readPart 6 = .ok (.ifCond .eq 11, 3) := dgX12_readPart_0 (6, (.ifCond .eq 11, 3)) (List.mem_of_getElem? (i := 3) rfl)
theorem dX12_readPart_9 : decode cX12_readPart 9 = .ok (.aload_n 0, 1) := dgX12_readPart_0 (9, (.aload_n 0, 1)) (List.mem_of_getElem? (i := 4) rfl)
theorem dX12_readPart_10 : decode cX12_readPart 10 = .ok (.bipush 31, 2) := dgX12_readPart_0 (10, (.bipush 31, 2)) (List.mem_of_getElem? (i := 5) rfl)
theorem dX12_readPart_12 : decode cX12_readPart 12 = .ok (.invokevirtual 270, 3) := dgX12_readPart_0 (12, (.invokevirtual 270, 3)) (List.mem_of_getElem? (i := 6) rfl)
theorem dX12_readPart_15 : decode cX12_readPart 15 = .ok (.iconst 1, 1) := dgX12_readPart_0 (15, (.iconst 1, 1)) (List.mem_of_getElem? (i := 7) rfl)
theorem dX12_readPart_16 : decode cX12_readPart 16 = .ok (.ireturn, 1) := dgX12_readPart_0 (16, (.ireturn, 1)) (List.mem_of_getElem? (i := 8) rfl)
theorem dX12_readPart_17 : decode cX12_readPart 17 = .ok (.aload_n 0, 1) := dgX12_readPart_0 (17, (.aload_n 0, 1)) (List.mem_of_getElem? (i := 9) rfl)
theorem dX12_readPart_18 : decode cX12_readPart 18 = .ok (.invokevirtual 273, 3) := dgX12_readPart_0 (18, (.invokevirtual 273, 3)) (List.mem_of_getElem? (i := 10) rfl)
theorem dX12_readPart_21 : decode cX12_readPart 21 = .ok (.istore_n 1, 1) := dgX12_readPart_0 (21, (.istore_n 1, 1)) (List.mem_of_getElem? (i := 11) rfl)
theorem dX12_readPart_22 : decode cX12_readPart 22 = .ok (.aload_n 0, 1) := dgX12_readPart_0 (22, (.aload_n 0, 1)) (List.mem_of_getElem? (i := 12) rfl)
theorem dX12_readPart_23 : decode cX12_readPart 23 = .ok (.getfield 224, 3) := dgX12_readPart_0 (23, (.getfield 224, 3)) (List.mem_of_getElem? (i := 13) rfl)
theorem dX12_readPart_26 : decode cX12_readPart 26 = .ok (.iconst 2, 1) := dgX12_readPart_0 (26, (.iconst 2, 1)) (List.mem_of_getElem? (i := 14) rfl)
theorem dX12_readPart_27 : decode cX12_readPart 27 = .ok (.if_icmp .ne 18, 3) := dgX12_readPart_0 (27, (.if_icmp .ne 18, 3)) (List.mem_of_getElem? (i := 15) rfl)
theorem dX12_readPart_30 : decode cX12_readPart 30 = .ok (.aload_n 0, 1) := dgX12_readPart_0 (30, (.aload_n 0, 1)) (List.mem_of_getElem? (i := 16) rfl)
theorem dX12_readPart_31 : decode cX12_readPart 31 = .ok (.getfield 214, 3) := dgX12_readPart_0 (31, (.getfield 214, 3)) (List.mem_of_getElem? (i := 17) rfl)
theorem dX12_readPart_34 : decode cX12_readPart 34 = .ok (.ldc2_w 277, 3) := dgX12_readPart_0 (34, (.ldc2_w 277, 3)) (List.mem_of_getElem? (i := 18) rfl)
theorem dX12_readPart_37 : decode cX12_readPart 37 = .ok (.lcmp, 1) := dgX12_readPart_0 (37, (.lcmp, 1)) (List.mem_of_getElem? (i := 19) rfl)
theorem dX12_readPart_38 : decode cX12_readPart 38 = .ok (.ifCond .gt 7, 3) := dgX12_readPart_0 (38, (.ifCond .gt 7, 3)) (List.mem_of_getElem? (i := 20) rfl)
theorem dX12_readPart_41 : decode cX12_readPart 41 = .ok (.iconst 1, 1) := dgX12_readPart_0 (41, (.iconst 1, 1)) (List.mem_of_getElem? (i := 21) rfl)
theorem dX12_readPart_42 : decode cX12_readPart 42 = .ok (.goto 4, 3) := dgX12_readPart_0 (42, (.goto 4, 3)) (List.mem_of_getElem? (i := 22) rfl)
theorem dX12_readPart_45 : decode cX12_readPart 45 = .ok (.iconst 0, 1) := dgX12_readPart_0 (45, (.iconst 0, 1)) (List.mem_of_getElem? (i := 23) rfl)
theorem dX12_readPart_46 : decode cX12_readPart 46 = .ok (.istore_n 2, 1) := dgX12_readPart_0 (46, (.istore_n 2, 1)) (List.mem_of_getElem? (i := 24) rfl)
theorem dX12_readPart_47 : decode cX12_readPart 47 = .ok (.aload_n 0, 1) := dgX12_readPart_0 (47, (.aload_n 0, 1)) (List.mem_of_getElem? (i := 25) rfl)
theorem dX12_readPart_48 : decode cX12_readPart 48 = .ok (.iload_n 1, 1) := dgX12_readPart_0 (48, (.iload_n 1, 1)) (List.mem_of_getElem? (i := 26) rfl)
theorem dX12_readPart_49 : decode cX12_readPart 49 = .ok (.iconst (-1), 1) := dgX12_readPart_0 (49, (.iconst (-1), 1)) (List.mem_of_getElem? (i := 27) rfl)
theorem dX12_readPart_50 : decode cX12_readPart 50 = .ok (.if_icmp .ne 7, 3) := dgX12_readPart_0 (50, (.if_icmp .ne 7, 3)) (List.mem_of_getElem? (i := 28) rfl)
theorem dX12_readPart_53 : decode cX12_readPart 53 = .ok (.iload_n 2, 1) := dgX12_readPart_0 (53, (.iload_n 2, 1)) (List.mem_of_getElem? (i := 29) rfl)
theorem dX12_readPart_54 : decode cX12_readPart 54 = .ok (.ifCond .eq 7, 3) := dgX12_readPart_0 (54, (.ifCond .eq 7, 3)) (List.mem_of_getElem? (i := 30) rfl)
theorem dX12_readPart_57 : decode cX12_readPart 57 = .ok (.iconst 1, 1) := dgX12_readPart_0 (57, (.iconst 1, 1)) (List.mem_of_getElem? (i := 31) rfl)
theorem dX12_readPart_58 : decode cX12_readPart 58 = .ok (.goto 4, 3) := dgX12_readPart_0 (58, (.goto 4, 3)) (List.mem_of_getElem? (i := 32) rfl)
theorem dX12_readPart_61 : decode cX12_readPart 61 = .ok (.iconst 0, 1) := dgX12_readPart_0 (61, (.iconst 0, 1)) (List.mem_of_getElem? (i := 33) rfl)
theorem dX12_readPart_62 : decode cX12_readPart 62 = .ok (.iload_n 1, 1) := dgX12_readPart_0 (62, (.iload_n 1, 1)) (List.mem_of_getElem? (i := 34) rfl)
theorem dX12_readPart_63 : decode cX12_readPart 63 = .ok (.iconst (-1), 1) := dgX12_readPart_0 (63, (.iconst (-1), 1)) (List.mem_of_getElem? (i := 35) rfl)
theorem dX12_readPart_64 : decode cX12_readPart 64 = .ok (.if_icmp .ne 7, 3) := dgX12_readPart_0 (64, (.if_icmp .ne 7, 3)) (List.mem_of_getElem? (i := 36) rfl)
theorem dX12_readPart_67 : decode cX12_readPart 67 = .ok (.iconst 0, 1) := dgX12_readPart_0 (67, (.iconst 0, 1)) (List.mem_of_getElem? (i := 37) rfl)
theorem dX12_readPart_68 : decode cX12_readPart 68 = .ok (.goto 4, 3) := dgX12_readPart_0 (68, (.goto 4, 3)) (List.mem_of_getElem? (i := 38) rfl)
theorem dX12_readPart_71 : decode cX12_readPart 71 = .ok (.iload_n 1, 1) := dgX12_readPart_0 (71, (.iload_n 1, 1)) (List.mem_of_getElem? (i := 39) rfl)
theorem dgX12_readPart_1 : ∀ r ∈ ([(72, (.iload_n 2, 1)), (73, (.ifCond .eq 11, 3)), (76, (.aload_n 0, 1)), (77, (.getfield 214, 3)), (80, (.l2i, 1)), (81, (.goto 4, 3)), (84, (.iconst 0, 1)), (85, (.invokevirtual 279, 3)), (88, (.iconst 3, 1)), (89, (.ireturn, 1))] : List (Nat × (Instr × Nat))), decode cX12_readPart r.1 = .ok r.2 := by decide +kernel
theorem dX12_readPart_72 : decode cX12_readPart 72 = .ok (.iload_n 2, 1) := dgX12_readPart_1 (72, (.iload_n 2, 1)) (List.mem_of_getElem? (i := 0) rfl)
theorem dX12_readPart_73 : decode cX12_readPart 73 = .ok (.ifCond .eq 11, 3) := dgX12_readPart_1 (73, (.ifCond .eq 11, 3)) (List.mem_of_getElem? (i := 1) rfl)
theorem dX12_readPart_76 : decode cX12_readPart 76 = .ok (.aload_n 0, 1) := dgX12_readPart_1 (76, (.aload_n 0, 1)) (List.mem_of_getElem? (i := 2) rfl)
theorem dX12_readPart_77 : decode cX12_readPart 77 = .ok (.getfield 214, 3) := dgX12_readPart_1 (77, (.getfield 214, 3)) (List.mem_of_getElem? (i := 3) rfl)
theorem dX12_readPart_80 : decode cX12_readPart 80 = .ok (.l2i, 1) := dgX12_readPart_1 (80, (.l2i, 1)) (List.mem_of_getElem? (i := 4) rfl)
theorem dX12_readPart_81 : decode cX12_readPart 81 = .ok (.goto 4, 3) := dgX12_readPart_1 (81, (.goto 4, 3)) (List.mem_of_getElem? (i := 5) rfl)
theorem dX12_readPart_84 : decode cX12_readPart 84 = .ok (.iconst 0, 1) := dgX12_readPart_1 (84, (.iconst 0, 1)) (List.mem_of_getElem? (i := 6) rfl)
theorem dX12_readPart_85 : decode cX12_readPart 85 = .ok (.invokevirtual 279, 3) := dgX12_readPart_1 (85, (.invokevirtual 279, 3)) (List.mem_of_getElem? (i := 7) rfl)
theorem dX12_readPart_88 : decode cX12_readPart 88 = .ok (.iconst 3, 1) := dgX12_readPart_1 (88, (.iconst 3, 1)) (List.mem_of_getElem? (i := 8) rfl)
theorem dX12_readPart_89 : decode cX12_readPart 89 = .ok (.ireturn, 1) := dgX12_readPart_1 (89, (.ireturn, 1)) (List.mem_of_getElem? (i := 9) rfl)
theorem ml_X12_267 : Cond.methodLink RX12 267 yX12_isSign ∈ tblG := tg 1542 (by decide +kernel) (by decide +kernel)
theorem im_X12_isSign : Cond.instanceMethod yX12_isSign ∈ tblG := tg 1544 (by decide +kernel) (by decide +kernel)
theorem se_X12_isSign : Cond.selects RX12 yX12_isSign yX12_isSign ∈ tblG := tg 51 (by decide +kernel) (by decide +kernel)
theorem cd_X12_isSign : Cond.code yX12_isSign cX12_isSign 2 (some .boolean) ∈ tblG := tg 1545 (by decide +kernel) (by decide +kernel)
theorem gW_X12_isSign : GoodIn tblG (wsG yX12_isSign cX12_isSign 2 (some .boolean)) := tgi cd_X12_isSign
theorem gV_X12_267 : GoodIn tblG (wsV RX12 267 RX12 yX12_isSign (wsG yX12_isSign cX12_isSign 2 (some .boolean))) := tgV ml_X12_267 im_X12_isSign se_X12_isSign ini_X12 gW_X12_isSign
theorem hv_X12_isSign : yX12_isSign.cls = RX12 ∧ yX12_isSign.cls ≠ "java/lang/invoke/MethodHandle" ∧ yX12_isSign.cls ≠ "java/lang/invoke/VarHandle" ∧ (parseMethodDescriptor yX12_isSign.desc).map (fun d => d.parameters.length) = some 1 := by decide +kernel
theorem ml_X12_270 : Cond.methodLink RX12 270 yX12_openBracket ∈ tblG := tg 1546 (by decide +kernel) (by decide +kernel)
theorem im_X12_openBracket : Cond.instanceMethod yX12_openBracket ∈ tblG := tg 1548 (by decide +kernel) (by decide +kernel)
theorem se_X12_openBracket : Cond.selects RX12 yX12_openBracket yX12_openBracket ∈ tblG := tg 52 (by decide +kernel) (by decide +kernel)
theorem cd_X12_openBracket : Cond.code yX12_openBracket cX12_openBracket 2 none ∈ tblG := tg 1549 (by decide +kernel) (by decide +kernel)
theorem gW_X12_openBracket : GoodIn tblG (wsG yX12_openBracket cX12_openBracket 2 none) := tgi cd_X12_openBracket
theorem gV_X12_270 : GoodIn tblG (wsV RX12 270 RX12 yX12_openBracket (wsG yX12_openBracket cX12_openBracket 2 none)) := tgV ml_X12_270 im_X12_openBracket se_X12_openBracket ini_X12 gW_X12_openBracket
theorem hv_X12_openBracket : yX12_openBracket.cls = RX12 ∧ yX12_openBracket.cls ≠ "java/lang/invoke/MethodHandle" ∧ yX12_openBracket.cls ≠ "java/lang/invoke/VarHandle" ∧ (parseMethodDescriptor yX12_openBracket.desc).map (fun d => d.parameters.length) = some 1 := by decide +kernel
theorem ml_X12_273 : Cond.methodLink RX12 273 yX12_partAt ∈ tblG := tg 1554 (by decide +kernel) (by decide +kernel)
theorem im_X12_partAt : Cond.instanceMethod yX12_partAt ∈ tblG := tg 1556 (by decide +kernel) (by decide +kernel)
theorem se_X12_partAt : Cond.selects RX12 yX12_partAt yX12_partAt ∈ tblG := tg 54 (by decide +kernel) (by decide +kernel)
theorem cd_X12_partAt : Cond.code yX12_partAt cX12_partAt 3 (some .int) ∈ tblG := tg 1557 (by decide +kernel) (by decide +kernel)
theorem gW_X12_partAt : GoodIn tblG (wsG yX12_partAt cX12_partAt 3 (some .int)) := tgi cd_X12_partAt
theorem gV_X12_273 : GoodIn tblG (wsV RX12 273 RX12 yX12_partAt (wsG yX12_partAt cX12_partAt 3 (some .int))) := tgV ml_X12_273 im_X12_partAt se_X12_partAt ini_X12 gW_X12_partAt
theorem hv_X12_partAt : yX12_partAt.cls = RX12 ∧ yX12_partAt.cls ≠ "java/lang/invoke/MethodHandle" ∧ yX12_partAt.cls ≠ "java/lang/invoke/VarHandle" ∧ (parseMethodDescriptor yX12_partAt.desc).map (fun d => d.parameters.length) = some 0 := by decide +kernel
theorem ml_X12_279 : Cond.methodLink RX12 279 yX12_leaf ∈ tblG := tg 1559 (by decide +kernel) (by decide +kernel)
theorem im_X12_leaf : Cond.instanceMethod yX12_leaf ∈ tblG := tg 1561 (by decide +kernel) (by decide +kernel)
theorem se_X12_leaf : Cond.selects RX12 yX12_leaf yX12_leaf ∈ tblG := tg 55 (by decide +kernel) (by decide +kernel)
theorem cd_X12_leaf : Cond.code yX12_leaf cX12_leaf 4 none ∈ tblG := tg 1562 (by decide +kernel) (by decide +kernel)
theorem gW_X12_leaf : GoodIn tblG (wsG yX12_leaf cX12_leaf 4 none) := tgi cd_X12_leaf
theorem gV_X12_279 : GoodIn tblG (wsV RX12 279 RX12 yX12_leaf (wsG yX12_leaf cX12_leaf 4 none)) := tgV ml_X12_279 im_X12_leaf se_X12_leaf ini_X12 gW_X12_leaf
theorem hv_X12_leaf : yX12_leaf.cls = RX12 ∧ yX12_leaf.cls ≠ "java/lang/invoke/MethodHandle" ∧ yX12_leaf.cls ≠ "java/lang/invoke/VarHandle" ∧ (parseMethodDescriptor yX12_leaf.desc).map (fun d => d.parameters.length) = some 3 := by decide +kernel
theorem kl_X12_277 : Cond.constantLong RX12 277 1000 ∈ tblG := tg 1558 (by decide +kernel) (by decide +kernel)
