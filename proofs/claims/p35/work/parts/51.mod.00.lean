set_option maxHeartbeats 4000000 in
set_option maxRecDepth 100000 in
theorem n_isSmallX (l : Launch) (G : g5_G) (sz : Nat) (p_0 : Int32) : Met l yX12_isSmall (wsG yX12_isSmall cX12_isSmall 1 (some .boolean)) ({ frames := 0, cells := 0, slots := 0, locals := 0 }) (va_Pc [.int p_0] (g5_P G [] sz)) (va_Qi (fun (r : Int32) (u : va_W) => ((97 ≤ p_0.toInt ∧ p_0.toInt ≤ 122) ∧ (r = 1) ∧ (u = [])) ∨ ((p_0.toInt < 97 ∨ 122 < p_0.toInt) ∧ (r = 0) ∧ (u = []))) (g5_B G (va_A [] sz)) (va_A [] sz)) 0 0 (va_A [] sz) := by
  refine Met.ofW (cc := cX12_isSmall) (maxL := 1) (ret := (some .boolean)) (by decide) rfl ?_
  intro p e s m args below meth c s₁ B hml hv
  obtain ⟨rfl, hsz, hP, hK, hD0, hN, hT⟩ := hv
  have hx := B.exec
  have hb := B.bytes
  have hr := B.returns
  have hts : ∀ w ∈ tblG, w.before _ s = true := fun w h => atoms_spec (ws := (wsG yX12_isSmall cX12_isSmall 1 (some .boolean))) B.pre w (List.mem_cons_of_mem _ h)
  have hown : s.vm.findClass RX12 = some m.cls := findClass_of_methodNamed B.named
  have hlocks := B.notSynchronized
  subst hsz
  have hD := hD0.self (sz := s.heap.size)
  generalize hAe : va_A [] s.heap.size = A at hD hT ⊢
  have hA : ∀ q : Nat, s.heap.size ≤ q → A q := fun q h => by rw [← hAe]; exact Or.inr h
  have hS : va_S A s.heap s.heap [] := va_S.rf
  have hP : va_P G.1 vwCl [] s.heap := hP
  have hl := lv_entry ([.int p_0]) (n := 1) (Nat.le_of_ble_eq_true rfl)
  rw [lg_entry_eq]
  generalize (lg_sl ([.int p_0]) ++ List.replicate (1 - (lg_sl ([.int p_0])).length) Slot.unset).toArray = ls at hl ⊢
  have hl : lv_has ls 1 [(0, .int p_0)] := hl
  refine lv_iload_n hx hb dX12_isSmall_0 rfl (lv_at hl 0 rfl) ?_
  refine lv_bipush (v := 97) hx hb dX12_isSmall_1 (by decide) ?_
  refine lv_icmp_lt (tgt := 16) hx hb dX12_isSmall_3 (by decide) (fun c_1 => ?_) (fun c_1 => ?_)
  ·
    have i_1 : p_0.toInt < 97 := by have z := g5_lt (a := p_0.toInt) (b := 97) (by rfl) (by decide) c_1; omega
    refine lv_iconst (v := 0) hx hb dX12_isSmall_16 (by decide) ?_
    exact W.zret (v := 0) hx hb hr rfl (fun t ht hW => ⟨⟨0, [], rfl, Or.inr (⟨by omega, rfl, rfl⟩), by rw [ht]; exact hP.sub [] rfl, hD.sub [] (by decide) rfl⟩, hS.F ht⟩) hS.2.2 dX12_isSmall_17
  ·
    have i_1 : p_0.toInt ≥ 97 := by have z := g5_ltN (a := p_0.toInt) (b := 97) (by rfl) (by decide) c_1; omega
    refine lv_iload_n hx hb dX12_isSmall_6 rfl (lv_at hl 0 rfl) ?_
    refine lv_bipush (v := 122) hx hb dX12_isSmall_7 (by decide) ?_
    refine lv_icmp_gt (tgt := 16) hx hb dX12_isSmall_9 (by decide) (fun c_2 => ?_) (fun c_2 => ?_)
    ·
      have i_2 : p_0.toInt > 122 := by have z := g5_gt (a := p_0.toInt) (b := 122) (by rfl) (by decide) c_2; omega
      refine lv_iconst (v := 0) hx hb dX12_isSmall_16 (by decide) ?_
      exact W.zret (v := 0) hx hb hr rfl (fun t ht hW => ⟨⟨0, [], rfl, Or.inr (⟨by omega, rfl, rfl⟩), by rw [ht]; exact hP.sub [] rfl, hD.sub [] (by decide) rfl⟩, hS.F ht⟩) hS.2.2 dX12_isSmall_17
    ·
      have i_2 : p_0.toInt ≤ 122 := by have z := g5_gtN (a := p_0.toInt) (b := 122) (by rfl) (by decide) c_2; omega
      refine lv_iconst (v := 1) hx hb dX12_isSmall_12 (by decide) ?_
      refine lv_goto (tgt := 17) hx hb dX12_isSmall_13 (by decide) ?_
      exact W.zret (v := 1) hx hb hr rfl (fun t ht hW => ⟨⟨1, [], rfl, Or.inl (⟨by omega, rfl, rfl⟩), by rw [ht]; exact hP.sub [] rfl, hD.sub [] (by decide) rfl⟩, hS.F ht⟩) hS.2.2 dX12_isSmall_17
set_option maxHeartbeats 4000000 in
set_option maxRecDepth 100000 in
theorem n_isDigitX (l : Launch) (G : g5_G) (sz : Nat) (p_0 : Int32) : Met l yX12_isDigit (wsG yX12_isDigit cX12_isDigit 1 (some .boolean)) ({ frames := 0, cells := 0, slots := 0, locals := 0 }) (va_Pc [.int p_0] (g5_P G [] sz)) (va_Qi (fun (r : Int32) (u : va_W) => ((48 ≤ p_0.toInt ∧ p_0.toInt ≤ 57) ∧ (r = 1) ∧ (u = [])) ∨ ((p_0.toInt < 48 ∨ 57 < p_0.toInt) ∧ (r = 0) ∧ (u = []))) (g5_B G (va_A [] sz)) (va_A [] sz)) 0 0 (va_A [] sz) := by
  refine Met.ofW (cc := cX12_isDigit) (maxL := 1) (ret := (some .boolean)) (by decide) rfl ?_
  intro p e s m args below meth c s₁ B hml hv
  obtain ⟨rfl, hsz, hP, hK, hD0, hN, hT⟩ := hv
  have hx := B.exec
  have hb := B.bytes
  have hr := B.returns
  have hts : ∀ w ∈ tblG, w.before _ s = true := fun w h => atoms_spec (ws := (wsG yX12_isDigit cX12_isDigit 1 (some .boolean))) B.pre w (List.mem_cons_of_mem _ h)
  have hown : s.vm.findClass RX12 = some m.cls := findClass_of_methodNamed B.named
  have hlocks := B.notSynchronized
  subst hsz
  have hD := hD0.self (sz := s.heap.size)
  generalize hAe : va_A [] s.heap.size = A at hD hT ⊢
  have hA : ∀ q : Nat, s.heap.size ≤ q → A q := fun q h => by rw [← hAe]; exact Or.inr h
  have hS : va_S A s.heap s.heap [] := va_S.rf
  have hP : va_P G.1 vwCl [] s.heap := hP
  have hl := lv_entry ([.int p_0]) (n := 1) (Nat.le_of_ble_eq_true rfl)
  rw [lg_entry_eq]
  generalize (lg_sl ([.int p_0]) ++ List.replicate (1 - (lg_sl ([.int p_0])).length) Slot.unset).toArray = ls at hl ⊢
  have hl : lv_has ls 1 [(0, .int p_0)] := hl
  refine lv_iload_n hx hb dX12_isDigit_0 rfl (lv_at hl 0 rfl) ?_
  refine lv_bipush (v := 48) hx hb dX12_isDigit_1 (by decide) ?_
  refine lv_icmp_lt (tgt := 16) hx hb dX12_isDigit_3 (by decide) (fun c_1 => ?_) (fun c_1 => ?_)
  ·
    have i_1 : p_0.toInt < 48 := by have z := g5_lt (a := p_0.toInt) (b := 48) (by rfl) (by decide) c_1; omega
    refine lv_iconst (v := 0) hx hb dX12_isDigit_16 (by decide) ?_
    exact W.zret (v := 0) hx hb hr rfl (fun t ht hW => ⟨⟨0, [], rfl, Or.inr (⟨by omega, rfl, rfl⟩), by rw [ht]; exact hP.sub [] rfl, hD.sub [] (by decide) rfl⟩, hS.F ht⟩) hS.2.2 dX12_isDigit_17
  ·
    have i_1 : p_0.toInt ≥ 48 := by have z := g5_ltN (a := p_0.toInt) (b := 48) (by rfl) (by decide) c_1; omega
    refine lv_iload_n hx hb dX12_isDigit_6 rfl (lv_at hl 0 rfl) ?_
    refine lv_bipush (v := 57) hx hb dX12_isDigit_7 (by decide) ?_
    refine lv_icmp_gt (tgt := 16) hx hb dX12_isDigit_9 (by decide) (fun c_2 => ?_) (fun c_2 => ?_)
    ·
      have i_2 : p_0.toInt > 57 := by have z := g5_gt (a := p_0.toInt) (b := 57) (by rfl) (by decide) c_2; omega
      refine lv_iconst (v := 0) hx hb dX12_isDigit_16 (by decide) ?_
      exact W.zret (v := 0) hx hb hr rfl (fun t ht hW => ⟨⟨0, [], rfl, Or.inr (⟨by omega, rfl, rfl⟩), by rw [ht]; exact hP.sub [] rfl, hD.sub [] (by decide) rfl⟩, hS.F ht⟩) hS.2.2 dX12_isDigit_17
    ·
      have i_2 : p_0.toInt ≤ 57 := by have z := g5_gtN (a := p_0.toInt) (b := 57) (by rfl) (by decide) c_2; omega
      refine lv_iconst (v := 1) hx hb dX12_isDigit_12 (by decide) ?_
      refine lv_goto (tgt := 17) hx hb dX12_isDigit_13 (by decide) ?_
      exact W.zret (v := 1) hx hb hr rfl (fun t ht hW => ⟨⟨1, [], rfl, Or.inl (⟨by omega, rfl, rfl⟩), by rw [ht]; exact hP.sub [] rfl, hD.sub [] (by decide) rfl⟩, hS.F ht⟩) hS.2.2 dX12_isDigit_17
theorem dgX12_next_0 : ∀ r ∈ ([(0, (.aload_n 0, 1)), (1, (.aload_n 0, 1)), (2, (.getfield 202, 3)), (5, (.putfield 211, 3)), (8, (.aload_n 0, 1)), (9, (.getfield 211, 3)), (12, (.aload_n 0, 1)), (13, (.getfield 192, 3)), (16, (.if_icmp .ge 30, 3)), (19, (.aload_n 0, 1)), (20, (.getfield 23, 3)), (23, (.aload_n 0, 1)), (24, (.getfield 211, 3)), (27, (.iaload, 1)), (28, (.bipush 32, 2)), (30, (.if_icmp .ne 16, 3)), (33, (.aload_n 0, 1)), (34, (.dup, 1)), (35, (.getfield 211, 3)), (38, (.iconst 1, 1)), (39, (.iadd, 1)), (40, (.putfield 211, 3)), (43, (.goto (-35), 3)), (46, (.aload_n 0, 1)), (47, (.aload_n 0, 1)), (48, (.getfield 211, 3)), (51, (.putfield 202, 3)), (54, (.aload_n 0, 1)), (55, (.lconst 0, 1)), (56, (.putfield 214, 3)), (59, (.aload_n 0, 1)), (60, (.aload_n 0, 1)), (61, (.getfield 211, 3)), (64, (.aload_n 0, 1)), (65, (.getfield 192, 3)), (68, (.if_icmp .ne 7, 3)), (71, (.iconst 0, 1)), (72, (.goto 42, 3)), (75, (.aload_n 0, 1)), (76, (.getfield 23, 3))] : List (Nat × (Instr × Nat))), decode cX12_next r.1 = .ok r.2 := by decide +kernel
theorem dX12_next_0 : decode cX12_next 0 = .ok (.aload_n 0, 1) := dgX12_next_0 (0, (.aload_n 0, 1)) (List.mem_of_getElem? (i := 0) rfl)
theorem dX12_next_1 : decode cX12_next 1 = .ok (.aload_n 0, 1) := dgX12_next_0 (1, (.aload_n 0, 1)) (List.mem_of_getElem? (i := 1) rfl)
theorem dX12_next_2 : decode cX12_next 2 = .ok (.getfield 202, 3) := dgX12_next_0 (2, (.getfield 202, 3)) (List.mem_of_getElem? (i := 2) rfl)
theorem dX12_next_5 : decode cX12_next 5 = .ok (.putfield 211, 3) := dgX12_next_0 (5, (.putfield 211, 3)) (List.mem_of_getElem? (i := 3) rfl)
theorem dX12_next_8 : decode cX12_next 8 = .ok (.aload_n 0, 1) := dgX12_next_0 (8, (.aload_n 0, 1)) (List.mem_of_getElem? (i := 4) rfl)
theorem dX12_next_9 : decode cX12_next 9 = .ok (.getfield 211, 3) := dgX12_next_0 (9, (.getfield 211, 3)) (List.mem_of_getElem? (i := 5) rfl)
theorem dX12_next_12 : decode cX12_next 12 = .ok (.aload_n 0, 1) := dgX12_next_0 (12, (.aload_n 0, 1)) (List.mem_of_getElem? (i := 6) rfl)
theorem dX12_next_13 : decode cX12_next 13 = .ok (.getfield 192, 3) := dgX12_next_0 (13, (.getfield 192, 3)) (List.mem_of_getElem? (i := 7) rfl)
theorem dX12_next_16 : decode cX12_next 16 = .ok (.if_icmp .ge 30, 3) := dgX12_next_0 (16, (.if_icmp .ge 30, 3)) (List.mem_of_getElem? (i := 8) rfl)
theorem dX12_next_19 : decode cX12_next 19 = .ok (.aload_n 0, 1) := dgX12_next_0 (19, (.aload_n 0, 1)) (List.mem_of_getElem? (i := 9) rfl)
theorem dX12_next_20 : decode cX12_next 20 = .ok (.getfield 23, 3) := dgX12_next_0 (20, (.getfield 23, 3)) (List.mem_of_getElem? (i := 10) rfl)
theorem dX12_next_23 : decode cX12_next 23 = .ok (.aload_n 0, 1) := dgX12_next_0 (23, (.aload_n 0, 1)) (List.mem_of_getElem? (i := 11) rfl)
theorem dX12_next_24 : decode cX12_next 24 = .ok (.getfield 211, 3) := dgX12_next_0 (24, (.getfield 211, 3)) (List.mem_of_getElem? (i := 12) rfl)
theorem dX12_next_27 : decode cX12_next 27 = .ok (.iaload, 1) := dgX12_next_0 (27, (.iaload, 1)) (List.mem_of_getElem? (i := 13) rfl)
theorem dX12_next_28 : decode cX12_next 28 = .ok (.bipush 32, 2) := dgX12_next_0 (28, (.bipush 32, 2)) (List.mem_of_getElem? (i := 14) rfl)
theorem dX12_next_30 : decode cX12_next 30 = .ok (.if_icmp .ne 16, 3) := dgX12_next_0 (30, (.if_icmp .ne 16, 3)) (List.mem_of_getElem? (i := 15) rfl)
theorem dX12_next_33 : decode cX12_next 33 = .ok (.aload_n 0, 1) := dgX12_next_0 (33, (.aload_n 0, 1)) (List.mem_of_getElem? (i := 16) rfl)
theorem dX12_next_34 : decode cX12_next 34 = .ok (.dup, 1) := dgX12_next_0 (34, (.dup, 1)) (List.mem_of_getElem? (i := 17) rfl)
theorem dX12_next_35 : decode cX12_next 35 = .ok (.getfield 211, 3) := dgX12_next_0 (35, (.getfield 211, 3)) (List.mem_of_getElem? (i := 18) rfl)
theorem dX12_next_38 : decode cX12_next 38 = .ok (.iconst 1, 1) := dgX12_next_0 (38, (.iconst 1, 1)) (List.mem_of_getElem? (i := 19) rfl)
theorem dX12_next_39 : decode cX12_next 39 = .ok (.iadd, 1) := dgX12_next_0 (39, (.iadd, 1)) (List.mem_of_getElem? (i := 20) rfl)
theorem dX12_next_40 : decode cX12_next 40 = .ok (.putfield 211, 3) := dgX12_next_0 (40, (.putfield 211, 3)) (List.mem_of_getElem? (i := 21) rfl)
theorem dX12_next_43 : decode cX12_next 43 = .ok (.goto (-35), 3) := dgX12_next_0 (43, (.goto (-35), 3)) (List.mem_of_getElem? (i := 22) rfl)
theorem dX12_next_46 : decode cX12_next 46 = .ok (.aload_n 0, 1) := dgX12_next_0 (46, (.aload_n 0, 1)) (List.mem_of_getElem? (i := 23) rfl)
theorem dX12_next_47 : decode cX12_next 47 = .ok (.aload_n 0, 1) := dgX12_next_0 (47, (.aload_n 0, 1)) (List.mem_of_getElem? (i := 24) rfl)
theorem dX12_next_48 : decode cX12_next 48 = .ok (.getfield 211, 3) := dgX12_next_0 (48, (.getfield 211, 3)) (List.mem_of_getElem? (i := 25) rfl)
theorem dX12_next_51 : decode cX12_next 51 = .ok (.putfield 202, 3) := dgX12_next_0 (51, (.putfield 202, 3)) (List.mem_of_getElem? (i := 26) rfl)
theorem dX12_next_54 : decode cX12_next 54 = .ok (.aload_n 0, 1) := dgX12_next_0 (54, (.aload_n 0, 1)) (List.mem_of_getElem? (i := 27) rfl)
theorem dX12_next_55 : decode cX12_next 55 = .ok (.lconst 0, 1) := dgX12_next_0 (55, (.lconst 0, 1)) (List.mem_of_getElem? (i := 28) rfl)
theorem dX12_next_56 : decode cX12_next 56 = .ok (.putfield 214, 3) := dgX12_next_0 (56, (.putfield 214, 3)) (List.mem_of_getElem? (i := 29) rfl)
theorem dX12_next_59 : decode cX12_next 59 = .ok (.aload_n 0, 1) := dgX12_next_0 (59, (.aload_n 0, 1)) (List.mem_of_getElem? (i := 30) rfl)
theorem dX12_next_60 : decode cX12_next 60 = .ok (.aload_n 0, 1) := dgX12_next_0 (60, (.aload_n 0, 1)) (List.mem_of_getElem? (i := 31) rfl)
theorem dX12_next_61 : decode cX12_next 61 = .ok (.getfield 211, 3) := dgX12_next_0 (61, (.getfield 211, 3)) (List.mem_of_getElem? (i := 32) rfl)
theorem dX12_next_64 : decode cX12_next 64 = .ok (.aload_n 0, 1) := dgX12_next_0 (64, (.aload_n 0, 1)) (List.mem_of_getElem? (i := 33) rfl)
theorem dX12_next_65 : decode cX12_next 65 = .ok (.getfield 192, 3) := dgX12_next_0 (65, (.getfield 192, 3)) (List.mem_of_getElem? (i := 34) rfl)
theorem dX12_next_68 : decode cX12_next 68 = .ok (.if_icmp .ne 7, 3) := dgX12_next_0 (68, (.if_icmp .ne 7, 3)) (List.mem_of_getElem? (i := 35) rfl)
theorem dX12_next_71 : decode cX12_next 71 = .ok (.iconst 0, 1) := dgX12_next_0 (71, (.iconst 0, 1)) (List.mem_of_getElem? (i := 36) rfl)
theorem dX12_next_72 : decode cX12_next 72 = .ok (.goto 42, 3) := dgX12_next_0 (72, (.goto 42, 3)) (List.mem_of_getElem? (i := 37) rfl)
theorem dX12_next_75 : decode cX12_next 75 = .ok (.aload_n 0, 1) := dgX12_next_0 (75, (.aload_n 0, 1)) (List.mem_of_getElem? (i := 38) rfl)
theorem dX12_next_76 : decode cX12_next 76 = .ok (.getfield 23, 3) := dgX12_next_0 (76, (.getfield 23, 3)) (List.mem_of_getElem? (i := 39) rfl)
theorem dgX12_next_1 : ∀ r ∈ ([(79, (.aload_n 0, 1)), (80, (.getfield 211, 3)), (83, (.iaload, 1)), (84, (.invokestatic 218, 3)), (87, (.ifCond .eq 7, 3)), (90, (.iconst 1, 1)), (91, (.goto 23, 3)), (94, (.aload_n 0, 1)), (95, (.getfield 23, 3)), (98, (.aload_n 0, 1)), (99, (.getfield 211, 3)), (102, (.iaload, 1)), (103, (.invokestatic 221, 3)), (106, (.ifCond .eq 7, 3)), (109, (.iconst 2, 1)), (110, (.goto 4, 3)), (113, (.iconst 3, 1)), (114, (.putfield 224, 3)), (117, (.aload_n 0, 1)), (118, (.getfield 224, 3)), (121, (.iconst 3, 1)), (122, (.if_icmp .ne 27, 3)), (125, (.aload_n 0, 1)), (126, (.aload_n 0, 1)), (127, (.getfield 23, 3)), (130, (.aload_n 0, 1)), (131, (.getfield 211, 3)), (134, (.iaload, 1)), (135, (.i2l, 1)), (136, (.putfield 214, 3)), (139, (.aload_n 0, 1)), (140, (.dup, 1)), (141, (.getfield 202, 3)), (144, (.iconst 1, 1)), (145, (.iadd, 1)), (146, (.putfield 202, 3)), (149, (.aload_n 0, 1)), (150, (.getfield 224, 3)), (153, (.iconst 1, 1)), (154, (.if_icmp .ne 89, 3))] : List (Nat × (Instr × Nat))), decode cX12_next r.1 = .ok r.2 := by decide +kernel
theorem dX12_next_79 : decode cX12_next 79 = .ok (.aload_n 0, 1) := dgX12_next_1 (79, (.aload_n 0, 1)) (List.mem_of_getElem? (i := 0) rfl)
theorem dX12_next_80 : decode cX12_next 80 = .ok (.getfield 211, 3) := dgX12_next_1 (80, (.getfield 211, 3)) (List.mem_of_getElem? (i := 1) rfl)
theorem dX12_next_83 : decode cX12_next 83 = .ok (.iaload, 1) := dgX12_next_1 (83, (.iaload, 1)) (List.mem_of_getElem? (i := 2) rfl)
theorem dX12_next_84 : decode cX12_next 84 = .ok (.invokestatic 218, 3) := dgX12_next_1 (84, (.invokestatic 218, 3)) (List.mem_of_getElem? (i := 3) rfl)
theorem dX12_next_87 : decode cX12_next 87 = .ok (.ifCond .eq 7, 3) := dgX12_next_1 (87, (.ifCond .eq 7, 3)) (List.mem_of_getElem? (i := 4) rfl)
theorem dX12_next_90 : decode cX12_next 90 = .ok (.iconst 1, 1) := dgX12_next_1 (90, (.iconst 1, 1)) (List.mem_of_getElem? (i := 5) rfl)
theorem dX12_next_91 : decode cX12_next 91 = .ok (.goto 23, 3) := dgX12_next_1 (91, (.goto 23, 3)) (List.mem_of_getElem? (i := 6) rfl)
theorem dX12_next_94 : decode cX12_next 94 = .ok (.aload_n 0, 1) := dgX12_next_1 (94, (.aload_n 0, 1)) (List.mem_of_getElem? (i := 7) rfl)
theorem dX12_next_95 : decode cX12_next 95 = .ok (.getfield 23, 3) := dgX12_next_1 (95, (.getfield 23, 3)) (List.mem_of_getElem? (i := 8) rfl)
theorem dX12_next_98 : decode cX12_next 98 = .ok (.aload_n 0, 1) := dgX12_next_1 (98, (.aload_n 0, 1)) (List.mem_of_getElem? (i := 9) rfl)
theorem dX12_next_99 : decode cX12_next 99 = .ok (.getfield 211, 3) := dgX12_next_1 (99, (.getfield 211, 3)) (List.mem_of_getElem? (i := 10) rfl)
theorem dX12_next_102 : decode cX12_next 102 = .ok (.iaload, 1) := dgX12_next_1 (102, (.iaload, 1)) (List.mem_of_getElem? (i := 11) rfl)
theorem dX12_next_103 : decode cX12_next 103 = .ok (.invokestatic 221, 3) := dgX12_next_1 (103, (.invokestatic 221, 3)) (List.mem_of_getElem? (i := 12) rfl)
theorem dX12_next_106 : decode cX12_next 106 = .ok (.ifCond .eq 7, 3) := dgX12_next_1 (106, (.ifCond .eq 7, 3)) (List.mem_of_getElem? (i := 13) rfl)
theorem dX12_next_109 : decode cX12_next 109 = .ok (.iconst 2, 1) := dgX12_next_1 (109, (.iconst 2, 1)) (List.mem_of_getElem? (i := 14) rfl)
theorem dX12_next_110 : decode cX12_next 110 = .ok (.goto 4, 3) := dgX12_next_1 (110, (.goto 4, 3)) (List.mem_of_getElem? (i := 15) rfl)
theorem dX12_next_113 : decode cX12_next 113 = .ok (.iconst 3, 1) := dgX12_next_1 (113, (.iconst 3, 1)) (List.mem_of_getElem? (i := 16) rfl)
theorem dX12_next_114 : decode cX12_next 114 = .ok (.putfield 224, 3) := dgX12_next_1 (114, (.putfield 224, 3)) (List.mem_of_getElem? (i := 17) rfl)
theorem dX12_next_117 : decode cX12_next 117 = .ok (.aload_n 0, 1) := dgX12_next_1 (117, (.aload_n 0, 1)) (List.mem_of_getElem? (i := 18) rfl)
theorem dX12_next_118 : decode cX12_next 118 = .ok (.getfield 224, 3) := dgX12_next_1 (118, (.getfield 224, 3)) (List.mem_of_getElem? (i := 19) rfl)
theorem dX12_next_121 : decode cX12_next 121 = .ok (.iconst 3, 1) := dgX12_next_1 (121, (.iconst 3, 1)) (List.mem_of_getElem? (i := 20) rfl)
theorem dX12_next_122 : decode cX12_next 122 = .ok (.if_icmp .ne 27, 3) := dgX12_next_1 (122, (.if_icmp .ne 27, 3)) (List.mem_of_getElem? (i := 21) rfl)
theorem dX12_next_125 : decode cX12_next 125 = .ok (.aload_n 0, 1) := dgX12_next_1 (125, (.aload_n 0, 1)) (List.mem_of_getElem? (i := 22) rfl)
theorem dX12_next_126 : decode cX12_next 126 = .ok (.aload_n 0, 1) := dgX12_next_1 (126, (.aload_n 0, 1)) (List.mem_of_getElem? (i := 23) rfl)
theorem dX12_next_127 : decode cX12_next 127 = .ok (.getfield 23, 3) := dgX12_next_1 (127, (.getfield 23, 3)) (List.mem_of_getElem? (i := 24) rfl)
theorem dX12_next_130 : decode cX12_next 130 = .ok (.aload_n 0, 1) := dgX12_next_1 (130, (.aload_n 0, 1)) (List.mem_of_getElem? (i := 25) rfl)
theorem dX12_next_131 : decode cX12_next 131 = .ok (.getfield 211, 3) := dgX12_next_1 (131, (.getfield 211, 3)) (List.mem_of_getElem? (i := 26) rfl)
theorem dX12_next_134 : decode cX12_next 134 = .ok (.iaload, 1) := dgX12_next_1 (134, (.iaload, 1)) (List.mem_of_getElem? (i := 27) rfl)
theorem dX12_next_135 : decode cX12_next 135 = .ok (.i2l, 1) := dgX12_next_1 (135, (.i2l, 1)) (List.mem_of_getElem? (i := 28) rfl)
theorem dX12_next_136 : decode cX12_next 136 = .ok (.putfield 214, 3) := dgX12_next_1 (136, (.putfield 214, 3)) (List.mem_of_getElem? (i := 29) rfl)
theorem dX12_next_139 : decode cX12_next 139 = .ok (.aload_n 0, 1) := dgX12_next_1 (139, (.aload_n 0, 1)) (List.mem_of_getElem? (i := 30) rfl)
theorem dX12_next_140 : decode cX12_next 140 = .ok (.dup, 1) := dgX12_next_1 (140, (.dup, 1)) (List.mem_of_getElem? (i := 31) rfl)
theorem dX12_next_141 : decode cX12_next 141 = .ok (.getfield 202, 3) := dgX12_next_1 (141, (.getfield 202, 3)) (List.mem_of_getElem? (i := 32) rfl)
theorem dX12_next_144 : decode cX12_next 144 = .ok (.iconst 1, 1) := dgX12_next_1 (144, (.iconst 1, 1)) (List.mem_of_getElem? (i := 33) rfl)
theorem dX12_next_145 : decode cX12_next 145 = .ok (.iadd, 1) := dgX12_next_1 (145, (.iadd, 1)) (List.mem_of_getElem? (i := 34) rfl)
theorem dX12_next_146 : decode cX12_next 146 = .ok (.putfield 202, 3) := dgX12_next_1 (146, (.putfield 202, 3)) (List.mem_of_getElem? (i := 35) rfl)
theorem dX12_next_149 : decode cX12_next 149 = .ok (.aload_n 0, 1) := dgX12_next_1 (149, (.aload_n 0, 1)) (List.mem_of_getElem? (i := 36) rfl)
theorem dX12_next_150 : decode cX12_next 150 = .ok (.getfield 224, 3) := dgX12_next_1 (150, (.getfield 224, 3)) (List.mem_of_getElem? (i := 37) rfl)
theorem dX12_next_153 : decode cX12_next 153 = .ok (.iconst 1, 1) := dgX12_next_1 (153, (.iconst 1, 1)) (List.mem_of_getElem? (i := 38) rfl)
theorem dX12_next_154 : decode cX12_next 154 = .ok (.if_icmp .ne 89, 3) := dgX12_next_1 (154, (.if_icmp .ne 89, 3)) (List.mem_of_getElem? (i := 39) rfl)
theorem dgX12_next_2 : ∀ r ∈ ([(157, (.aload_n 0, 1)), (158, (.getfield 202, 3)), (161, (.aload_n 0, 1)), (162, (.getfield 192, 3)), (165, (.if_icmp .ge 78, 3)), (168, (.aload_n 0, 1)), (169, (.getfield 23, 3)), (172, (.aload_n 0, 1)), (173, (.getfield 202, 3)), (176, (.iaload, 1)), (177, (.invokestatic 218, 3)), (180, (.ifCond .eq 63, 3)), (183, (.aload_n 0, 1)), (184, (.aload_n 0, 1)), (185, (.getfield 202, 3)), (188, (.aload_n 0, 1)), (189, (.getfield 211, 3)), (192, (.isub, 1)), (193, (.bipush 10, 2)), (195, (.if_icmp .ge 29, 3)), (198, (.aload_n 0, 1)), (199, (.getfield 214, 3)), (202, (.ldc2_w 227, 3)), (205, (.lmul, 1)), (206, (.aload_n 0, 1)), (207, (.getfield 23, 3)), (210, (.aload_n 0, 1)), (211, (.getfield 202, 3)), (214, (.iaload, 1)), (215, (.i2l, 1)), (216, (.ladd, 1)), (217, (.ldc2_w 229, 3)), (220, (.lsub, 1)), (221, (.goto 6, 3)), (224, (.ldc2_w 178, 3)), (227, (.putfield 214, 3)), (230, (.aload_n 0, 1)), (231, (.dup, 1)), (232, (.getfield 202, 3)), (235, (.iconst 1, 1))] : List (Nat × (Instr × Nat))), decode cX12_next r.1 = .ok r.2 := by decide +kernel
theorem dX12_next_157 : decode cX12_next 157 = .ok (.aload_n 0, 1) := dgX12_next_2 (157, (.aload_n 0, 1)) (List.mem_of_getElem? (i := 0) rfl)
theorem dX12_next_158 : decode cX12_next 158 = .ok (.getfield 202, 3) := dgX12_next_2 (158, (.getfield 202, 3)) (List.mem_of_getElem? (i := 1) rfl)
theorem dX12_next_161 : decode cX12_next 161 = .ok (.aload_n 0, 1) := dgX12_next_2 (161, (.aload_n 0, 1)) (List.mem_of_getElem? (i := 2) rfl)
theorem dX12_next_162 : decode cX12_next 162 = .ok (.getfield 192, 3) := dgX12_next_2 (162, (.getfield 192, 3)) (List.mem_of_getElem? (i := 3) rfl)
theorem dX12_next_165 : decode cX12_next 165 = .ok (.if_icmp .ge 78, 3) := dgX12_next_2 (165, (.if_icmp .ge 78, 3)) (List.mem_of_getElem? (i := 4) rfl)
theorem dX12_next_168 : decode cX12_next 168 = .ok (.aload_n 0, 1) := dgX12_next_2 (168, (.aload_n 0, 1)) (List.mem_of_getElem? (i := 5) rfl)
theorem dX12_next_169 : decode cX12_next 169 = .ok (.getfield 23, 3) := dgX12_next_2 (169, (.getfield 23, 3)) (List.mem_of_getElem? (i := 6) rfl)
theorem dX12_next_172 : decode cX12_next 172 = .ok (.aload_n 0, 1) := dgX12_next_2 (172, (.aload_n 0, 1)) (List.mem_of_getElem? (i := 7) rfl)
theorem dX12_next_173 : decode cX12_next 173 = .ok (.getfield 202, 3) := dgX12_next_2 (173, (.getfield 202, 3)) (List.mem_of_getElem? (i := 8) rfl)
theorem dX12_next_176 : decode cX12_next 176 = .ok (.iaload, 1) := dgX12_next_2 (176, (.iaload, 1)) (List.mem_of_getElem? (i := 9) rfl)
theorem dX12_next_177 : decode cX12_next 177 = .ok (.invokestatic 218, 3) := dgX12_next_2 (177, (.invokestatic 218, 3)) (List.mem_of_getElem? (i := 10) rfl)
theorem dX12_next_180 : decode cX12_next 180 = .ok (.ifCond .eq 63, 3) := dgX12_next_2 (180, (.ifCond .eq 63, 3)) (List.mem_of_getElem? (i := 11) rfl)
theorem dX12_next_183 : decode cX12_next 183 = .ok (.aload_n 0, 1) := dgX12_next_2 (183, (.aload_n 0, 1)) (List.mem_of_getElem? (i := 12) rfl)
theorem dX12_next_184 : decode cX12_next 184 = .ok (.aload_n 0, 1) := dgX12_next_2 (184, (.aload_n 0, 1)) (List.mem_of_getElem? (i := 13) rfl)
theorem dX12_next_185 : decode cX12_next 185 = .ok (.getfield 202, 3) := dgX12_next_2 (185, (.getfield 202, 3)) (List.mem_of_getElem? (i := 14) rfl)
theorem dX12_next_188 : decode cX12_next 188 = .ok (.aload_n 0, 1) := dgX12_next_2 (188, (.aload_n 0, 1)) (List.mem_of_getElem? (i := 15) rfl)
theorem dX12_next_189 : decode cX12_next 189 = .ok (.getfield 211, 3) := dgX12_next_2 (189, (.getfield 211, 3)) (List.mem_of_getElem? (i := 16) rfl)
theorem dX12_next_192 : decode cX12_next 192 = .ok (.isub, 1) := dgX12_next_2 (192, (.isub, 1)) (List.mem_of_getElem? (i := 17) rfl)
theorem dX12_next_193 : decode cX12_next 193 = .ok (.bipush 10, 2) := dgX12_next_2 (193, (.bipush 10, 2)) (List.mem_of_getElem? (i := 18) rfl)
theorem dX12_next_195 : decode cX12_next 195 = .ok (.if_icmp .ge 29, 3) := dgX12_next_2 (195, (.if_icmp .ge 29, 3)) (List.mem_of_getElem? (i := 19) rfl)
theorem dX12_next_198 : decode cX12_next 198 = .ok (.aload_n 0, 1) := dgX12_next_2 (198, (.aload_n 0, 1)) (List.mem_of_getElem? (i := 20) rfl)
theorem dX12_next_199 : decode cX12_next 199 = .ok (.getfield 214, 3) := dgX12_next_2 (199, (.getfield 214, 3)) (List.mem_of_getElem? (i := 21) rfl)
theorem dX12_next_202 : decode cX12_next 202 = .ok (.ldc2_w 227, 3) := dgX12_next_2 (202, (.ldc2_w 227, 3)) (List.mem_of_getElem? (i := 22) rfl)
theorem dX12_next_205 : decode cX12_next 205 = .ok (.lmul, 1) := dgX12_next_2 (205, (.lmul, 1)) (List.mem_of_getElem? (i := 23) rfl)
theorem dX12_next_206 : decode cX12_next 206 = .ok (.aload_n 0, 1) := dgX12_next_2 (206, (.aload_n 0, 1)) (List.mem_of_getElem? (i := 24) rfl)
theorem dX12_next_207 : decode cX12_next 207 = .ok (.getfield 23, 3) := dgX12_next_2 (207, (.getfield 23, 3)) (List.mem_of_getElem? (i := 25) rfl)
theorem dX12_next_210 : decode cX12_next 210 = .ok (.aload_n 0, 1) := dgX12_next_2 (210, (.aload_n 0, 1)) (List.mem_of_getElem? (i := 26) rfl)
theorem dX12_next_211 : decode cX12_next 211 = .ok (.getfield 202, 3) := dgX12_next_2 (211, (.getfield 202, 3)) (List.mem_of_getElem? (i := 27) rfl)
theorem dX12_next_214 : decode cX12_next 214 = .ok (.iaload, 1) := dgX12_next_2 (214, (.iaload, 1)) (List.mem_of_getElem? (i := 28) rfl)
theorem dX12_next_215 : decode cX12_next 215 = .ok (.i2l, 1) := dgX12_next_2 (215, (.i2l, 1)) (List.mem_of_getElem? (i := 29) rfl)
theorem dX12_next_216 : decode cX12_next 216 = .ok (.ladd, 1) := dgX12_next_2 (216, (.ladd, 1)) (List.mem_of_getElem? (i := 30) rfl)
theorem dX12_next_217 : decode cX12_next 217 = .ok (.ldc2_w 229, 3) := dgX12_next_2 (217, (.ldc2_w 229, 3)) (List.mem_of_getElem? (i := 31) rfl)
theorem dX12_next_220 : decode cX12_next 220 = .ok (.lsub, 1) := dgX12_next_2 (220, (.lsub, 1)) (List.mem_of_getElem? (i := 32) rfl)
theorem dX12_next_221 : decode cX12_next 221 = .ok (.goto 6, 3) := dgX12_next_2 (221, (.goto 6, 3)) (List.mem_of_getElem? (i := 33) rfl)
theorem dX12_next_224 : decode cX12_next 224 = .ok (.ldc2_w 178, 3) := dgX12_next_2 (224, (.ldc2_w 178, 3)) (List.mem_of_getElem? (i := 34) rfl)
theorem dX12_next_227 : decode cX12_next 227 = .ok (.putfield 214, 3) := dgX12_next_2 (227, (.putfield 214, 3)) (List.mem_of_getElem? (i := 35) rfl)
theorem dX12_next_230 : decode cX12_next 230 = .ok (.aload_n 0, 1) := dgX12_next_2 (230, (.aload_n 0, 1)) (List.mem_of_getElem? (i := 36) rfl)
theorem dX12_next_231 : decode cX12_next 231 = .ok (.dup, 1) := dgX12_next_2 (231, (.dup, 1)) (List.mem_of_getElem? (i := 37) rfl)
theorem dX12_next_232 : decode cX12_next 232 = .ok (.getfield 202, 3) := dgX12_next_2 (232, (.getfield 202, 3)) (List.mem_of_getElem? (i := 38) rfl)
theorem dX12_next_235 : decode cX12_next 235 = .ok (.iconst 1, 1) := dgX12_next_2 (235, (.iconst 1, 1)) (List.mem_of_getElem? (i := 39) rfl)
theorem dgX12_next_3 : ∀ r ∈ ([(236, (.iadd, 1)), (237, (.putfield 202, 3)), (240, (.goto (-91), 3)), (243, (.aload_n 0, 1)), (244, (.getfield 224, 3)), (247, (.iconst 2, 1)), (248, (.if_icmp .ne 87, 3)), (251, (.aload_n 0, 1)), (252, (.getfield 202, 3)), (255, (.aload_n 0, 1)), (256, (.getfield 192, 3)), (259, (.if_icmp .ge 76, 3)), (262, (.aload_n 0, 1)), (263, (.getfield 23, 3)), (266, (.aload_n 0, 1)), (267, (.getfield 202, 3)), (270, (.iaload, 1)), (271, (.invokestatic 221, 3)), (274, (.ifCond .eq 61, 3)), (277, (.aload_n 0, 1)), (278, (.aload_n 0, 1)), (279, (.getfield 214, 3)), (282, (.ldc2_w 190, 3)), (285, (.lcmp, 1)), (286, (.ifCond .le 10, 3)), (289, (.aload_n 0, 1)), (290, (.getfield 214, 3)), (293, (.goto 26, 3)), (296, (.aload_n 0, 1)), (297, (.getfield 214, 3)), (300, (.ldc2_w 156, 3)), (303, (.lmul, 1)), (304, (.aload_n 0, 1)), (305, (.getfield 23, 3)), (308, (.aload_n 0, 1)), (309, (.getfield 202, 3)), (312, (.iaload, 1)), (313, (.i2l, 1)), (314, (.ladd, 1)), (315, (.ldc2_w 231, 3))] : List (Nat × (Instr × Nat))), decode cX12_next r.1 = .ok r.2 := by decide +kernel
theorem dX12_next_236 : decode cX12_next 236 = .ok (.iadd, 1) := dgX12_next_3 (236, (.iadd, 1)) (List.mem_of_getElem? (i := 0) rfl)
theorem dX12_next_237 : decode cX12_next 237 = .ok (.putfield 202, 3) := dgX12_next_3 (237, (.putfield 202, 3)) (List.mem_of_getElem? (i := 1) rfl)
theorem dX12_next_240 : decode cX12_next 240 = .ok (.goto (-91), 3) := dgX12_next_3 (240, (.goto (-91), 3)) (List.mem_of_getElem? (i := 2) rfl)
theorem dX12_next_243 : decode cX12_next 243 = .ok (.aload_n 0, 1) := dgX12_next_3 (243, (.aload_n 0, 1)) (List.mem_of_getElem? (i := 3) rfl)
theorem dX12_next_244 : decode cX12_next 244 = .ok (.getfield 224, 3) := dgX12_next_3 (244, (.getfield 224, 3)) (List.mem_of_getElem? (i := 4) rfl)
theorem dX12_next_247 : decode cX12_next 247 = .ok (.iconst 2, 1) := dgX12_next_3 (247, (.iconst 2, 1)) (List.mem_of_getElem? (i := 5) rfl)
theorem dX12_next_248 : decode cX12_next 248 = .ok (.if_icmp .ne 87, 3) := dgX12_next_3 (248, (.if_icmp .ne 87, 3)) (List.mem_of_getElem? (i := 6) rfl)
theorem dX12_next_251 : decode cX12_next 251 = .ok (.aload_n 0, 1) := dgX12_next_3 (251, (.aload_n 0, 1)) (List.mem_of_getElem? (i := 7) rfl)
theorem dX12_next_252 : decode cX12_next 252 = .ok (.getfield 202, 3) := dgX12_next_3 (252, (.getfield 202, 3)) (List.mem_of_getElem? (i := 8) rfl)
theorem dX12_next_255 : decode cX12_next 255 = .ok (.aload_n 0, 1) := dgX12_next_3 (255, (.aload_n 0, 1)) (List.mem_of_getElem? (i := 9) rfl)
theorem dX12_next_256 : decode cX12_next 256 = .ok (.getfield 192, 3) := dgX12_next_3 (256, (.getfield 192, 3)) (List.mem_of_getElem? (i := 10) rfl)
theorem dX12_next_259 : decode cX12_next 259 = .ok (.if_icmp .ge 76, 3) := dgX12_next_3 (259, (.if_icmp .ge 76, 3)) (List.mem_of_getElem? (i := 11) rfl)
theorem dX12_next_262 : decode cX12_next 262 = .ok (.aload_n 0, 1) := dgX12_next_3 (262, (.aload_n 0, 1)) (List.mem_of_getElem? (i := 12) rfl)
theorem dX12_next_263 : decode cX12_next 263 = .ok (.getfield 23, 3) := dgX12_next_3 (263, (.getfield 23, 3)) (List.mem_of_getElem? (i := 13) rfl)
theorem dX12_next_266 : decode cX12_next 266 = .ok (.aload_n 0, 1) := dgX12_next_3 (266, (.aload_n 0, 1)) (List.mem_of_getElem? (i := 14) rfl)
theorem dX12_next_267 : decode cX12_next 267 = .ok (.getfield 202, 3) := dgX12_next_3 (267, (.getfield 202, 3)) (List.mem_of_getElem? (i := 15) rfl)
theorem dX12_next_270 : decode cX12_next 270 = .ok (.iaload, 1) := dgX12_next_3 (270, (.iaload, 1)) (List.mem_of_getElem? (i := 16) rfl)
theorem dX12_next_271 : decode cX12_next 271 = .ok (.invokestatic 221, 3) := dgX12_next_3 (271, (.invokestatic 221, 3)) (List.mem_of_getElem? (i := 17) rfl)
theorem dX12_next_274 : decode cX12_next 274 = .ok (.ifCond .eq 61, 3) := dgX12_next_3 (274, (.ifCond .eq 61, 3)) (List.mem_of_getElem? (i := 18) rfl)
theorem dX12_next_277 : decode cX12_next 277 = .ok (.aload_n 0, 1) := dgX12_next_3 (277, (.aload_n 0, 1)) (List.mem_of_getElem? (i := 19) rfl)
theorem dX12_next_278 : decode cX12_next 278 = .ok (.aload_n 0, 1) := dgX12_next_3 (278, (.aload_n 0, 1)) (List.mem_of_getElem? (i := 20) rfl)
theorem dX12_next_279 : decode cX12_next 279 = .ok (.getfield 214, 3) := dgX12_next_3 (279, (.getfield 214, 3)) (List.mem_of_getElem? (i := 21) rfl)
theorem dX12_next_282 : decode cX12_next 282 = .ok (.ldc2_w 190, 3) := dgX12_next_3 (282, (.ldc2_w 190, 3)) (List.mem_of_getElem? (i := 22) rfl)
theorem dX12_next_285 : decode cX12_next 285 = .ok (.lcmp, 1) := dgX12_next_3 (285, (.lcmp, 1)) (List.mem_of_getElem? (i := 23) rfl)
theorem dX12_next_286 : decode cX12_next 286 = .ok (.ifCond .le 10, 3) := dgX12_next_3 (286, (.ifCond .le 10, 3)) (List.mem_of_getElem? (i := 24) rfl)
theorem dX12_next_289 : decode cX12_next 289 = .ok (.aload_n 0, 1) := dgX12_next_3 (289, (.aload_n 0, 1)) (List.mem_of_getElem? (i := 25) rfl)
theorem dX12_next_290 : decode cX12_next 290 = .ok (.getfield 214, 3) := dgX12_next_3 (290, (.getfield 214, 3)) (List.mem_of_getElem? (i := 26) rfl)
theorem dX12_next_293 : decode cX12_next 293 = .ok (.goto 26, 3) := dgX12_next_3 (293, (.goto 26, 3)) (List.mem_of_getElem? (i := 27) rfl)
theorem dX12_next_296 : decode cX12_next 296 = .ok (.aload_n 0, 1) := dgX12_next_3 (296, (.aload_n 0, 1)) (List.mem_of_getElem? (i := 28) rfl)
theorem dX12_next_297 : decode cX12_next 297 = .ok (.getfield 214, 3) := dgX12_next_3 (297, (.getfield 214, 3)) (List.mem_of_getElem? (i := 29) rfl)
theorem dX12_next_300 : decode cX12_next 300 = .ok (.ldc2_w 156, 3) := dgX12_next_3 (300, (.ldc2_w 156, 3)) (List.mem_of_getElem? (i := 30) rfl)
theorem dX12_next_303 : decode cX12_next 303 = .ok (.lmul, 1) := dgX12_next_3 (303, (.lmul, 1)) (List.mem_of_getElem? (i := 31) rfl)
theorem dX12_next_304 : decode cX12_next 304 = .ok (.aload_n 0, 1) := dgX12_next_3 (304, (.aload_n 0, 1)) (List.mem_of_getElem? (i := 32) rfl)
theorem dX12_next_305 : decode cX12_next 305 = .ok (.getfield 23, 3) := dgX12_next_3 (305, (.getfield 23, 3)) (List.mem_of_getElem? (i := 33) rfl)
theorem dX12_next_308 : decode cX12_next 308 = .ok (.aload_n 0, 1) := dgX12_next_3 (308, (.aload_n 0, 1)) (List.mem_of_getElem? (i := 34) rfl)
theorem dX12_next_309 : decode cX12_next 309 = .ok (.getfield 202, 3) := dgX12_next_3 (309, (.getfield 202, 3)) (List.mem_of_getElem? (i := 35) rfl)
theorem dX12_next_312 : decode cX12_next 312 = .ok (.iaload, 1) := dgX12_next_3 (312, (.iaload, 1)) (List.mem_of_getElem? (i := 36) rfl)
theorem dX12_next_313 : decode cX12_next 313 = .ok (.i2l, 1) := dgX12_next_3 (313, (.i2l, 1)) (List.mem_of_getElem? (i := 37) rfl)
theorem dX12_next_314 : decode cX12_next 314 = .ok (.ladd, 1) := dgX12_next_3 (314, (.ladd, 1)) (List.mem_of_getElem? (i := 38) rfl)
theorem dX12_next_315 : decode cX12_next 315 = .ok (.ldc2_w 231, 3) := dgX12_next_3 (315, (.ldc2_w 231, 3)) (List.mem_of_getElem? (i := 39) rfl)
theorem dgX12_next_4 : ∀ r ∈ ([(318, (.lsub, 1)), (319, (.putfield 214, 3)), (322, (.aload_n 0, 1)), (323, (.dup, 1)), (324, (.getfield 202, 3)), (327, (.iconst 1, 1)), (328, (.iadd, 1)), (329, (.putfield 202, 3)), (332, (.goto (-89), 3)), (335, (.return_, 1))] : List (Nat × (Instr × Nat))), decode cX12_next r.1 = .ok r.2 := by decide +kernel
theorem dX12_next_318 : decode cX12_next 318 = .ok (.lsub, 1) := dgX12_next_4 (318, (.lsub, 1)) (List.mem_of_getElem? (i := 0) rfl)
theorem dX12_next_319 : decode cX12_next 319 = .ok (.putfield 214, 3) := dgX12_next_4 (319, (.putfield 214, 3)) (List.mem_of_getElem? (i := 1) rfl)
theorem dX12_next_322 : decode cX12_next 322 = .ok (.aload_n 0, 1) := dgX12_next_4 (322, (.aload_n 0, 1)) (List.mem_of_getElem? (i := 2) rfl)
theorem dX12_next_323 : decode cX12_next 323 = .ok (.dup, 1) := dgX12_next_4 (323, (.dup, 1)) (List.mem_of_getElem? (i := 3) rfl)
theorem dX12_next_324 : decode cX12_next 324 = .ok (.getfield 202, 3) := dgX12_next_4 (324, (.getfield 202, 3)) (List.mem_of_getElem? (i := 4) rfl)
theorem dX12_next_327 : decode cX12_next 327 = .ok (.iconst 1, 1) := dgX12_next_4 (327, (.iconst 1, 1)) (List.mem_of_getElem? (i := 5) rfl)
theorem dX12_next_328 : decode cX12_next 328 = .ok (.iadd, 1) := dgX12_next_4 (328, (.iadd, 1)) (List.mem_of_getElem? (i := 6) rfl)
theorem dX12_next_329 : decode cX12_next 329 = .ok (.putfield 202, 3) := dgX12_next_4 (329, (.putfield 202, 3)) (List.mem_of_getElem? (i := 7) rfl)
theorem dX12_next_332 : decode cX12_next 332 = .ok (.goto (-89), 3) := dgX12_next_4 (332, (.goto (-89), 3)) (List.mem_of_getElem? (i := 8) rfl)
theorem dX12_next_335 : decode cX12_next 335 = .ok (.return_, 1) := dgX12_next_4 (335, (.return_, 1)) (List.mem_of_getElem? (i := 9) rfl)
theorem fl_X12_202 : Cond.fieldLink RX12 202 "LateGlassModel" "to" "I" ∈ tblG := tg 1213 (by decide +kernel) (by decide +kernel)
theorem fl_X12_211 : Cond.fieldLink RX12 211 "LateGlassModel" "from" "I" ∈ tblG := tg 1212 (by decide +kernel) (by decide +kernel)
theorem fl_X12_214 : Cond.fieldLink RX12 214 "LateGlassModel" "worth" "J" ∈ tblG := tg 1215 (by decide +kernel) (by decide +kernel)
theorem fl_X12_224 : Cond.fieldLink RX12 224 "LateGlassModel" "sort" "I" ∈ tblG := tg 1214 (by decide +kernel) (by decide +kernel)
theorem ml_X12_218 : Cond.methodLink RX12 218 yX12_isSmall ∈ tblG := tg 1508 (by decide +kernel) (by decide +kernel)
theorem st_X12_isSmall : Cond.static yX12_isSmall ∈ tblG := tg 1509 (by decide +kernel) (by decide +kernel)
theorem cd_X12_isSmall : Cond.code yX12_isSmall cX12_isSmall 1 (some .boolean) ∈ tblG := tg 1510 (by decide +kernel) (by decide +kernel)
theorem gW_X12_isSmall : GoodIn tblG (wsG yX12_isSmall cX12_isSmall 1 (some .boolean)) := tgi cd_X12_isSmall
theorem gS_X12_218 : GoodIn tblG (va_wsS RX12 218 yX12_isSmall (wsG yX12_isSmall cX12_isSmall 1 (some .boolean))) := tgS ml_X12_218 st_X12_isSmall ini_X12 gW_X12_isSmall
theorem hs_X12_isSmall : yX12_isSmall.cls ≠ "java/lang/invoke/MethodHandle" ∧ yX12_isSmall.cls ≠ "java/lang/invoke/VarHandle" ∧ (parseMethodDescriptor yX12_isSmall.desc).map (fun d => d.parameters.length) = some 1 := by decide +kernel
theorem kl_X12_227 : Cond.constantLong RX12 227 32 ∈ tblG := tg 1514 (by decide +kernel) (by decide +kernel)
theorem kl_X12_229 : Cond.constantLong RX12 229 96 ∈ tblG := tg 1515 (by decide +kernel) (by decide +kernel)
theorem ml_X12_221 : Cond.methodLink RX12 221 yX12_isDigit ∈ tblG := tg 1511 (by decide +kernel) (by decide +kernel)
theorem st_X12_isDigit : Cond.static yX12_isDigit ∈ tblG := tg 1512 (by decide +kernel) (by decide +kernel)
theorem cd_X12_isDigit : Cond.code yX12_isDigit cX12_isDigit 1 (some .boolean) ∈ tblG := tg 1513 (by decide +kernel) (by decide +kernel)
theorem gW_X12_isDigit : GoodIn tblG (wsG yX12_isDigit cX12_isDigit 1 (some .boolean)) := tgi cd_X12_isDigit
theorem gS_X12_221 : GoodIn tblG (va_wsS RX12 221 yX12_isDigit (wsG yX12_isDigit cX12_isDigit 1 (some .boolean))) := tgS ml_X12_221 st_X12_isDigit ini_X12 gW_X12_isDigit
theorem hs_X12_isDigit : yX12_isDigit.cls ≠ "java/lang/invoke/MethodHandle" ∧ yX12_isDigit.cls ≠ "java/lang/invoke/VarHandle" ∧ (parseMethodDescriptor yX12_isDigit.desc).map (fun d => d.parameters.length) = some 1 := by decide +kernel
theorem kl_X12_231 : Cond.constantLong RX12 231 48 ∈ tblG := tg 1516 (by decide +kernel) (by decide +kernel)
theorem dgX12_isWord_0 : ∀ r ∈ ([(0, (.aload_n 0, 1)), (1, (.getfield 224, 3)), (4, (.iconst 1, 1)), (5, (.if_icmp .ne 16, 3)), (8, (.aload_n 0, 1)), (9, (.getfield 214, 3)), (12, (.lload_n 1, 1)), (13, (.lcmp, 1)), (14, (.ifCond .ne 7, 3)), (17, (.iconst 1, 1)), (18, (.goto 4, 3)), (21, (.iconst 0, 1)), (22, (.ireturn, 1))] : List (Nat × (Instr × Nat))), decode cX12_isWord r.1 = .ok r.2 := by decide +kernel
theorem dX12_isWord_0 : decode cX12_isWord 0 = .ok (.aload_n 0, 1) := dgX12_isWord_0 (0, (.aload_n 0, 1)) (List.mem_of_getElem? (i := 0) rfl)
theorem dX12_isWord_1 : decode cX12_isWord 1 = .ok (.getfield 224, 3) := dgX12_isWord_0 (1, (.getfield 224, 3)) (List.mem_of_getElem? (i := 1) rfl)
theorem dX12_isWord_4 : decode cX12_isWord 4 = .ok (.iconst 1, 1) := dgX12_isWord_0 (4, (.iconst 1, 1)) (List.mem_of_getElem? (i := 2) rfl)
theorem dX12_isWord_5 : decode cX12_isWord 5 = .ok (.if_icmp .ne 16, 3) := dgX12_isWord_0 (5, (.if_icmp .ne 16, 3)) (List.mem_of_getElem? (i := 3) rfl)
theorem dX12_isWord_8 : decode cX12_isWord 8 = .ok (.aload_n 0, 1) := dgX12_isWord_0 (8, (.aload_n 0, 1)) (List.mem_of_getElem? (i := 4) rfl)
theorem dX12_isWord_9 : decode cX12_isWord 9 = .ok (.getfield 214, 3) := dgX12_isWord_0 (9, (.getfield 214, 3)) (List.mem_of_getElem? (i := 5) rfl)
theorem dX12_isWord_12 : decode cX12_isWord 12 = .ok (.lload_n 1, 1) := dgX12_isWord_0 (12, (.lload_n 1, 1)) (List.mem_of_getElem? (i := 6) rfl)
theorem dX12_isWord_13 : decode cX12_isWord 13 = .ok (.lcmp, 1) := dgX12_isWord_0 (13, (.lcmp, 1)) (List.mem_of_getElem? (i := 7) rfl)
theorem dX12_isWord_14 : decode cX12_isWord 14 = .ok (.ifCond .ne 7, 3) := dgX12_isWord_0 (14, (.ifCond .ne 7, 3)) (List.mem_of_getElem? (i := 8) rfl)
theorem dX12_isWord_17 : decode cX12_isWord 17 = .ok (.iconst 1, 1) := dgX12_isWord_0 (17, (.iconst 1, 1)) (List.mem_of_getElem? (i := 9) rfl)
theorem dX12_isWord_18 : decode cX12_isWord 18 = .ok (.goto 4, 3) := dgX12_isWord_0 (18, (.goto 4, 3)) (List.mem_of_getElem? (i := 10) rfl)
theorem dX12_isWord_21 : decode cX12_isWord 21 = .ok (.iconst 0, 1) := dgX12_isWord_0 (21, (.iconst 0, 1)) (List.mem_of_getElem? (i := 11) rfl)
theorem dX12_isWord_22 : decode cX12_isWord 22 = .ok (.ireturn, 1) := dgX12_isWord_0 (22, (.ireturn, 1)) (List.mem_of_getElem? (i := 12) rfl)
theorem dgX12_isSign_0 : ∀ r ∈ ([(0, (.aload_n 0, 1)), (1, (.getfield 224, 3)), (4, (.iconst 3, 1)), (5, (.if_icmp .ne 17, 3)), (8, (.aload_n 0, 1)), (9, (.getfield 214, 3)), (12, (.iload_n 1, 1)), (13, (.i2l, 1)), (14, (.lcmp, 1)), (15, (.ifCond .ne 7, 3)), (18, (.iconst 1, 1)), (19, (.goto 4, 3)), (22, (.iconst 0, 1)), (23, (.ireturn, 1))] : List (Nat × (Instr × Nat))), decode cX12_isSign r.1 = .ok r.2 := by decide +kernel
theorem dX12_isSign_0 : decode cX12_isSign 0 = .ok (.aload_n 0, 1) := dgX12_isSign_0 (0, (.aload_n 0, 1)) (List.mem_of_getElem? (i := 0) rfl)
theorem dX12_isSign_1 : decode cX12_isSign 1 = .ok (.getfield 224, 3) := dgX12_isSign_0 (1, (.getfield 224, 3)) (List.mem_of_getElem? (i := 1) rfl)
theorem dX12_isSign_4 : decode cX12_isSign 4 = .ok (.iconst 3, 1) := dgX12_isSign_0 (4, (.iconst 3, 1)) (List.mem_of_getElem? (i := 2) rfl)
theorem dX12_isSign_5 : decode cX12_isSign 5 = .ok (.if_icmp .ne 17, 3) := dgX12_isSign_0 (5, (.if_icmp .ne 17, 3)) (List.mem_of_getElem? (i := 3) rfl)
theorem dX12_isSign_8 : decode cX12_isSign 8 = .ok (.aload_n 0, 1) := dgX12_isSign_0 (8, (.aload_n 0, 1)) (List.mem_of_getElem? (i := 4) rfl)
theorem dX12_isSign_9 : decode cX12_isSign 9 = .ok (.getfield 214, 3) := dgX12_isSign_0 (9, (.getfield 214, 3)) (List.mem_of_getElem? (i := 5) rfl)
theorem dX12_isSign_12 : decode cX12_isSign 12 = .ok (.iload_n 1, 1) := dgX12_isSign_0 (12, (.iload_n 1, 1)) (List.mem_of_getElem? (i := 6) rfl)
theorem dX12_isSign_13 : decode cX12_isSign 13 = .ok (.i2l, 1) := dgX12_isSign_0 (13, (.i2l, 1)) (List.mem_of_getElem? (i := 7) rfl)
theorem dX12_isSign_14 : decode cX12_isSign 14 = .ok (.lcmp, 1) := dgX12_isSign_0 (14, (.lcmp, 1)) (List.mem_of_getElem? (i := 8) rfl)
theorem dX12_isSign_15 : decode cX12_isSign 15 = .ok (.ifCond .ne 7, 3) := dgX12_isSign_0 (15, (.ifCond .ne 7, 3)) (List.mem_of_getElem? (i := 9) rfl)
theorem dX12_isSign_18 : decode cX12_isSign 18 = .ok (.iconst 1, 1) := dgX12_isSign_0 (18, (.iconst 1, 1)) (List.mem_of_getElem? (i := 10) rfl)
theorem dX12_isSign_19 : decode cX12_isSign 19 = .ok (.goto 4, 3) := dgX12_isSign_0 (19, (.goto 4, 3)) (List.mem_of_getElem? (i := 11) rfl)
theorem dX12_isSign_22 : decode cX12_isSign 22 = .ok (.iconst 0, 1) := dgX12_isSign_0 (22, (.iconst 0, 1)) (List.mem_of_getElem? (i := 12) rfl)
theorem dX12_isSign_23 : decode cX12_isSign 23 = .ok (.ireturn, 1) := dgX12_isSign_0 (23, (.ireturn, 1)) (List.mem_of_getElem? (i := 13) rfl)
theorem dgX12_must_0 : ∀ r ∈ ([(0, (.aload_n 0, 1)), (1, (.getfield 205, 3)), (4, (.ifCond .ne 20, 3)), (7, (.iload_n 1, 1)), (8, (.ifCond .ne 16, 3)), (11, (.aload_n 0, 1)), (12, (.iconst 1, 1)), (13, (.putfield 205, 3)), (16, (.aload_n 0, 1)), (17, (.aload_n 0, 1)), (18, (.getfield 211, 3)), (21, (.putfield 26, 3)), (24, (.aload_n 0, 1)), (25, (.getfield 205, 3)), (28, (.ifCond .ne 7, 3)), (31, (.aload_n 0, 1)), (32, (.invokevirtual 208, 3)), (35, (.return_, 1))] : List (Nat × (Instr × Nat))), decode cX12_must r.1 = .ok r.2 := by decide +kernel
theorem dX12_must_0 : decode cX12_must 0 = .ok (.aload_n 0, 1) := dgX12_must_0 (0, (.aload_n 0, 1)) (List.mem_of_getElem? (i := 0) rfl)
theorem dX12_must_1 : decode cX12_must 1 = .ok (.getfield 205, 3) := dgX12_must_0 (1, (.getfield 205, 3)) (List.mem_of_getElem? (i := 1) rfl)
theorem dX12_must_4 : decode cX12_must 4 = .ok (.ifCond .ne 20, 3) := dgX12_must_0 (4, (.ifCond .ne 20, 3)) (List.mem_of_getElem? (i := 2) rfl)
theorem dX12_must_7 : decode cX12_must 7 = .ok (.iload_n 1, 1) := dgX12_must_0 (7, (.iload_n 1, 1)) (List.mem_of_getElem? (i := 3) rfl)
theorem dX12_must_8 : decode cX12_must 8 = .ok (.ifCond .ne 16, 3) := dgX12_must_0 (8, (.ifCond .ne 16, 3)) (List.mem_of_getElem? (i := 4) rfl)
theorem dX12_must_11 : decode cX12_must 11 = .ok (.aload_n 0, 1) := dgX12_must_0 (11, (.aload_n 0, 1)) (List.mem_of_getElem? (i := 5) rfl)
theorem dX12_must_12 : decode cX12_must 12 = .ok (.iconst 1, 1) := dgX12_must_0 (12, (.iconst 1, 1)) (List.mem_of_getElem? (i := 6) rfl)
theorem dX12_must_13 : decode cX12_must 13 = .ok (.putfield 205, 3) := dgX12_must_0 (13, (.putfield 205, 3)) (List.mem_of_getElem? (i := 7) rfl)
theorem dX12_must_16 : decode cX12_must 16 = .ok (.aload_n 0, 1) := dgX12_must_0 (16, (.aload_n 0, 1)) (List.mem_of_getElem? (i := 8) rfl)
theorem dX12_must_17 : decode cX12_must 17 = .ok (.aload_n 0, 1) := dgX12_must_0 (17, (.aload_n 0, 1)) (List.mem_of_getElem? (i := 9) rfl)
theorem dX12_must_18 : decode cX12_must 18 = .ok (.getfield 211, 3) := dgX12_must_0 (18, (.getfield 211, 3)) (List.mem_of_getElem? (i := 10) rfl)
theorem dX12_must_21 : decode cX12_must 21 = .ok (.putfield 26, 3) := dgX12_must_0 (21, (.putfield 26, 3)) (List.mem_of_getElem? (i := 11) rfl)
theorem dX12_must_24 : decode cX12_must 24 = .ok (.aload_n 0, 1) := dgX12_must_0 (24, (.aload_n 0, 1)) (List.mem_of_getElem? (i := 12) rfl)
theorem dX12_must_25 : decode cX12_must 25 = .ok (.getfield 205, 3) := dgX12_must_0 (25, (.getfield 205, 3)) (List.mem_of_getElem? (i := 13) rfl)
theorem dX12_must_28 : decode cX12_must 28 = .ok (.ifCond .ne 7, 3) := dgX12_must_0 (28, (.ifCond .ne 7, 3)) (List.mem_of_getElem? (i := 14) rfl)
theorem dX12_must_31 : decode cX12_must 31 = .ok (.aload_n 0, 1) := dgX12_must_0 (31, (.aload_n 0, 1)) (List.mem_of_getElem? (i := 15) rfl)
theorem dX12_must_32 : decode cX12_must 32 = .ok (.invokevirtual 208, 3) := dgX12_must_0 (32, (.invokevirtual 208, 3)) (List.mem_of_getElem? (i := 16) rfl)
theorem dX12_must_35 : decode cX12_must 35 = .ok (.return_, 1) := dgX12_must_0 (35, (.return_, 1)) (List.mem_of_getElem? (i := 17) rfl)
theorem fl_X12_205 : Cond.fieldLink RX12 205 "LateGlassModel" "bad" "Z" ∈ tblG := tg 1217 (by decide +kernel) (by decide +kernel)
theorem ml_X12_208 : Cond.methodLink RX12 208 yX12_next ∈ tblG := tg 1504 (by decide +kernel) (by decide +kernel)
theorem im_X12_next : Cond.instanceMethod yX12_next ∈ tblG := tg 1506 (by decide +kernel) (by decide +kernel)
theorem se_X12_next : Cond.selects RX12 yX12_next yX12_next ∈ tblG := tg 44 (by decide +kernel) (by decide +kernel)
theorem cd_X12_next : Cond.code yX12_next cX12_next 1 none ∈ tblG := tg 1507 (by decide +kernel) (by decide +kernel)
theorem gW_X12_next : GoodIn tblG (wsG yX12_next cX12_next 1 none) := tgi cd_X12_next
theorem gV_X12_208 : GoodIn tblG (wsV RX12 208 RX12 yX12_next (wsG yX12_next cX12_next 1 none)) := tgV ml_X12_208 im_X12_next se_X12_next ini_X12 gW_X12_next
theorem hv_X12_next : yX12_next.cls = RX12 ∧ yX12_next.cls ≠ "java/lang/invoke/MethodHandle" ∧ yX12_next.cls ≠ "java/lang/invoke/VarHandle" ∧ (parseMethodDescriptor yX12_next.desc).map (fun d => d.parameters.length) = some 0 := by decide +kernel
set_option maxHeartbeats 4000000 in
set_option maxRecDepth 100000 in
theorem n_must0 (l : Launch) (G : g5_G) (b_o b_tp b_rf b_ro b_im b_ke b_nl b_op b_ar b_pi b_pa b_ws b_hw b_se b_re b_pt b_ip b_ah b_be b_me b_tr b_ld b_wn : Nat) (sz : Nat) (u_th : Int32) (u_sa : Int32) (u_fd : Int32) (u_td : Int32) (u_fr : Int32) (u_to : Int32) (u_so : Int32) (u_fa : Int32) (u_bd : Int32) (u_nc : Int32) (u_co : Int32) (u_le : Int32) (u_pd : Int32) (u_od : Int32) (u_la : Int32) (u_bk : Int32) (u_ce : Int32) (u_ho : Int32) (u_wy : Int32) (u_bt : Int32) (u_ps : Int32) (u_tg : Int32) (u_sn : Int32) (u_ic : Int32) (u_wd : Int32) (u_id : Int32) (u_wo : Int64) (u_va : Int64) (u_su : Int64) (u_st : Int64) (v_tp : Nat → Int32) (h_u_td : 0 ≤ u_td.toInt ∧ u_td.toInt ≤ 400) (h_u_fr : 0 ≤ u_fr.toInt ∧ u_fr.toInt ≤ 400) (h_u_to : 0 ≤ u_to.toInt ∧ u_to.toInt ≤ 400) (h_u_bd : 0 ≤ u_bd.toInt ∧ u_bd.toInt ≤ 0) (h_u_nc : 0 ≤ u_nc.toInt ∧ u_nc.toInt ≤ 12) (h_u_co : 0 ≤ u_co.toInt ∧ u_co.toInt ≤ 400) (h_u_pd : 0 ≤ u_pd.toInt ∧ u_pd.toInt ≤ 400) (h_u_la : 0 ≤ u_la.toInt ∧ u_la.toInt ≤ 4840) (h_u_bk : 0 ≤ u_bk.toInt ∧ u_bk.toInt ≤ 1) (h_u_ce : 0 ≤ u_ce.toInt ∧ u_ce.toInt ≤ 63) (h_u_ho : 0 ≤ u_ho.toInt ∧ u_ho.toInt ≤ 23) (h_u_wy : 0 ≤ u_wy.toInt ∧ u_wy.toInt ≤ 3) (h_u_bt : 0 ≤ u_bt.toInt ∧ u_bt.toInt ≤ 1000000) (h_u_ps : 0 ≤ u_ps.toInt ∧ u_ps.toInt ≤ 200) (h_u_ic : 0 ≤ u_ic.toInt ∧ u_ic.toInt ≤ 1) (h_u_id : 0 ≤ u_id.toInt ∧ u_id.toInt ≤ 1) : Met l yX12_must (wsG yX12_must cX12_must 2 none) ({ frames := 0, cells := 0, slots := 0, locals := 0 }) (va_Pc [.ref b_o, .int 0] (g5_P G [(b_o, (oc12 u_th u_sa b_rf b_ro b_im b_ke u_fd b_tp u_td u_fr u_to u_so u_wo u_fa u_bd u_nc b_nl u_co b_op b_ar u_le b_pi b_pa u_pd u_od b_ws b_hw u_la b_se b_re u_bk u_va u_su u_ce u_ho u_wy u_bt u_ps b_pt u_tg u_sn b_ip u_ic b_ah b_be b_me u_wd b_tr b_ld u_st b_wn u_id)), (b_tp, (arI G 400 v_tp))] sz)) (va_Qv (fun (u : va_W) => ((u = [(b_o, (oc12 u_th u_sa b_rf b_ro b_im b_ke u_fd b_tp u_td u_fr u_to u_so u_wo u_fr 1 u_nc b_nl u_co b_op b_ar u_le b_pi b_pa u_pd u_od b_ws b_hw u_la b_se b_re u_bk u_va u_su u_ce u_ho u_wy u_bt u_ps b_pt u_tg u_sn b_ip u_ic b_ah b_be b_me u_wd b_tr b_ld u_st b_wn u_id)), (b_tp, (arI G 400 v_tp))]))) (g5_B G (va_A [(b_o, (oc12 u_th u_sa b_rf b_ro b_im b_ke u_fd b_tp u_td u_fr u_to u_so u_wo u_fa u_bd u_nc b_nl u_co b_op b_ar u_le b_pi b_pa u_pd u_od b_ws b_hw u_la b_se b_re u_bk u_va u_su u_ce u_ho u_wy u_bt u_ps b_pt u_tg u_sn b_ip u_ic b_ah b_be b_me u_wd b_tr b_ld u_st b_wn u_id)), (b_tp, (arI G 400 v_tp))] sz)) (va_A [(b_o, (oc12 u_th u_sa b_rf b_ro b_im b_ke u_fd b_tp u_td u_fr u_to u_so u_wo u_fa u_bd u_nc b_nl u_co b_op b_ar u_le b_pi b_pa u_pd u_od b_ws b_hw u_la b_se b_re u_bk u_va u_su u_ce u_ho u_wy u_bt u_ps b_pt u_tg u_sn b_ip u_ic b_ah b_be b_me u_wd b_tr b_ld u_st b_wn u_id)), (b_tp, (arI G 400 v_tp))] sz)) 0 0 (va_A [(b_o, (oc12 u_th u_sa b_rf b_ro b_im b_ke u_fd b_tp u_td u_fr u_to u_so u_wo u_fa u_bd u_nc b_nl u_co b_op b_ar u_le b_pi b_pa u_pd u_od b_ws b_hw u_la b_se b_re u_bk u_va u_su u_ce u_ho u_wy u_bt u_ps b_pt u_tg u_sn b_ip u_ic b_ah b_be b_me u_wd b_tr b_ld u_st b_wn u_id)), (b_tp, (arI G 400 v_tp))] sz) := by
  refine Met.ofW (cc := cX12_must) (maxL := 2) (ret := none) (by decide +kernel) rfl ?_
  intro p e s m args below meth c s₁ B hml hv
  obtain ⟨rfl, hsz, hP, hK, hD0, hN, hT⟩ := hv
  have hx := B.exec
  have hb := B.bytes
  have hr := B.returns
  have hts : ∀ w ∈ tblG, w.before _ s = true := fun w h => atoms_spec (ws := (wsG yX12_must cX12_must 2 none)) B.pre w (List.mem_cons_of_mem _ h)
  have hown : s.vm.findClass RX12 = some m.cls := findClass_of_methodNamed B.named
  have hlocks := B.notSynchronized
  subst hsz
  have hD := hD0.self (sz := s.heap.size)
  generalize hAe : va_A [(b_o, (oc12 u_th u_sa b_rf b_ro b_im b_ke u_fd b_tp u_td u_fr u_to u_so u_wo u_fa u_bd u_nc b_nl u_co b_op b_ar u_le b_pi b_pa u_pd u_od b_ws b_hw u_la b_se b_re u_bk u_va u_su u_ce u_ho u_wy u_bt u_ps b_pt u_tg u_sn b_ip u_ic b_ah b_be b_me u_wd b_tr b_ld u_st b_wn u_id)), (b_tp, (arI G 400 v_tp))] s.heap.size = A at hD hT ⊢
  have hA : ∀ q : Nat, s.heap.size ≤ q → A q := fun q h => by rw [← hAe]; exact Or.inr h
  have hS : va_S A s.heap s.heap [] := va_S.rf
  replace hP : va_P G.1 vwCl [(b_o, (oc12 u_th u_sa b_rf b_ro b_im b_ke u_fd b_tp u_td u_fr u_to u_so u_wo u_fa u_bd u_nc b_nl u_co b_op b_ar u_le b_pi b_pa u_pd u_od b_ws b_hw u_la b_se b_re u_bk u_va u_su u_ce u_ho u_wy u_bt u_ps b_pt u_tg u_sn b_ip u_ic b_ah b_be b_me u_wd b_tr b_ld u_st b_wn u_id)), (b_tp, (arI G 400 v_tp))] s.heap := hP
  have hl := lv_entry ([.ref b_o, .int 0]) (n := 2) (Nat.le_of_ble_eq_true rfl)
  rw [lg_entry_eq]
  generalize (lg_sl ([.ref b_o, .int 0]) ++ List.replicate (2 - (lg_sl ([.ref b_o, .int 0])).length) Slot.unset).toArray = ls at hl ⊢
  replace hl : lv_has ls 2 [(0, .ref b_o), (1, .int 0)] := hl
  refine lv_aload_n hx hb dX12_must_0 rfl (lv_at hl 0 rfl) ?_
  refine va_get (D := G.1) (ci := 12) (v := .int u_bd) (C := RX12) (T := TX12) (N := 52) hx hb hts inG_X12 hown hK hP 0 rfl rfl 14 (by decide +kernel) (hts _ fl_X12_205) (fun _ h9 => h9) rfl dX12_must_1 ?_
  refine lv_if_ne (tgt := 24) hx hb dX12_must_4 (by decide +kernel) (fun c_1 => ?_) (fun c_1 => ?_)
  ·
    have i_1 : u_bd.toInt ≠ 0 := g5_ne (a := u_bd.toInt) (b := 0) rfl (by decide +kernel) c_1
    omega
  ·
    have i_1 : u_bd.toInt = 0 := g5_neN (a := u_bd.toInt) (b := 0) rfl (by decide +kernel) c_1
    refine lv_iload_n hx hb dX12_must_7 rfl (lv_at hl 1 rfl) ?_
    refine lv_if_ne (tgt := 24) hx hb dX12_must_8 (by decide +kernel) (fun c_2 => ?_) (fun c_2 => ?_)
    ·
      exact absurd c_2 (by decide +kernel)
    ·
      refine lv_aload_n hx hb dX12_must_11 rfl (lv_at hl 0 rfl) ?_
      refine lv_iconst (v := 1) hx hb dX12_must_12 (by decide +kernel) ?_
      refine va_put (D := G.1) (ci := 12) (v := .int 1) (ty := .boolean) (C := RX12) (T := TX12) (N := 52) hx hb hts inG_X12 tyX12 tyX12_ok nmX12 hown hK hP hD hS 0 rfl rfl 14 (by decide +kernel) (hts _ fl_X12_205) (fun _ h9 => h9) rfl (by decide +kernel) rfl rfl (Nat.le_of_ble_eq_true rfl) dX12_must_13 ?_
      clear hP hD hS
      intro H locs hP hD hS
      refine g5_rs [(b_o, (oc12 u_th u_sa b_rf b_ro b_im b_ke u_fd b_tp u_td u_fr u_to u_so u_wo u_fa 1 u_nc b_nl u_co b_op b_ar u_le b_pi b_pa u_pd u_od b_ws b_hw u_la b_se b_re u_bk u_va u_su u_ce u_ho u_wy u_bt u_ps b_pt u_tg u_sn b_ip u_ic b_ah b_be b_me u_wd b_tr b_ld u_st b_wn u_id)), (b_tp, (arI G 400 v_tp))] hP hD ?_
      clear hP hD
      intro hP hD
      refine lv_aload_n hx hb dX12_must_16 rfl (lv_at hl 0 rfl) ?_
      refine W.eq (g2 := F0 m 17 ls [.ref b_o]) rfl ?_
      refine lv_aload_n hx hb dX12_must_17 rfl (lv_at hl 0 rfl) ?_
      refine va_get (D := G.1) (ci := 12) (v := .int u_fr) (C := RX12) (T := TX12) (N := 52) hx hb hts inG_X12 hown hK hP 0 rfl rfl 9 (by decide +kernel) (hts _ fl_X12_211) (fun _ h9 => h9) rfl dX12_must_18 ?_
      refine va_put (D := G.1) (ci := 12) (v := .int u_fr) (ty := .int) (C := RX12) (T := TX12) (N := 52) hx hb hts inG_X12 tyX12 tyX12_ok nmX12 hown hK hP hD hS 0 rfl rfl 13 (by decide +kernel) (hts _ fl_X12_26) (fun _ h9 => h9) rfl (by decide +kernel) rfl rfl (Nat.le_of_ble_eq_true rfl) dX12_must_21 ?_
      clear hP hD hS
      intro H locs hP hD hS
      refine g5_rs [(b_o, (oc12 u_th u_sa b_rf b_ro b_im b_ke u_fd b_tp u_td u_fr u_to u_so u_wo u_fr 1 u_nc b_nl u_co b_op b_ar u_le b_pi b_pa u_pd u_od b_ws b_hw u_la b_se b_re u_bk u_va u_su u_ce u_ho u_wy u_bt u_ps b_pt u_tg u_sn b_ip u_ic b_ah b_be b_me u_wd b_tr b_ld u_st b_wn u_id)), (b_tp, (arI G 400 v_tp))] hP hD ?_
      clear hP hD
      intro hP hD
      refine lv_aload_n hx hb dX12_must_24 rfl (lv_at hl 0 rfl) ?_
      refine va_get (D := G.1) (ci := 12) (v := .int 1) (C := RX12) (T := TX12) (N := 52) hx hb hts inG_X12 hown hK hP 0 rfl rfl 14 (by decide +kernel) (hts _ fl_X12_205) (fun _ h9 => h9) rfl dX12_must_25 ?_
      refine W.eq (g2 := F0 m 28 ls [.int 1]) rfl ?_
      refine lv_if_ne (tgt := 35) hx hb dX12_must_28 (by decide +kernel) (fun c_3 => ?_) (fun c_3 => ?_)
      ·
        exact W.vret hx hb hr (fun t ht hW => ⟨⟨[(b_o, (oc12 u_th u_sa b_rf b_ro b_im b_ke u_fd b_tp u_td u_fr u_to u_so u_wo u_fr 1 u_nc b_nl u_co b_op b_ar u_le b_pi b_pa u_pd u_od b_ws b_hw u_la b_se b_re u_bk u_va u_su u_ce u_ho u_wy u_bt u_ps b_pt u_tg u_sn b_ip u_ic b_ah b_be b_me u_wd b_tr b_ld u_st b_wn u_id)), (b_tp, (arI G 400 v_tp))], rfl, rfl, by rw [ht]; exact hP.sub [0, 1] rfl, hD.sub [0, 1] (by decide +kernel) rfl⟩, hS.F ht⟩) hS.2.2 dX12_must_35
      ·
        exact absurd c_3 (by decide +kernel)
theorem dgX12_emit_0 : ∀ r ∈ ([(0, (.aload_n 0, 1)), (1, (.getfield 33, 3)), (4, (.aload_n 0, 1)), (5, (.getfield 237, 3)), (8, (.iload_n 1, 1)), (9, (.iastore, 1)), (10, (.aload_n 0, 1)), (11, (.getfield 36, 3)), (14, (.aload_n 0, 1)), (15, (.getfield 237, 3)), (18, (.iload_n 2, 1)), (19, (.iastore, 1)), (20, (.aload_n 0, 1)), (21, (.dup, 1)), (22, (.getfield 237, 3)), (25, (.iconst 1, 1)), (26, (.iadd, 1)), (27, (.putfield 237, 3)), (30, (.return_, 1))] : List (Nat × (Instr × Nat))), decode cX12_emit r.1 = .ok r.2 := by decide +kernel
theorem dX12_emit_0 : decode cX12_emit 0 = .ok (.aload_n 0, 1) := dgX12_emit_0 (0, (.aload_n 0, 1)) (List.mem_of_getElem? (i := 0) rfl)
theorem dX12_emit_1 : decode cX12_emit 1 = .ok (.getfield 33, 3) := dgX12_emit_0 (1, (.getfield 33, 3)) (List.mem_of_getElem? (i := 1) rfl)
theorem dX12_emit_4 : decode cX12_emit 4 = .ok (.aload_n 0, 1) := dgX12_emit_0 (4, (.aload_n 0, 1)) (List.mem_of_getElem? (i := 2) rfl)
theorem dX12_emit_5 : decode cX12_emit 5 = .ok (.getfield 237, 3) := dgX12_emit_0 (5, (.getfield 237, 3)) (List.mem_of_getElem? (i := 3) rfl)
theorem dX12_emit_8 : decode cX12_emit 8 = .ok (.iload_n 1, 1) := dgX12_emit_0 (8, (.iload_n 1, 1)) (List.mem_of_getElem? (i := 4) rfl)
theorem dX12_emit_9 : decode cX12_emit 9 = .ok (.iastore, 1) := dgX12_emit_0 (9, (.iastore, 1)) (List.mem_of_getElem? (i := 5) rfl)
theorem dX12_emit_10 : decode cX12_emit 10 = .ok (.aload_n 0, 1) := dgX12_emit_0 (10, (.aload_n 0, 1)) (List.mem_of_getElem? (i := 6) rfl)
theorem dX12_emit_11 : decode cX12_emit 11 = .ok (.getfield 36, 3) := dgX12_emit_0 (11, (.getfield 36, 3)) (List.mem_of_getElem? (i := 7) rfl)
theorem dX12_emit_14 : decode cX12_emit 14 = .ok (.aload_n 0, 1) := dgX12_emit_0 (14, (.aload_n 0, 1)) (List.mem_of_getElem? (i := 8) rfl)
theorem dX12_emit_15 : decode cX12_emit 15 = .ok (.getfield 237, 3) := dgX12_emit_0 (15, (.getfield 237, 3)) (List.mem_of_getElem? (i := 9) rfl)
theorem dX12_emit_18 : decode cX12_emit 18 = .ok (.iload_n 2, 1) := dgX12_emit_0 (18, (.iload_n 2, 1)) (List.mem_of_getElem? (i := 10) rfl)
theorem dX12_emit_19 : decode cX12_emit 19 = .ok (.iastore, 1) := dgX12_emit_0 (19, (.iastore, 1)) (List.mem_of_getElem? (i := 11) rfl)
theorem dX12_emit_20 : decode cX12_emit 20 = .ok (.aload_n 0, 1) := dgX12_emit_0 (20, (.aload_n 0, 1)) (List.mem_of_getElem? (i := 12) rfl)
theorem dX12_emit_21 : decode cX12_emit 21 = .ok (.dup, 1) := dgX12_emit_0 (21, (.dup, 1)) (List.mem_of_getElem? (i := 13) rfl)
theorem dX12_emit_22 : decode cX12_emit 22 = .ok (.getfield 237, 3) := dgX12_emit_0 (22, (.getfield 237, 3)) (List.mem_of_getElem? (i := 14) rfl)
theorem dX12_emit_25 : decode cX12_emit 25 = .ok (.iconst 1, 1) := dgX12_emit_0 (25, (.iconst 1, 1)) (List.mem_of_getElem? (i := 15) rfl)
theorem dX12_emit_26 : decode cX12_emit 26 = .ok (.iadd, 1) := dgX12_emit_0 (26, (.iadd, 1)) (List.mem_of_getElem? (i := 16) rfl)
theorem dX12_emit_27 : decode cX12_emit 27 = .ok (.putfield 237, 3) := dgX12_emit_0 (27, (.putfield 237, 3)) (List.mem_of_getElem? (i := 17) rfl)
theorem dX12_emit_30 : decode cX12_emit 30 = .ok (.return_, 1) := dgX12_emit_0 (30, (.return_, 1)) (List.mem_of_getElem? (i := 18) rfl)
theorem fl_X12_33 : Cond.fieldLink RX12 33 "LateGlassModel" "nOp" "[I" ∈ tblG := tg 1221 (by decide +kernel) (by decide +kernel)
theorem fl_X12_237 : Cond.fieldLink RX12 237 "LateGlassModel" "nCode" "I" ∈ tblG := tg 1220 (by decide +kernel) (by decide +kernel)
theorem fl_X12_36 : Cond.fieldLink RX12 36 "LateGlassModel" "nArg" "[I" ∈ tblG := tg 1222 (by decide +kernel) (by decide +kernel)
set_option maxHeartbeats 4000000 in
set_option maxRecDepth 100000 in
theorem n_emit (l : Launch) (G : g5_G) (b_o b_op b_ar b_rf b_ro b_im b_ke b_tp b_nl b_pi b_pa b_ws b_hw b_se b_re b_pt b_ip b_ah b_be b_me b_tr b_ld b_wn : Nat) (sz : Nat) (u_th : Int32) (u_sa : Int32) (u_fd : Int32) (u_td : Int32) (u_fr : Int32) (u_to : Int32) (u_so : Int32) (u_fa : Int32) (u_bd : Int32) (u_nc : Int32) (u_co : Int32) (u_le : Int32) (u_pd : Int32) (u_od : Int32) (u_la : Int32) (u_bk : Int32) (u_ce : Int32) (u_ho : Int32) (u_wy : Int32) (u_bt : Int32) (u_ps : Int32) (u_tg : Int32) (u_sn : Int32) (u_ic : Int32) (u_wd : Int32) (u_id : Int32) (p_1 : Int32) (p_2 : Int32) (u_wo : Int64) (u_va : Int64) (u_su : Int64) (u_st : Int64) (v_op : Nat → Int32) (v_ar : Nat → Int32) (h_u_td : 0 ≤ u_td.toInt ∧ u_td.toInt ≤ 400) (h_u_fr : 0 ≤ u_fr.toInt ∧ u_fr.toInt ≤ 400) (h_u_to : 0 ≤ u_to.toInt ∧ u_to.toInt ≤ 400) (h_u_bd : 0 ≤ u_bd.toInt ∧ u_bd.toInt ≤ 1) (h_u_nc : 0 ≤ u_nc.toInt ∧ u_nc.toInt ≤ 12) (h_u_co : 0 ≤ u_co.toInt ∧ u_co.toInt ≤ 400) (h_u_pd : 0 ≤ u_pd.toInt ∧ u_pd.toInt ≤ 400) (h_u_la : 0 ≤ u_la.toInt ∧ u_la.toInt ≤ 4840) (h_u_bk : 0 ≤ u_bk.toInt ∧ u_bk.toInt ≤ 1) (h_u_ce : 0 ≤ u_ce.toInt ∧ u_ce.toInt ≤ 63) (h_u_ho : 0 ≤ u_ho.toInt ∧ u_ho.toInt ≤ 23) (h_u_wy : 0 ≤ u_wy.toInt ∧ u_wy.toInt ≤ 3) (h_u_bt : 0 ≤ u_bt.toInt ∧ u_bt.toInt ≤ 1000000) (h_u_ps : 0 ≤ u_ps.toInt ∧ u_ps.toInt ≤ 200) (h_u_ic : 0 ≤ u_ic.toInt ∧ u_ic.toInt ≤ 1) (h_u_id : 0 ≤ u_id.toInt ∧ u_id.toInt ≤ 1) (e_c : u_co.toInt < 400) : Met l yX12_emit (wsG yX12_emit cX12_emit 3 none) ({ frames := 0, cells := 0, slots := 0, locals := 0 }) (va_Pc [.ref b_o, .int p_1, .int p_2] (g5_P G [(b_o, (oc12 u_th u_sa b_rf b_ro b_im b_ke u_fd b_tp u_td u_fr u_to u_so u_wo u_fa u_bd u_nc b_nl u_co b_op b_ar u_le b_pi b_pa u_pd u_od b_ws b_hw u_la b_se b_re u_bk u_va u_su u_ce u_ho u_wy u_bt u_ps b_pt u_tg u_sn b_ip u_ic b_ah b_be b_me u_wd b_tr b_ld u_st b_wn u_id)), (b_op, (arI G 400 v_op)), (b_ar, (arI G 400 v_ar))] sz)) (va_Qv (fun (u : va_W) => (∃ (o_co : Int32), (0 ≤ o_co.toInt ∧ o_co.toInt ≤ 400) ∧ (o_co.toInt = u_co.toInt + 1) ∧ (u = [(b_o, (oc12 u_th u_sa b_rf b_ro b_im b_ke u_fd b_tp u_td u_fr u_to u_so u_wo u_fa u_bd u_nc b_nl o_co b_op b_ar u_le b_pi b_pa u_pd u_od b_ws b_hw u_la b_se b_re u_bk u_va u_su u_ce u_ho u_wy u_bt u_ps b_pt u_tg u_sn b_ip u_ic b_ah b_be b_me u_wd b_tr b_ld u_st b_wn u_id)), (b_op, (arI G 400 (upd v_op u_co.toNatClampNeg p_1))), (b_ar, (arI G 400 (upd v_ar u_co.toNatClampNeg p_2)))]))) (g5_B G (va_A [(b_o, (oc12 u_th u_sa b_rf b_ro b_im b_ke u_fd b_tp u_td u_fr u_to u_so u_wo u_fa u_bd u_nc b_nl u_co b_op b_ar u_le b_pi b_pa u_pd u_od b_ws b_hw u_la b_se b_re u_bk u_va u_su u_ce u_ho u_wy u_bt u_ps b_pt u_tg u_sn b_ip u_ic b_ah b_be b_me u_wd b_tr b_ld u_st b_wn u_id)), (b_op, (arI G 400 v_op)), (b_ar, (arI G 400 v_ar))] sz)) (va_A [(b_o, (oc12 u_th u_sa b_rf b_ro b_im b_ke u_fd b_tp u_td u_fr u_to u_so u_wo u_fa u_bd u_nc b_nl u_co b_op b_ar u_le b_pi b_pa u_pd u_od b_ws b_hw u_la b_se b_re u_bk u_va u_su u_ce u_ho u_wy u_bt u_ps b_pt u_tg u_sn b_ip u_ic b_ah b_be b_me u_wd b_tr b_ld u_st b_wn u_id)), (b_op, (arI G 400 v_op)), (b_ar, (arI G 400 v_ar))] sz)) 0 0 (va_A [(b_o, (oc12 u_th u_sa b_rf b_ro b_im b_ke u_fd b_tp u_td u_fr u_to u_so u_wo u_fa u_bd u_nc b_nl u_co b_op b_ar u_le b_pi b_pa u_pd u_od b_ws b_hw u_la b_se b_re u_bk u_va u_su u_ce u_ho u_wy u_bt u_ps b_pt u_tg u_sn b_ip u_ic b_ah b_be b_me u_wd b_tr b_ld u_st b_wn u_id)), (b_op, (arI G 400 v_op)), (b_ar, (arI G 400 v_ar))] sz) := by
  refine Met.ofW (cc := cX12_emit) (maxL := 3) (ret := none) (by decide +kernel) rfl ?_
  intro p e s m args below meth c s₁ B hml hv
  obtain ⟨rfl, hsz, hP, hK, hD0, hN, hT⟩ := hv
  have hx := B.exec
  have hb := B.bytes
  have hr := B.returns
  have hts : ∀ w ∈ tblG, w.before _ s = true := fun w h => atoms_spec (ws := (wsG yX12_emit cX12_emit 3 none)) B.pre w (List.mem_cons_of_mem _ h)
  have hown : s.vm.findClass RX12 = some m.cls := findClass_of_methodNamed B.named
  have hlocks := B.notSynchronized
  subst hsz
  have hD := hD0.self (sz := s.heap.size)
  generalize hAe : va_A [(b_o, (oc12 u_th u_sa b_rf b_ro b_im b_ke u_fd b_tp u_td u_fr u_to u_so u_wo u_fa u_bd u_nc b_nl u_co b_op b_ar u_le b_pi b_pa u_pd u_od b_ws b_hw u_la b_se b_re u_bk u_va u_su u_ce u_ho u_wy u_bt u_ps b_pt u_tg u_sn b_ip u_ic b_ah b_be b_me u_wd b_tr b_ld u_st b_wn u_id)), (b_op, (arI G 400 v_op)), (b_ar, (arI G 400 v_ar))] s.heap.size = A at hD hT ⊢
  have hA : ∀ q : Nat, s.heap.size ≤ q → A q := fun q h => by rw [← hAe]; exact Or.inr h
  have hS : va_S A s.heap s.heap [] := va_S.rf
  replace hP : va_P G.1 vwCl [(b_o, (oc12 u_th u_sa b_rf b_ro b_im b_ke u_fd b_tp u_td u_fr u_to u_so u_wo u_fa u_bd u_nc b_nl u_co b_op b_ar u_le b_pi b_pa u_pd u_od b_ws b_hw u_la b_se b_re u_bk u_va u_su u_ce u_ho u_wy u_bt u_ps b_pt u_tg u_sn b_ip u_ic b_ah b_be b_me u_wd b_tr b_ld u_st b_wn u_id)), (b_op, (arI G 400 v_op)), (b_ar, (arI G 400 v_ar))] s.heap := hP
  have hl := lv_entry ([.ref b_o, .int p_1, .int p_2]) (n := 3) (Nat.le_of_ble_eq_true rfl)
  rw [lg_entry_eq]
  generalize (lg_sl ([.ref b_o, .int p_1, .int p_2]) ++ List.replicate (3 - (lg_sl ([.ref b_o, .int p_1, .int p_2])).length) Slot.unset).toArray = ls at hl ⊢
  replace hl : lv_has ls 3 [(0, .ref b_o), (1, .int p_1), (2, .int p_2)] := hl
  refine lv_aload_n hx hb dX12_emit_0 rfl (lv_at hl 0 rfl) ?_
  refine va_get (D := G.1) (ci := 12) (v := .ref b_op) (C := RX12) (T := TX12) (N := 52) hx hb hts inG_X12 hown hK hP 0 rfl rfl 18 (by decide +kernel) (hts _ fl_X12_33) (fun _ h9 => h9) rfl dX12_emit_1 ?_
  refine lv_aload_n hx hb dX12_emit_4 rfl (lv_at hl 0 rfl) ?_
  refine va_get (D := G.1) (ci := 12) (v := .int u_co) (C := RX12) (T := TX12) (N := 52) hx hb hts inG_X12 hown hK hP 0 rfl rfl 17 (by decide +kernel) (hts _ fl_X12_237) (fun _ h9 => h9) rfl dX12_emit_5 ?_
  refine W.eq (g2 := F0 m 8 ls [.int u_co, .ref b_op]) rfl ?_
  refine lv_iload_n hx hb dX12_emit_8 rfl (lv_at hl 1 rfl) ?_
  refine va_iast hx hb hK hP hD hS 1 0 rfl rfl (i := u_co) (x := p_1) (vp_in_iff.mpr ⟨by omega, by omega⟩) dX12_emit_9 ?_
  clear hP hD hS
  intro H locs hP hD hS
  refine g5_rs [(b_o, (oc12 u_th u_sa b_rf b_ro b_im b_ke u_fd b_tp u_td u_fr u_to u_so u_wo u_fa u_bd u_nc b_nl u_co b_op b_ar u_le b_pi b_pa u_pd u_od b_ws b_hw u_la b_se b_re u_bk u_va u_su u_ce u_ho u_wy u_bt u_ps b_pt u_tg u_sn b_ip u_ic b_ah b_be b_me u_wd b_tr b_ld u_st b_wn u_id)), (b_op, (arI G 400 (upd v_op u_co.toNatClampNeg p_1))), (b_ar, (arI G 400 v_ar))] hP hD ?_
  clear hP hD
  intro hP hD
  refine lv_aload_n hx hb dX12_emit_10 rfl (lv_at hl 0 rfl) ?_
  refine va_get (D := G.1) (ci := 12) (v := .ref b_ar) (C := RX12) (T := TX12) (N := 52) hx hb hts inG_X12 hown hK hP 0 rfl rfl 19 (by decide +kernel) (hts _ fl_X12_36) (fun _ h9 => h9) rfl dX12_emit_11 ?_
  refine lv_aload_n hx hb dX12_emit_14 rfl (lv_at hl 0 rfl) ?_
  refine W.eq (g2 := F0 m 15 ls [.ref b_o, .ref b_ar]) rfl ?_
  refine va_get (D := G.1) (ci := 12) (v := .int u_co) (C := RX12) (T := TX12) (N := 52) hx hb hts inG_X12 hown hK hP 0 rfl rfl 17 (by decide +kernel) (hts _ fl_X12_237) (fun _ h9 => h9) rfl dX12_emit_15 ?_
  refine lv_iload_n hx hb dX12_emit_18 rfl (lv_at hl 2 rfl) ?_
  refine va_iast hx hb hK hP hD hS 2 0 rfl rfl (i := u_co) (x := p_2) (vp_in_iff.mpr ⟨by omega, by omega⟩) dX12_emit_19 ?_
  clear hP hD hS
  intro H locs hP hD hS
  refine g5_rs [(b_o, (oc12 u_th u_sa b_rf b_ro b_im b_ke u_fd b_tp u_td u_fr u_to u_so u_wo u_fa u_bd u_nc b_nl u_co b_op b_ar u_le b_pi b_pa u_pd u_od b_ws b_hw u_la b_se b_re u_bk u_va u_su u_ce u_ho u_wy u_bt u_ps b_pt u_tg u_sn b_ip u_ic b_ah b_be b_me u_wd b_tr b_ld u_st b_wn u_id)), (b_op, (arI G 400 (upd v_op u_co.toNatClampNeg p_1))), (b_ar, (arI G 400 (upd v_ar u_co.toNatClampNeg p_2)))] hP hD ?_
  clear hP hD
  intro hP hD
  refine lv_aload_n hx hb dX12_emit_20 rfl (lv_at hl 0 rfl) ?_
  refine lv_dup hx hb dX12_emit_21 rfl ?_
  refine W.eq (g2 := F0 m 22 ls [.ref b_o, .ref b_o]) rfl ?_
  refine va_get (D := G.1) (ci := 12) (v := .int u_co) (C := RX12) (T := TX12) (N := 52) hx hb hts inG_X12 hown hK hP 0 rfl rfl 17 (by decide +kernel) (hts _ fl_X12_237) (fun _ h9 => h9) rfl dX12_emit_22 ?_
  refine lv_iconst (v := 1) hx hb dX12_emit_25 (by decide +kernel) ?_
  refine lv_iadd hx hb dX12_emit_26 ?_
  have t_1 : (u_co + 1).toInt = u_co.toInt + 1 := g5_iadd (a := u_co.toInt) (b := 1) (by rfl) (by decide +kernel) (by omega) (by omega)
  refine va_put (D := G.1) (ci := 12) (v := .int (u_co + 1)) (ty := .int) (C := RX12) (T := TX12) (N := 52) hx hb hts inG_X12 tyX12 tyX12_ok nmX12 hown hK hP hD hS 0 rfl rfl 17 (by decide +kernel) (hts _ fl_X12_237) (fun _ h9 => h9) rfl (by decide +kernel) rfl rfl (Nat.le_of_ble_eq_true rfl) dX12_emit_27 ?_
  clear hP hD hS
  intro H locs hP hD hS
  refine g5_rs [(b_o, (oc12 u_th u_sa b_rf b_ro b_im b_ke u_fd b_tp u_td u_fr u_to u_so u_wo u_fa u_bd u_nc b_nl (u_co + 1) b_op b_ar u_le b_pi b_pa u_pd u_od b_ws b_hw u_la b_se b_re u_bk u_va u_su u_ce u_ho u_wy u_bt u_ps b_pt u_tg u_sn b_ip u_ic b_ah b_be b_me u_wd b_tr b_ld u_st b_wn u_id)), (b_op, (arI G 400 (upd v_op u_co.toNatClampNeg p_1))), (b_ar, (arI G 400 (upd v_ar u_co.toNatClampNeg p_2)))] hP hD ?_
  clear hP hD
  intro hP hD
  exact W.vret hx hb hr (fun t ht hW => ⟨⟨[(b_o, (oc12 u_th u_sa b_rf b_ro b_im b_ke u_fd b_tp u_td u_fr u_to u_so u_wo u_fa u_bd u_nc b_nl (u_co + 1) b_op b_ar u_le b_pi b_pa u_pd u_od b_ws b_hw u_la b_se b_re u_bk u_va u_su u_ce u_ho u_wy u_bt u_ps b_pt u_tg u_sn b_ip u_ic b_ah b_be b_me u_wd b_tr b_ld u_st b_wn u_id)), (b_op, (arI G 400 (upd v_op u_co.toNatClampNeg p_1))), (b_ar, (arI G 400 (upd v_ar u_co.toNatClampNeg p_2)))], rfl, ⟨(u_co + 1), ⟨by omega, by omega⟩, by omega, rfl⟩, by rw [ht]; exact hP.sub [0, 1, 2] rfl, hD.sub [0, 1, 2] (by decide +kernel) rfl⟩, hS.F ht⟩) hS.2.2 dX12_emit_30
theorem dgX12_push_0 : ∀ r ∈ ([(0, (.aload_n 0, 1)), (1, (.getfield 39, 3)), (4, (.aload_n 0, 1)), (5, (.getfield 240, 3)), (8, (.iload_n 1, 1)), (9, (.iastore, 1)), (10, (.aload_n 0, 1)), (11, (.getfield 42, 3)), (14, (.aload_n 0, 1)), (15, (.getfield 240, 3)), (18, (.iload_n 2, 1)), (19, (.iastore, 1)), (20, (.aload_n 0, 1)), (21, (.dup, 1)), (22, (.getfield 240, 3)), (25, (.iconst 1, 1)), (26, (.iadd, 1)), (27, (.putfield 240, 3)), (30, (.return_, 1))] : List (Nat × (Instr × Nat))), decode cX12_push r.1 = .ok r.2 := by decide +kernel
theorem dX12_push_0 : decode cX12_push 0 = .ok (.aload_n 0, 1) := dgX12_push_0 (0, (.aload_n 0, 1)) (List.mem_of_getElem? (i := 0) rfl)
theorem dX12_push_1 : decode cX12_push 1 = .ok (.getfield 39, 3) := dgX12_push_0 (1, (.getfield 39, 3)) (List.mem_of_getElem? (i := 1) rfl)
theorem dX12_push_4 : decode cX12_push 4 = .ok (.aload_n 0, 1) := dgX12_push_0 (4, (.aload_n 0, 1)) (List.mem_of_getElem? (i := 2) rfl)
theorem dX12_push_5 : decode cX12_push 5 = .ok (.getfield 240, 3) := dgX12_push_0 (5, (.getfield 240, 3)) (List.mem_of_getElem? (i := 3) rfl)
theorem dX12_push_8 : decode cX12_push 8 = .ok (.iload_n 1, 1) := dgX12_push_0 (8, (.iload_n 1, 1)) (List.mem_of_getElem? (i := 4) rfl)
theorem dX12_push_9 : decode cX12_push 9 = .ok (.iastore, 1) := dgX12_push_0 (9, (.iastore, 1)) (List.mem_of_getElem? (i := 5) rfl)
theorem dX12_push_10 : decode cX12_push 10 = .ok (.aload_n 0, 1) := dgX12_push_0 (10, (.aload_n 0, 1)) (List.mem_of_getElem? (i := 6) rfl)
theorem dX12_push_11 : decode cX12_push 11 = .ok (.getfield 42, 3) := dgX12_push_0 (11, (.getfield 42, 3)) (List.mem_of_getElem? (i := 7) rfl)
theorem dX12_push_14 : decode cX12_push 14 = .ok (.aload_n 0, 1) := dgX12_push_0 (14, (.aload_n 0, 1)) (List.mem_of_getElem? (i := 8) rfl)
theorem dX12_push_15 : decode cX12_push 15 = .ok (.getfield 240, 3) := dgX12_push_0 (15, (.getfield 240, 3)) (List.mem_of_getElem? (i := 9) rfl)
theorem dX12_push_18 : decode cX12_push 18 = .ok (.iload_n 2, 1) := dgX12_push_0 (18, (.iload_n 2, 1)) (List.mem_of_getElem? (i := 10) rfl)
theorem dX12_push_19 : decode cX12_push 19 = .ok (.iastore, 1) := dgX12_push_0 (19, (.iastore, 1)) (List.mem_of_getElem? (i := 11) rfl)
theorem dX12_push_20 : decode cX12_push 20 = .ok (.aload_n 0, 1) := dgX12_push_0 (20, (.aload_n 0, 1)) (List.mem_of_getElem? (i := 12) rfl)
theorem dX12_push_21 : decode cX12_push 21 = .ok (.dup, 1) := dgX12_push_0 (21, (.dup, 1)) (List.mem_of_getElem? (i := 13) rfl)
theorem dX12_push_22 : decode cX12_push 22 = .ok (.getfield 240, 3) := dgX12_push_0 (22, (.getfield 240, 3)) (List.mem_of_getElem? (i := 14) rfl)
theorem dX12_push_25 : decode cX12_push 25 = .ok (.iconst 1, 1) := dgX12_push_0 (25, (.iconst 1, 1)) (List.mem_of_getElem? (i := 15) rfl)
theorem dX12_push_26 : decode cX12_push 26 = .ok (.iadd, 1) := dgX12_push_0 (26, (.iadd, 1)) (List.mem_of_getElem? (i := 16) rfl)
theorem dX12_push_27 : decode cX12_push 27 = .ok (.putfield 240, 3) := dgX12_push_0 (27, (.putfield 240, 3)) (List.mem_of_getElem? (i := 17) rfl)
theorem dX12_push_30 : decode cX12_push 30 = .ok (.return_, 1) := dgX12_push_0 (30, (.return_, 1)) (List.mem_of_getElem? (i := 18) rfl)
theorem fl_X12_39 : Cond.fieldLink RX12 39 "LateGlassModel" "pile" "[I" ∈ tblG := tg 1224 (by decide +kernel) (by decide +kernel)
theorem fl_X12_240 : Cond.fieldLink RX12 240 "LateGlassModel" "piled" "I" ∈ tblG := tg 1226 (by decide +kernel) (by decide +kernel)
theorem fl_X12_42 : Cond.fieldLink RX12 42 "LateGlassModel" "pileAt" "[I" ∈ tblG := tg 1225 (by decide +kernel) (by decide +kernel)
set_option maxHeartbeats 4000000 in
set_option maxRecDepth 100000 in
theorem n_push (l : Launch) (G : g5_G) (b_o b_pi b_pa b_rf b_ro b_im b_ke b_tp b_nl b_op b_ar b_ws b_hw b_se b_re b_pt b_ip b_ah b_be b_me b_tr b_ld b_wn : Nat) (sz : Nat) (u_th : Int32) (u_sa : Int32) (u_fd : Int32) (u_td : Int32) (u_fr : Int32) (u_to : Int32) (u_so : Int32) (u_fa : Int32) (u_bd : Int32) (u_nc : Int32) (u_co : Int32) (u_le : Int32) (u_pd : Int32) (u_od : Int32) (u_la : Int32) (u_bk : Int32) (u_ce : Int32) (u_ho : Int32) (u_wy : Int32) (u_bt : Int32) (u_ps : Int32) (u_tg : Int32) (u_sn : Int32) (u_ic : Int32) (u_wd : Int32) (u_id : Int32) (p_1 : Int32) (p_2 : Int32) (u_wo : Int64) (u_va : Int64) (u_su : Int64) (u_st : Int64) (v_pi : Nat → Int32) (v_pa : Nat → Int32) (h_u_td : 0 ≤ u_td.toInt ∧ u_td.toInt ≤ 400) (h_u_fr : 0 ≤ u_fr.toInt ∧ u_fr.toInt ≤ 400) (h_u_to : 0 ≤ u_to.toInt ∧ u_to.toInt ≤ 400) (h_u_bd : 0 ≤ u_bd.toInt ∧ u_bd.toInt ≤ 1) (h_u_nc : 0 ≤ u_nc.toInt ∧ u_nc.toInt ≤ 12) (h_u_co : 0 ≤ u_co.toInt ∧ u_co.toInt ≤ 400) (h_u_pd : 0 ≤ u_pd.toInt ∧ u_pd.toInt ≤ 400) (h_u_la : 0 ≤ u_la.toInt ∧ u_la.toInt ≤ 4840) (h_u_bk : 0 ≤ u_bk.toInt ∧ u_bk.toInt ≤ 1) (h_u_ce : 0 ≤ u_ce.toInt ∧ u_ce.toInt ≤ 63) (h_u_ho : 0 ≤ u_ho.toInt ∧ u_ho.toInt ≤ 23) (h_u_wy : 0 ≤ u_wy.toInt ∧ u_wy.toInt ≤ 3) (h_u_bt : 0 ≤ u_bt.toInt ∧ u_bt.toInt ≤ 1000000) (h_u_ps : 0 ≤ u_ps.toInt ∧ u_ps.toInt ≤ 200) (h_u_ic : 0 ≤ u_ic.toInt ∧ u_ic.toInt ≤ 1) (h_u_id : 0 ≤ u_id.toInt ∧ u_id.toInt ≤ 1) (e_c : u_pd.toInt < 400) : Met l yX12_push (wsG yX12_push cX12_push 3 none) ({ frames := 0, cells := 0, slots := 0, locals := 0 }) (va_Pc [.ref b_o, .int p_1, .int p_2] (g5_P G [(b_o, (oc12 u_th u_sa b_rf b_ro b_im b_ke u_fd b_tp u_td u_fr u_to u_so u_wo u_fa u_bd u_nc b_nl u_co b_op b_ar u_le b_pi b_pa u_pd u_od b_ws b_hw u_la b_se b_re u_bk u_va u_su u_ce u_ho u_wy u_bt u_ps b_pt u_tg u_sn b_ip u_ic b_ah b_be b_me u_wd b_tr b_ld u_st b_wn u_id)), (b_pi, (arI G 400 v_pi)), (b_pa, (arI G 400 v_pa))] sz)) (va_Qv (fun (u : va_W) => (∃ (o_pd : Int32), (0 ≤ o_pd.toInt ∧ o_pd.toInt ≤ 400) ∧ (o_pd.toInt = u_pd.toInt + 1) ∧ (u = [(b_o, (oc12 u_th u_sa b_rf b_ro b_im b_ke u_fd b_tp u_td u_fr u_to u_so u_wo u_fa u_bd u_nc b_nl u_co b_op b_ar u_le b_pi b_pa o_pd u_od b_ws b_hw u_la b_se b_re u_bk u_va u_su u_ce u_ho u_wy u_bt u_ps b_pt u_tg u_sn b_ip u_ic b_ah b_be b_me u_wd b_tr b_ld u_st b_wn u_id)), (b_pi, (arI G 400 (upd v_pi u_pd.toNatClampNeg p_1))), (b_pa, (arI G 400 (upd v_pa u_pd.toNatClampNeg p_2)))]))) (g5_B G (va_A [(b_o, (oc12 u_th u_sa b_rf b_ro b_im b_ke u_fd b_tp u_td u_fr u_to u_so u_wo u_fa u_bd u_nc b_nl u_co b_op b_ar u_le b_pi b_pa u_pd u_od b_ws b_hw u_la b_se b_re u_bk u_va u_su u_ce u_ho u_wy u_bt u_ps b_pt u_tg u_sn b_ip u_ic b_ah b_be b_me u_wd b_tr b_ld u_st b_wn u_id)), (b_pi, (arI G 400 v_pi)), (b_pa, (arI G 400 v_pa))] sz)) (va_A [(b_o, (oc12 u_th u_sa b_rf b_ro b_im b_ke u_fd b_tp u_td u_fr u_to u_so u_wo u_fa u_bd u_nc b_nl u_co b_op b_ar u_le b_pi b_pa u_pd u_od b_ws b_hw u_la b_se b_re u_bk u_va u_su u_ce u_ho u_wy u_bt u_ps b_pt u_tg u_sn b_ip u_ic b_ah b_be b_me u_wd b_tr b_ld u_st b_wn u_id)), (b_pi, (arI G 400 v_pi)), (b_pa, (arI G 400 v_pa))] sz)) 0 0 (va_A [(b_o, (oc12 u_th u_sa b_rf b_ro b_im b_ke u_fd b_tp u_td u_fr u_to u_so u_wo u_fa u_bd u_nc b_nl u_co b_op b_ar u_le b_pi b_pa u_pd u_od b_ws b_hw u_la b_se b_re u_bk u_va u_su u_ce u_ho u_wy u_bt u_ps b_pt u_tg u_sn b_ip u_ic b_ah b_be b_me u_wd b_tr b_ld u_st b_wn u_id)), (b_pi, (arI G 400 v_pi)), (b_pa, (arI G 400 v_pa))] sz) := by
  refine Met.ofW (cc := cX12_push) (maxL := 3) (ret := none) (by decide +kernel) rfl ?_
  intro p e s m args below meth c s₁ B hml hv
  obtain ⟨rfl, hsz, hP, hK, hD0, hN, hT⟩ := hv
  have hx := B.exec
  have hb := B.bytes
  have hr := B.returns
  have hts : ∀ w ∈ tblG, w.before _ s = true := fun w h => atoms_spec (ws := (wsG yX12_push cX12_push 3 none)) B.pre w (List.mem_cons_of_mem _ h)
  have hown : s.vm.findClass RX12 = some m.cls := findClass_of_methodNamed B.named
  have hlocks := B.notSynchronized
  subst hsz
  have hD := hD0.self (sz := s.heap.size)
  generalize hAe : va_A [(b_o, (oc12 u_th u_sa b_rf b_ro b_im b_ke u_fd b_tp u_td u_fr u_to u_so u_wo u_fa u_bd u_nc b_nl u_co b_op b_ar u_le b_pi b_pa u_pd u_od b_ws b_hw u_la b_se b_re u_bk u_va u_su u_ce u_ho u_wy u_bt u_ps b_pt u_tg u_sn b_ip u_ic b_ah b_be b_me u_wd b_tr b_ld u_st b_wn u_id)), (b_pi, (arI G 400 v_pi)), (b_pa, (arI G 400 v_pa))] s.heap.size = A at hD hT ⊢
  have hA : ∀ q : Nat, s.heap.size ≤ q → A q := fun q h => by rw [← hAe]; exact Or.inr h
  have hS : va_S A s.heap s.heap [] := va_S.rf
  replace hP : va_P G.1 vwCl [(b_o, (oc12 u_th u_sa b_rf b_ro b_im b_ke u_fd b_tp u_td u_fr u_to u_so u_wo u_fa u_bd u_nc b_nl u_co b_op b_ar u_le b_pi b_pa u_pd u_od b_ws b_hw u_la b_se b_re u_bk u_va u_su u_ce u_ho u_wy u_bt u_ps b_pt u_tg u_sn b_ip u_ic b_ah b_be b_me u_wd b_tr b_ld u_st b_wn u_id)), (b_pi, (arI G 400 v_pi)), (b_pa, (arI G 400 v_pa))] s.heap := hP
  have hl := lv_entry ([.ref b_o, .int p_1, .int p_2]) (n := 3) (Nat.le_of_ble_eq_true rfl)
  rw [lg_entry_eq]
  generalize (lg_sl ([.ref b_o, .int p_1, .int p_2]) ++ List.replicate (3 - (lg_sl ([.ref b_o, .int p_1, .int p_2])).length) Slot.unset).toArray = ls at hl ⊢
  replace hl : lv_has ls 3 [(0, .ref b_o), (1, .int p_1), (2, .int p_2)] := hl
  refine lv_aload_n hx hb dX12_push_0 rfl (lv_at hl 0 rfl) ?_
  refine va_get (D := G.1) (ci := 12) (v := .ref b_pi) (C := RX12) (T := TX12) (N := 52) hx hb hts inG_X12 hown hK hP 0 rfl rfl 21 (by decide +kernel) (hts _ fl_X12_39) (fun _ h9 => h9) rfl dX12_push_1 ?_
  refine lv_aload_n hx hb dX12_push_4 rfl (lv_at hl 0 rfl) ?_
  refine va_get (D := G.1) (ci := 12) (v := .int u_pd) (C := RX12) (T := TX12) (N := 52) hx hb hts inG_X12 hown hK hP 0 rfl rfl 23 (by decide +kernel) (hts _ fl_X12_240) (fun _ h9 => h9) rfl dX12_push_5 ?_
  refine W.eq (g2 := F0 m 8 ls [.int u_pd, .ref b_pi]) rfl ?_
  refine lv_iload_n hx hb dX12_push_8 rfl (lv_at hl 1 rfl) ?_
  refine va_iast hx hb hK hP hD hS 1 0 rfl rfl (i := u_pd) (x := p_1) (vp_in_iff.mpr ⟨by omega, by omega⟩) dX12_push_9 ?_
  clear hP hD hS
  intro H locs hP hD hS
  refine g5_rs [(b_o, (oc12 u_th u_sa b_rf b_ro b_im b_ke u_fd b_tp u_td u_fr u_to u_so u_wo u_fa u_bd u_nc b_nl u_co b_op b_ar u_le b_pi b_pa u_pd u_od b_ws b_hw u_la b_se b_re u_bk u_va u_su u_ce u_ho u_wy u_bt u_ps b_pt u_tg u_sn b_ip u_ic b_ah b_be b_me u_wd b_tr b_ld u_st b_wn u_id)), (b_pi, (arI G 400 (upd v_pi u_pd.toNatClampNeg p_1))), (b_pa, (arI G 400 v_pa))] hP hD ?_
  clear hP hD
  intro hP hD
  refine lv_aload_n hx hb dX12_push_10 rfl (lv_at hl 0 rfl) ?_
  refine va_get (D := G.1) (ci := 12) (v := .ref b_pa) (C := RX12) (T := TX12) (N := 52) hx hb hts inG_X12 hown hK hP 0 rfl rfl 22 (by decide +kernel) (hts _ fl_X12_42) (fun _ h9 => h9) rfl dX12_push_11 ?_
  refine lv_aload_n hx hb dX12_push_14 rfl (lv_at hl 0 rfl) ?_
  refine W.eq (g2 := F0 m 15 ls [.ref b_o, .ref b_pa]) rfl ?_
  refine va_get (D := G.1) (ci := 12) (v := .int u_pd) (C := RX12) (T := TX12) (N := 52) hx hb hts inG_X12 hown hK hP 0 rfl rfl 23 (by decide +kernel) (hts _ fl_X12_240) (fun _ h9 => h9) rfl dX12_push_15 ?_
  refine lv_iload_n hx hb dX12_push_18 rfl (lv_at hl 2 rfl) ?_
  refine va_iast hx hb hK hP hD hS 2 0 rfl rfl (i := u_pd) (x := p_2) (vp_in_iff.mpr ⟨by omega, by omega⟩) dX12_push_19 ?_
  clear hP hD hS
  intro H locs hP hD hS
  refine g5_rs [(b_o, (oc12 u_th u_sa b_rf b_ro b_im b_ke u_fd b_tp u_td u_fr u_to u_so u_wo u_fa u_bd u_nc b_nl u_co b_op b_ar u_le b_pi b_pa u_pd u_od b_ws b_hw u_la b_se b_re u_bk u_va u_su u_ce u_ho u_wy u_bt u_ps b_pt u_tg u_sn b_ip u_ic b_ah b_be b_me u_wd b_tr b_ld u_st b_wn u_id)), (b_pi, (arI G 400 (upd v_pi u_pd.toNatClampNeg p_1))), (b_pa, (arI G 400 (upd v_pa u_pd.toNatClampNeg p_2)))] hP hD ?_
  clear hP hD
  intro hP hD
  refine lv_aload_n hx hb dX12_push_20 rfl (lv_at hl 0 rfl) ?_
  refine lv_dup hx hb dX12_push_21 rfl ?_
  refine W.eq (g2 := F0 m 22 ls [.ref b_o, .ref b_o]) rfl ?_
  refine va_get (D := G.1) (ci := 12) (v := .int u_pd) (C := RX12) (T := TX12) (N := 52) hx hb hts inG_X12 hown hK hP 0 rfl rfl 23 (by decide +kernel) (hts _ fl_X12_240) (fun _ h9 => h9) rfl dX12_push_22 ?_
  refine lv_iconst (v := 1) hx hb dX12_push_25 (by decide +kernel) ?_
  refine lv_iadd hx hb dX12_push_26 ?_
  have t_1 : (u_pd + 1).toInt = u_pd.toInt + 1 := g5_iadd (a := u_pd.toInt) (b := 1) (by rfl) (by decide +kernel) (by omega) (by omega)
  refine va_put (D := G.1) (ci := 12) (v := .int (u_pd + 1)) (ty := .int) (C := RX12) (T := TX12) (N := 52) hx hb hts inG_X12 tyX12 tyX12_ok nmX12 hown hK hP hD hS 0 rfl rfl 23 (by decide +kernel) (hts _ fl_X12_240) (fun _ h9 => h9) rfl (by decide +kernel) rfl rfl (Nat.le_of_ble_eq_true rfl) dX12_push_27 ?_
  clear hP hD hS
  intro H locs hP hD hS
  refine g5_rs [(b_o, (oc12 u_th u_sa b_rf b_ro b_im b_ke u_fd b_tp u_td u_fr u_to u_so u_wo u_fa u_bd u_nc b_nl u_co b_op b_ar u_le b_pi b_pa (u_pd + 1) u_od b_ws b_hw u_la b_se b_re u_bk u_va u_su u_ce u_ho u_wy u_bt u_ps b_pt u_tg u_sn b_ip u_ic b_ah b_be b_me u_wd b_tr b_ld u_st b_wn u_id)), (b_pi, (arI G 400 (upd v_pi u_pd.toNatClampNeg p_1))), (b_pa, (arI G 400 (upd v_pa u_pd.toNatClampNeg p_2)))] hP hD ?_
  clear hP hD
  intro hP hD
  exact W.vret hx hb hr (fun t ht hW => ⟨⟨[(b_o, (oc12 u_th u_sa b_rf b_ro b_im b_ke u_fd b_tp u_td u_fr u_to u_so u_wo u_fa u_bd u_nc b_nl u_co b_op b_ar u_le b_pi b_pa (u_pd + 1) u_od b_ws b_hw u_la b_se b_re u_bk u_va u_su u_ce u_ho u_wy u_bt u_ps b_pt u_tg u_sn b_ip u_ic b_ah b_be b_me u_wd b_tr b_ld u_st b_wn u_id)), (b_pi, (arI G 400 (upd v_pi u_pd.toNatClampNeg p_1))), (b_pa, (arI G 400 (upd v_pa u_pd.toNatClampNeg p_2)))], rfl, ⟨(u_pd + 1), ⟨by omega, by omega⟩, by omega, rfl⟩, by rw [ht]; exact hP.sub [0, 1, 2] rfl, hD.sub [0, 1, 2] (by decide +kernel) rfl⟩, hS.F ht⟩) hS.2.2 dX12_push_30
theorem dgX12_binds_0 : ∀ r ∈ ([(0, (.iload_n 0, 1)), (1, (.bipush 30, 2)), (3, (.if_icmp .lt 7, 3)), (6, (.iconst 0, 1)), (7, (.goto 55, 3)), (10, (.iload_n 0, 1)), (11, (.bipush 29, 2)), (13, (.if_icmp .ne 7, 3)), (16, (.iconst 1, 1)), (17, (.goto 45, 3)), (20, (.iload_n 0, 1)), (21, (.bipush 28, 2)), (23, (.if_icmp .ne 7, 3)), (26, (.iconst 2, 1)), (27, (.goto 35, 3)), (30, (.iload_n 0, 1)), (31, (.bipush 27, 2)), (33, (.if_icmp .ne 7, 3)), (36, (.iconst 3, 1)), (37, (.goto 25, 3)), (40, (.iload_n 0, 1)), (41, (.bipush 24, 2)), (43, (.if_icmp .lt 7, 3)), (46, (.iconst 4, 1)), (47, (.goto 15, 3)), (50, (.iload_n 0, 1)), (51, (.bipush 22, 2)), (53, (.if_icmp .lt 8, 3)), (56, (.bipush 6, 2)), (58, (.goto 4, 3)), (61, (.iconst 5, 1)), (62, (.ireturn, 1))] : List (Nat × (Instr × Nat))), decode cX12_binds r.1 = .ok r.2 := by decide +kernel
theorem dX12_binds_0 : decode cX12_binds 0 = .ok (.iload_n 0, 1) := dgX12_binds_0 (0, (.iload_n 0, 1)) (List.mem_of_getElem? (i := 0) rfl)
theorem dX12_binds_1 : decode cX12_binds 1 = .ok (.bipush 30, 2) := dgX12_binds_0 (1, (.bipush 30, 2)) (List.mem_of_getElem? (i := 1) rfl)
theorem dX12_binds_3 : decode cX12_binds 3 = .ok (.if_icmp .lt 7, 3) := dgX12_binds_0 (3, (.if_icmp .lt 7, 3)) (List.mem_of_getElem? (i := 2) rfl)
theorem dX12_binds_6 : decode cX12_binds 6 = .ok (.iconst 0, 1) := dgX12_binds_0 (6, (.iconst 0, 1)) (List.mem_of_getElem? (i := 3) rfl)
theorem dX12_binds_7 : decode cX12_binds 7 = .ok (.goto 55, 3) := dgX12_binds_0 (7, (.goto 55, 3)) (List.mem_of_getElem? (i := 4) rfl)
theorem dX12_binds_10 : decode cX12_binds 10 = .ok (.iload_n 0, 1) := dgX12_binds_0 (10, (.iload_n 0, 1)) (List.mem_of_getElem? (i := 5) rfl)
theorem dX12_binds_11 : decode cX12_binds 11 = .ok (.bipush 29, 2) := dgX12_binds_0 (11, (.bipush 29, 2)) (List.mem_of_getElem? (i := 6) rfl)
theorem dX12_binds_13 : decode cX12_binds 13 = .ok (.if_icmp .ne 7, 3) := dgX12_binds_0 (13, (.if_icmp .ne 7, 3)) (List.mem_of_getElem? (i := 7) rfl)
theorem dX12_binds_16 : decode cX12_binds 16 = .ok (.iconst 1, 1) := dgX12_binds_0 (16, (.iconst 1, 1)) (List.mem_of_getElem? (i := 8) rfl)
theorem dX12_binds_17 : decode cX12_binds 17 = .ok (.goto 45, 3) := dgX12_binds_0 (17, (.goto 45, 3)) (List.mem_of_getElem? (i := 9) rfl)
theorem dX12_binds_20 : decode cX12_binds 20 = .ok (.iload_n 0, 1) := dgX12_binds_0 (20, (.iload_n 0, 1)) (List.mem_of_getElem? (i := 10) rfl)
theorem dX12_binds_21 : decode cX12_binds 21 = .ok (.bipush 28, 2) := dgX12_binds_0 (21, (.bipush 28, 2)) (List.mem_of_getElem? (i := 11) rfl)
theorem dX12_binds_23 : decode cX12_binds 23 = .ok (.if_icmp .ne 7, 3) := dgX12_binds_0 (23, (.if_icmp .ne 7, 3)) (List.mem_of_getElem? (i := 12) rfl)
theorem dX12_binds_26 : decode cX12_binds 26 = .ok (.iconst 2, 1) := dgX12_binds_0 (26, (.iconst 2, 1)) (List.mem_of_getElem? (i := 13) rfl)
theorem dX12_binds_27 : decode cX12_binds 27 = .ok (.goto 35, 3) := dgX12_binds_0 (27, (.goto 35, 3)) (List.mem_of_getElem? (i := 14) rfl)
theorem dX12_binds_30 : decode cX12_binds 30 = .ok (.iload_n 0, 1) := dgX12_binds_0 (30, (.iload_n 0, 1)) (List.mem_of_getElem? (i := 15) rfl)
theorem dX12_binds_31 : decode cX12_binds 31 = .ok (.bipush 27, 2) := dgX12_binds_0 (31, (.bipush 27, 2)) (List.mem_of_getElem? (i := 16) rfl)
theorem dX12_binds_33 : decode cX12_binds 33 = .ok (.if_icmp .ne 7, 3) := dgX12_binds_0 (33, (.if_icmp .ne 7, 3)) (List.mem_of_getElem? (i := 17) rfl)
theorem dX12_binds_36 : decode cX12_binds 36 = .ok (.iconst 3, 1) := dgX12_binds_0 (36, (.iconst 3, 1)) (List.mem_of_getElem? (i := 18) rfl)
theorem dX12_binds_37 : decode cX12_binds 37 = .ok (.goto 25, 3) := dgX12_binds_0 (37, (.goto 25, 3)) (List.mem_of_getElem? (i := 19) rfl)
theorem dX12_binds_40 : decode cX12_binds 40 = .ok (.iload_n 0, 1) := dgX12_binds_0 (40, (.iload_n 0, 1)) (List.mem_of_getElem? (i := 20) rfl)
theorem dX12_binds_41 : decode cX12_binds 41 = .ok (.bipush 24, 2) := dgX12_binds_0 (41, (.bipush 24, 2)) (List.mem_of_getElem? (i := 21) rfl)
theorem dX12_binds_43 : decode cX12_binds 43 = .ok (.if_icmp .lt 7, 3) := dgX12_binds_0 (43, (.if_icmp .lt 7, 3)) (List.mem_of_getElem? (i := 22) rfl)
theorem dX12_binds_46 : decode cX12_binds 46 = .ok (.iconst 4, 1) := dgX12_binds_0 (46, (.iconst 4, 1)) (List.mem_of_getElem? (i := 23) rfl)
theorem dX12_binds_47 : decode cX12_binds 47 = .ok (.goto 15, 3) := dgX12_binds_0 (47, (.goto 15, 3)) (List.mem_of_getElem? (i := 24) rfl)
theorem dX12_binds_50 : decode cX12_binds 50 = .ok (.iload_n 0, 1) := dgX12_binds_0 (50, (.iload_n 0, 1)) (List.mem_of_getElem? (i := 25) rfl)
theorem dX12_binds_51 : decode cX12_binds 51 = .ok (.bipush 22, 2) := dgX12_binds_0 (51, (.bipush 22, 2)) (List.mem_of_getElem? (i := 26) rfl)
theorem dX12_binds_53 : decode cX12_binds 53 = .ok (.if_icmp .lt 8, 3) := dgX12_binds_0 (53, (.if_icmp .lt 8, 3)) (List.mem_of_getElem? (i := 27) rfl)
theorem dX12_binds_56 : decode cX12_binds 56 = .ok (.bipush 6, 2) := dgX12_binds_0 (56, (.bipush 6, 2)) (List.mem_of_getElem? (i := 28) rfl)
theorem dX12_binds_58 : decode cX12_binds 58 = .ok (.goto 4, 3) := dgX12_binds_0 (58, (.goto 4, 3)) (List.mem_of_getElem? (i := 29) rfl)
theorem dX12_binds_61 : decode cX12_binds 61 = .ok (.iconst 5, 1) := dgX12_binds_0 (61, (.iconst 5, 1)) (List.mem_of_getElem? (i := 30) rfl)
theorem dX12_binds_62 : decode cX12_binds 62 = .ok (.ireturn, 1) := dgX12_binds_0 (62, (.ireturn, 1)) (List.mem_of_getElem? (i := 31) rfl)
set_option maxHeartbeats 4000000 in
set_option maxRecDepth 100000 in
theorem n_binds (l : Launch) (G : g5_G) (sz : Nat) (p_0 : Int32) (h_p_0 : 20 ≤ p_0.toInt ∧ p_0.toInt ≤ 31) : Met l yX12_binds (wsG yX12_binds cX12_binds 1 (some .int)) ({ frames := 0, cells := 0, slots := 0, locals := 0 }) (va_Pc [.int p_0] (g5_P G [] sz)) (va_Qi (fun (r : Int32) (u : va_W) => (∃ (o_r : Int32), (0 ≤ o_r.toInt ∧ o_r.toInt ≤ 6) ∧ (o_r.toInt = bnd p_0.toInt) ∧ (r = o_r) ∧ (u = []))) (g5_B G (va_A [] sz)) (va_A [] sz)) 0 0 (va_A [] sz) := by
  refine Met.ofW (cc := cX12_binds) (maxL := 1) (ret := (some .int)) (by decide) rfl ?_
  intro p e s m args below meth c s₁ B hml hv
  obtain ⟨rfl, hsz, hP, hK, hD0, hN, hT⟩ := hv
  have hx := B.exec
  have hb := B.bytes
  have hr := B.returns
  have hts : ∀ w ∈ tblG, w.before _ s = true := fun w h => atoms_spec (ws := (wsG yX12_binds cX12_binds 1 (some .int))) B.pre w (List.mem_cons_of_mem _ h)
  have hown : s.vm.findClass RX12 = some m.cls := findClass_of_methodNamed B.named
  have hlocks := B.notSynchronized
  subst hsz
  have hD := hD0.self (sz := s.heap.size)
  generalize hAe : va_A [] s.heap.size = A at hD hT ⊢
  have hA : ∀ q : Nat, s.heap.size ≤ q → A q := fun q h => by rw [← hAe]; exact Or.inr h
  have hS : va_S A s.heap s.heap [] := va_S.rf
  have hP : va_P G.1 vwCl [] s.heap := hP
  have hl := lv_entry ([.int p_0]) (n := 1) (Nat.le_of_ble_eq_true rfl)
  rw [lg_entry_eq]
  generalize (lg_sl ([.int p_0]) ++ List.replicate (1 - (lg_sl ([.int p_0])).length) Slot.unset).toArray = ls at hl ⊢
  have hl : lv_has ls 1 [(0, .int p_0)] := hl
  refine lv_iload_n hx hb dX12_binds_0 rfl (lv_at hl 0 rfl) ?_
  refine lv_bipush (v := 30) hx hb dX12_binds_1 (by decide) ?_
  refine lv_icmp_lt (tgt := 10) hx hb dX12_binds_3 (by decide) (fun c_1 => ?_) (fun c_1 => ?_)
  ·
    have i_1 : p_0.toInt < 30 := by have z := g5_lt (a := p_0.toInt) (b := 30) (by rfl) (by decide) c_1; omega
    refine lv_iload_n hx hb dX12_binds_10 rfl (lv_at hl 0 rfl) ?_
    refine lv_bipush (v := 29) hx hb dX12_binds_11 (by decide) ?_
    refine lv_icmp_ne (tgt := 20) hx hb dX12_binds_13 (by decide) (fun c_2 => ?_) (fun c_2 => ?_)
    ·
      have n_2 : gNe (p_0.toInt) (29) := by have z := g5_ne (a := p_0.toInt) (b := 29) (by rfl) (by decide) c_2; unfold gNe; omega
      have i_2 : p_0.toInt ≤ 28 := by have z := g5_ne (a := p_0.toInt) (b := 29) (by rfl) (by decide) c_2; omega
      refine lv_iload_n hx hb dX12_binds_20 rfl (lv_at hl 0 rfl) ?_
      refine lv_bipush (v := 28) hx hb dX12_binds_21 (by decide) ?_
      refine lv_icmp_ne (tgt := 30) hx hb dX12_binds_23 (by decide) (fun c_3 => ?_) (fun c_3 => ?_)
      ·
        have n_3 : gNe (p_0.toInt) (28) := by have z := g5_ne (a := p_0.toInt) (b := 28) (by rfl) (by decide) c_3; unfold gNe; omega
        have i_3 : p_0.toInt ≤ 27 := by have z := g5_ne (a := p_0.toInt) (b := 28) (by rfl) (by decide) c_3; omega
        refine lv_iload_n hx hb dX12_binds_30 rfl (lv_at hl 0 rfl) ?_
        refine lv_bipush (v := 27) hx hb dX12_binds_31 (by decide) ?_
        refine lv_icmp_ne (tgt := 40) hx hb dX12_binds_33 (by decide) (fun c_4 => ?_) (fun c_4 => ?_)
        ·
          have n_4 : gNe (p_0.toInt) (27) := by have z := g5_ne (a := p_0.toInt) (b := 27) (by rfl) (by decide) c_4; unfold gNe; omega
          have i_4 : p_0.toInt ≤ 26 := by have z := g5_ne (a := p_0.toInt) (b := 27) (by rfl) (by decide) c_4; omega
          refine lv_iload_n hx hb dX12_binds_40 rfl (lv_at hl 0 rfl) ?_
          refine lv_bipush (v := 24) hx hb dX12_binds_41 (by decide) ?_
          refine lv_icmp_lt (tgt := 50) hx hb dX12_binds_43 (by decide) (fun c_5 => ?_) (fun c_5 => ?_)
          ·
            have i_5 : p_0.toInt < 24 := by have z := g5_lt (a := p_0.toInt) (b := 24) (by rfl) (by decide) c_5; omega
            refine lv_iload_n hx hb dX12_binds_50 rfl (lv_at hl 0 rfl) ?_
            refine lv_bipush (v := 22) hx hb dX12_binds_51 (by decide) ?_
            refine lv_icmp_lt (tgt := 61) hx hb dX12_binds_53 (by decide) (fun c_6 => ?_) (fun c_6 => ?_)
            ·
              have i_6 : p_0.toInt < 22 := by have z := g5_lt (a := p_0.toInt) (b := 22) (by rfl) (by decide) c_6; omega
              refine lv_iconst (v := 5) hx hb dX12_binds_61 (by decide) ?_
              exact W.iret (v := 5) hx hb hr (fun t ht hW => ⟨⟨5, [], rfl, ⟨5, ⟨by have zc_o_r : (5 : Int32).toInt = 5 := (by decide); omega, by have zc_o_r : (5 : Int32).toInt = 5 := (by decide); omega⟩, by rw [bnd_5 (by omega)]; decide, rfl, rfl⟩, by rw [ht]; exact hP.sub [] rfl, hD.sub [] (by decide) rfl⟩, hS.F ht⟩) hS.2.2 dX12_binds_62
            ·
              have i_6 : p_0.toInt ≥ 22 := by have z := g5_ltN (a := p_0.toInt) (b := 22) (by rfl) (by decide) c_6; omega
              refine lv_bipush (v := 6) hx hb dX12_binds_56 (by decide) ?_
              refine lv_goto (tgt := 62) hx hb dX12_binds_58 (by decide) ?_
              exact W.iret (v := 6) hx hb hr (fun t ht hW => ⟨⟨6, [], rfl, ⟨6, ⟨by have zc_o_r : (6 : Int32).toInt = 6 := (by decide); omega, by have zc_o_r : (6 : Int32).toInt = 6 := (by decide); omega⟩, by rw [bnd_6 (by omega) (by omega)]; decide, rfl, rfl⟩, by rw [ht]; exact hP.sub [] rfl, hD.sub [] (by decide) rfl⟩, hS.F ht⟩) hS.2.2 dX12_binds_62
          ·
            have i_5 : p_0.toInt ≥ 24 := by have z := g5_ltN (a := p_0.toInt) (b := 24) (by rfl) (by decide) c_5; omega
            refine lv_iconst (v := 4) hx hb dX12_binds_46 (by decide) ?_
            refine lv_goto (tgt := 62) hx hb dX12_binds_47 (by decide) ?_
            exact W.iret (v := 4) hx hb hr (fun t ht hW => ⟨⟨4, [], rfl, ⟨4, ⟨by have zc_o_r : (4 : Int32).toInt = 4 := (by decide); omega, by have zc_o_r : (4 : Int32).toInt = 4 := (by decide); omega⟩, by rw [bnd_4 (by omega) (by omega)]; decide, rfl, rfl⟩, by rw [ht]; exact hP.sub [] rfl, hD.sub [] (by decide) rfl⟩, hS.F ht⟩) hS.2.2 dX12_binds_62
        ·
          have i_4 : p_0.toInt = 27 := by have z := g5_neN (a := p_0.toInt) (b := 27) (by rfl) (by decide) c_4; omega
          refine lv_iconst (v := 3) hx hb dX12_binds_36 (by decide) ?_
          refine lv_goto (tgt := 62) hx hb dX12_binds_37 (by decide) ?_
          exact W.iret (v := 3) hx hb hr (fun t ht hW => ⟨⟨3, [], rfl, ⟨3, ⟨by have zc_o_r : (3 : Int32).toInt = 3 := (by decide); omega, by have zc_o_r : (3 : Int32).toInt = 3 := (by decide); omega⟩, by rw [bnd_3 (by omega)]; decide, rfl, rfl⟩, by rw [ht]; exact hP.sub [] rfl, hD.sub [] (by decide) rfl⟩, hS.F ht⟩) hS.2.2 dX12_binds_62
      ·
        have i_3 : p_0.toInt = 28 := by have z := g5_neN (a := p_0.toInt) (b := 28) (by rfl) (by decide) c_3; omega
        refine lv_iconst (v := 2) hx hb dX12_binds_26 (by decide) ?_
        refine lv_goto (tgt := 62) hx hb dX12_binds_27 (by decide) ?_
        exact W.iret (v := 2) hx hb hr (fun t ht hW => ⟨⟨2, [], rfl, ⟨2, ⟨by have zc_o_r : (2 : Int32).toInt = 2 := (by decide); omega, by have zc_o_r : (2 : Int32).toInt = 2 := (by decide); omega⟩, by rw [bnd_2 (by omega)]; decide, rfl, rfl⟩, by rw [ht]; exact hP.sub [] rfl, hD.sub [] (by decide) rfl⟩, hS.F ht⟩) hS.2.2 dX12_binds_62
    ·
      have i_2 : p_0.toInt = 29 := by have z := g5_neN (a := p_0.toInt) (b := 29) (by rfl) (by decide) c_2; omega
      refine lv_iconst (v := 1) hx hb dX12_binds_16 (by decide) ?_
      refine lv_goto (tgt := 62) hx hb dX12_binds_17 (by decide) ?_
      exact W.iret (v := 1) hx hb hr (fun t ht hW => ⟨⟨1, [], rfl, ⟨1, ⟨by have zc_o_r : (1 : Int32).toInt = 1 := (by decide); omega, by have zc_o_r : (1 : Int32).toInt = 1 := (by decide); omega⟩, by rw [bnd_1 (by omega)]; decide, rfl, rfl⟩, by rw [ht]; exact hP.sub [] rfl, hD.sub [] (by decide) rfl⟩, hS.F ht⟩) hS.2.2 dX12_binds_62
  ·
    have i_1 : p_0.toInt ≥ 30 := by have z := g5_ltN (a := p_0.toInt) (b := 30) (by rfl) (by decide) c_1; omega
    refine lv_iconst (v := 0) hx hb dX12_binds_6 (by decide) ?_
    refine lv_goto (tgt := 62) hx hb dX12_binds_7 (by decide) ?_
    exact W.iret (v := 0) hx hb hr (fun t ht hW => ⟨⟨0, [], rfl, ⟨0, ⟨by have zc_o_r : (0 : Int32).toInt = 0 := (by decide); omega, by have zc_o_r : (0 : Int32).toInt = 0 := (by decide); omega⟩, by rw [bnd_0 (by omega)]; decide, rfl, rfl⟩, by rw [ht]; exact hP.sub [] rfl, hD.sub [] (by decide) rfl⟩, hS.F ht⟩) hS.2.2 dX12_binds_62
set_option maxHeartbeats 4000000 in
set_option maxRecDepth 100000 in
theorem n_binds20 (l : Launch) (G : g5_G) (sz : Nat) : Met l yX12_binds (wsG yX12_binds cX12_binds 1 (some .int)) ({ frames := 0, cells := 0, slots := 0, locals := 0 }) (va_Pc [.int 20] (g5_P G [] sz)) (va_Qi (fun (r : Int32) (u : va_W) => ((r = 5) ∧ (u = []))) (g5_B G (va_A [] sz)) (va_A [] sz)) 0 0 (va_A [] sz) := by
  refine Met.ofW (cc := cX12_binds) (maxL := 1) (ret := (some .int)) (by decide) rfl ?_
  intro p e s m args below meth c s₁ B hml hv
  obtain ⟨rfl, hsz, hP, hK, hD0, hN, hT⟩ := hv
  have hx := B.exec
  have hb := B.bytes
  have hr := B.returns
  have hts : ∀ w ∈ tblG, w.before _ s = true := fun w h => atoms_spec (ws := (wsG yX12_binds cX12_binds 1 (some .int))) B.pre w (List.mem_cons_of_mem _ h)
  have hown : s.vm.findClass RX12 = some m.cls := findClass_of_methodNamed B.named
  have hlocks := B.notSynchronized
  subst hsz
  have hD := hD0.self (sz := s.heap.size)
  generalize hAe : va_A [] s.heap.size = A at hD hT ⊢
  have hA : ∀ q : Nat, s.heap.size ≤ q → A q := fun q h => by rw [← hAe]; exact Or.inr h
  have hS : va_S A s.heap s.heap [] := va_S.rf
  have hP : va_P G.1 vwCl [] s.heap := hP
  have hl := lv_entry ([.int 20]) (n := 1) (Nat.le_of_ble_eq_true rfl)
  rw [lg_entry_eq]
  generalize (lg_sl ([.int 20]) ++ List.replicate (1 - (lg_sl ([.int 20])).length) Slot.unset).toArray = ls at hl ⊢
  have hl : lv_has ls 1 [(0, .int 20)] := hl
  refine lv_iload_n hx hb dX12_binds_0 rfl (lv_at hl 0 rfl) ?_
  refine lv_bipush (v := 30) hx hb dX12_binds_1 (by decide) ?_
  refine lv_icmp_lt (tgt := 10) hx hb dX12_binds_3 (by decide) (fun c_1 => ?_) (fun c_1 => ?_)
  ·
    refine lv_iload_n hx hb dX12_binds_10 rfl (lv_at hl 0 rfl) ?_
    refine lv_bipush (v := 29) hx hb dX12_binds_11 (by decide) ?_
    refine lv_icmp_ne (tgt := 20) hx hb dX12_binds_13 (by decide) (fun c_2 => ?_) (fun c_2 => ?_)
    ·
      refine lv_iload_n hx hb dX12_binds_20 rfl (lv_at hl 0 rfl) ?_
      refine lv_bipush (v := 28) hx hb dX12_binds_21 (by decide) ?_
      refine lv_icmp_ne (tgt := 30) hx hb dX12_binds_23 (by decide) (fun c_3 => ?_) (fun c_3 => ?_)
      ·
        refine lv_iload_n hx hb dX12_binds_30 rfl (lv_at hl 0 rfl) ?_
        refine lv_bipush (v := 27) hx hb dX12_binds_31 (by decide) ?_
        refine lv_icmp_ne (tgt := 40) hx hb dX12_binds_33 (by decide) (fun c_4 => ?_) (fun c_4 => ?_)
        ·
          refine lv_iload_n hx hb dX12_binds_40 rfl (lv_at hl 0 rfl) ?_
          refine lv_bipush (v := 24) hx hb dX12_binds_41 (by decide) ?_
          refine lv_icmp_lt (tgt := 50) hx hb dX12_binds_43 (by decide) (fun c_5 => ?_) (fun c_5 => ?_)
          ·
            refine lv_iload_n hx hb dX12_binds_50 rfl (lv_at hl 0 rfl) ?_
            refine lv_bipush (v := 22) hx hb dX12_binds_51 (by decide) ?_
            refine lv_icmp_lt (tgt := 61) hx hb dX12_binds_53 (by decide) (fun c_6 => ?_) (fun c_6 => ?_)
            ·
              refine lv_iconst (v := 5) hx hb dX12_binds_61 (by decide) ?_
              exact W.iret (v := 5) hx hb hr (fun t ht hW => ⟨⟨5, [], rfl, ⟨rfl, rfl⟩, by rw [ht]; exact hP.sub [] rfl, hD.sub [] (by decide) rfl⟩, hS.F ht⟩) hS.2.2 dX12_binds_62
            ·
              exact absurd c_6 (by decide)
          ·
            exact absurd c_5 (by decide)
        ·
          exact absurd c_4 (by decide)
      ·
        exact absurd c_3 (by decide)
    ·
      exact absurd c_2 (by decide)
  ·
    exact absurd c_1 (by decide)
set_option maxHeartbeats 4000000 in
set_option maxRecDepth 100000 in
theorem n_binds21 (l : Launch) (G : g5_G) (sz : Nat) : Met l yX12_binds (wsG yX12_binds cX12_binds 1 (some .int)) ({ frames := 0, cells := 0, slots := 0, locals := 0 }) (va_Pc [.int 21] (g5_P G [] sz)) (va_Qi (fun (r : Int32) (u : va_W) => ((r = 5) ∧ (u = []))) (g5_B G (va_A [] sz)) (va_A [] sz)) 0 0 (va_A [] sz) := by
  refine Met.ofW (cc := cX12_binds) (maxL := 1) (ret := (some .int)) (by decide) rfl ?_
  intro p e s m args below meth c s₁ B hml hv
  obtain ⟨rfl, hsz, hP, hK, hD0, hN, hT⟩ := hv
  have hx := B.exec
  have hb := B.bytes
  have hr := B.returns
  have hts : ∀ w ∈ tblG, w.before _ s = true := fun w h => atoms_spec (ws := (wsG yX12_binds cX12_binds 1 (some .int))) B.pre w (List.mem_cons_of_mem _ h)
  have hown : s.vm.findClass RX12 = some m.cls := findClass_of_methodNamed B.named
  have hlocks := B.notSynchronized
  subst hsz
  have hD := hD0.self (sz := s.heap.size)
  generalize hAe : va_A [] s.heap.size = A at hD hT ⊢
  have hA : ∀ q : Nat, s.heap.size ≤ q → A q := fun q h => by rw [← hAe]; exact Or.inr h
  have hS : va_S A s.heap s.heap [] := va_S.rf
  have hP : va_P G.1 vwCl [] s.heap := hP
  have hl := lv_entry ([.int 21]) (n := 1) (Nat.le_of_ble_eq_true rfl)
  rw [lg_entry_eq]
  generalize (lg_sl ([.int 21]) ++ List.replicate (1 - (lg_sl ([.int 21])).length) Slot.unset).toArray = ls at hl ⊢
  have hl : lv_has ls 1 [(0, .int 21)] := hl
  refine lv_iload_n hx hb dX12_binds_0 rfl (lv_at hl 0 rfl) ?_
  refine lv_bipush (v := 30) hx hb dX12_binds_1 (by decide) ?_
  refine lv_icmp_lt (tgt := 10) hx hb dX12_binds_3 (by decide) (fun c_1 => ?_) (fun c_1 => ?_)
  ·
    refine lv_iload_n hx hb dX12_binds_10 rfl (lv_at hl 0 rfl) ?_
    refine lv_bipush (v := 29) hx hb dX12_binds_11 (by decide) ?_
    refine lv_icmp_ne (tgt := 20) hx hb dX12_binds_13 (by decide) (fun c_2 => ?_) (fun c_2 => ?_)
    ·
      refine lv_iload_n hx hb dX12_binds_20 rfl (lv_at hl 0 rfl) ?_
      refine lv_bipush (v := 28) hx hb dX12_binds_21 (by decide) ?_
      refine lv_icmp_ne (tgt := 30) hx hb dX12_binds_23 (by decide) (fun c_3 => ?_) (fun c_3 => ?_)
      ·
        refine lv_iload_n hx hb dX12_binds_30 rfl (lv_at hl 0 rfl) ?_
        refine lv_bipush (v := 27) hx hb dX12_binds_31 (by decide) ?_
        refine lv_icmp_ne (tgt := 40) hx hb dX12_binds_33 (by decide) (fun c_4 => ?_) (fun c_4 => ?_)
        ·
          refine lv_iload_n hx hb dX12_binds_40 rfl (lv_at hl 0 rfl) ?_
          refine lv_bipush (v := 24) hx hb dX12_binds_41 (by decide) ?_
          refine lv_icmp_lt (tgt := 50) hx hb dX12_binds_43 (by decide) (fun c_5 => ?_) (fun c_5 => ?_)
          ·
            refine lv_iload_n hx hb dX12_binds_50 rfl (lv_at hl 0 rfl) ?_
            refine lv_bipush (v := 22) hx hb dX12_binds_51 (by decide) ?_
            refine lv_icmp_lt (tgt := 61) hx hb dX12_binds_53 (by decide) (fun c_6 => ?_) (fun c_6 => ?_)
            ·
              refine lv_iconst (v := 5) hx hb dX12_binds_61 (by decide) ?_
              exact W.iret (v := 5) hx hb hr (fun t ht hW => ⟨⟨5, [], rfl, ⟨rfl, rfl⟩, by rw [ht]; exact hP.sub [] rfl, hD.sub [] (by decide) rfl⟩, hS.F ht⟩) hS.2.2 dX12_binds_62
            ·
              exact absurd c_6 (by decide)
          ·
            exact absurd c_5 (by decide)
        ·
          exact absurd c_4 (by decide)
      ·
        exact absurd c_3 (by decide)
    ·
      exact absurd c_2 (by decide)
  ·
    exact absurd c_1 (by decide)
set_option maxHeartbeats 4000000 in
set_option maxRecDepth 100000 in
theorem n_binds22 (l : Launch) (G : g5_G) (sz : Nat) : Met l yX12_binds (wsG yX12_binds cX12_binds 1 (some .int)) ({ frames := 0, cells := 0, slots := 0, locals := 0 }) (va_Pc [.int 22] (g5_P G [] sz)) (va_Qi (fun (r : Int32) (u : va_W) => ((r = 6) ∧ (u = []))) (g5_B G (va_A [] sz)) (va_A [] sz)) 0 0 (va_A [] sz) := by
  refine Met.ofW (cc := cX12_binds) (maxL := 1) (ret := (some .int)) (by decide) rfl ?_
  intro p e s m args below meth c s₁ B hml hv
  obtain ⟨rfl, hsz, hP, hK, hD0, hN, hT⟩ := hv
  have hx := B.exec
  have hb := B.bytes
  have hr := B.returns
  have hts : ∀ w ∈ tblG, w.before _ s = true := fun w h => atoms_spec (ws := (wsG yX12_binds cX12_binds 1 (some .int))) B.pre w (List.mem_cons_of_mem _ h)
  have hown : s.vm.findClass RX12 = some m.cls := findClass_of_methodNamed B.named
  have hlocks := B.notSynchronized
  subst hsz
  have hD := hD0.self (sz := s.heap.size)
  generalize hAe : va_A [] s.heap.size = A at hD hT ⊢
  have hA : ∀ q : Nat, s.heap.size ≤ q → A q := fun q h => by rw [← hAe]; exact Or.inr h
  have hS : va_S A s.heap s.heap [] := va_S.rf
  have hP : va_P G.1 vwCl [] s.heap := hP
  have hl := lv_entry ([.int 22]) (n := 1) (Nat.le_of_ble_eq_true rfl)
  rw [lg_entry_eq]
  generalize (lg_sl ([.int 22]) ++ List.replicate (1 - (lg_sl ([.int 22])).length) Slot.unset).toArray = ls at hl ⊢
  have hl : lv_has ls 1 [(0, .int 22)] := hl
  refine lv_iload_n hx hb dX12_binds_0 rfl (lv_at hl 0 rfl) ?_
  refine lv_bipush (v := 30) hx hb dX12_binds_1 (by decide) ?_
  refine lv_icmp_lt (tgt := 10) hx hb dX12_binds_3 (by decide) (fun c_1 => ?_) (fun c_1 => ?_)
  ·
    refine lv_iload_n hx hb dX12_binds_10 rfl (lv_at hl 0 rfl) ?_
    refine lv_bipush (v := 29) hx hb dX12_binds_11 (by decide) ?_
    refine lv_icmp_ne (tgt := 20) hx hb dX12_binds_13 (by decide) (fun c_2 => ?_) (fun c_2 => ?_)
    ·
      refine lv_iload_n hx hb dX12_binds_20 rfl (lv_at hl 0 rfl) ?_
      refine lv_bipush (v := 28) hx hb dX12_binds_21 (by decide) ?_
      refine lv_icmp_ne (tgt := 30) hx hb dX12_binds_23 (by decide) (fun c_3 => ?_) (fun c_3 => ?_)
      ·
        refine lv_iload_n hx hb dX12_binds_30 rfl (lv_at hl 0 rfl) ?_
        refine lv_bipush (v := 27) hx hb dX12_binds_31 (by decide) ?_
        refine lv_icmp_ne (tgt := 40) hx hb dX12_binds_33 (by decide) (fun c_4 => ?_) (fun c_4 => ?_)
        ·
          refine lv_iload_n hx hb dX12_binds_40 rfl (lv_at hl 0 rfl) ?_
          refine lv_bipush (v := 24) hx hb dX12_binds_41 (by decide) ?_
          refine lv_icmp_lt (tgt := 50) hx hb dX12_binds_43 (by decide) (fun c_5 => ?_) (fun c_5 => ?_)
          ·
            refine lv_iload_n hx hb dX12_binds_50 rfl (lv_at hl 0 rfl) ?_
            refine lv_bipush (v := 22) hx hb dX12_binds_51 (by decide) ?_
            refine lv_icmp_lt (tgt := 61) hx hb dX12_binds_53 (by decide) (fun c_6 => ?_) (fun c_6 => ?_)
            ·
              exact absurd c_6 (by decide)
            ·
              refine lv_bipush (v := 6) hx hb dX12_binds_56 (by decide) ?_
              refine lv_goto (tgt := 62) hx hb dX12_binds_58 (by decide) ?_
              exact W.iret (v := 6) hx hb hr (fun t ht hW => ⟨⟨6, [], rfl, ⟨rfl, rfl⟩, by rw [ht]; exact hP.sub [] rfl, hD.sub [] (by decide) rfl⟩, hS.F ht⟩) hS.2.2 dX12_binds_62
          ·
            exact absurd c_5 (by decide)
        ·
          exact absurd c_4 (by decide)
      ·
        exact absurd c_3 (by decide)
    ·
      exact absurd c_2 (by decide)
  ·
    exact absurd c_1 (by decide)
set_option maxHeartbeats 4000000 in
set_option maxRecDepth 100000 in
theorem n_binds23 (l : Launch) (G : g5_G) (sz : Nat) : Met l yX12_binds (wsG yX12_binds cX12_binds 1 (some .int)) ({ frames := 0, cells := 0, slots := 0, locals := 0 }) (va_Pc [.int 23] (g5_P G [] sz)) (va_Qi (fun (r : Int32) (u : va_W) => ((r = 6) ∧ (u = []))) (g5_B G (va_A [] sz)) (va_A [] sz)) 0 0 (va_A [] sz) := by
  refine Met.ofW (cc := cX12_binds) (maxL := 1) (ret := (some .int)) (by decide) rfl ?_
  intro p e s m args below meth c s₁ B hml hv
  obtain ⟨rfl, hsz, hP, hK, hD0, hN, hT⟩ := hv
  have hx := B.exec
  have hb := B.bytes
  have hr := B.returns
  have hts : ∀ w ∈ tblG, w.before _ s = true := fun w h => atoms_spec (ws := (wsG yX12_binds cX12_binds 1 (some .int))) B.pre w (List.mem_cons_of_mem _ h)
  have hown : s.vm.findClass RX12 = some m.cls := findClass_of_methodNamed B.named
  have hlocks := B.notSynchronized
  subst hsz
  have hD := hD0.self (sz := s.heap.size)
  generalize hAe : va_A [] s.heap.size = A at hD hT ⊢
  have hA : ∀ q : Nat, s.heap.size ≤ q → A q := fun q h => by rw [← hAe]; exact Or.inr h
  have hS : va_S A s.heap s.heap [] := va_S.rf
  have hP : va_P G.1 vwCl [] s.heap := hP
  have hl := lv_entry ([.int 23]) (n := 1) (Nat.le_of_ble_eq_true rfl)
  rw [lg_entry_eq]
  generalize (lg_sl ([.int 23]) ++ List.replicate (1 - (lg_sl ([.int 23])).length) Slot.unset).toArray = ls at hl ⊢
  have hl : lv_has ls 1 [(0, .int 23)] := hl
  refine lv_iload_n hx hb dX12_binds_0 rfl (lv_at hl 0 rfl) ?_
  refine lv_bipush (v := 30) hx hb dX12_binds_1 (by decide) ?_
  refine lv_icmp_lt (tgt := 10) hx hb dX12_binds_3 (by decide) (fun c_1 => ?_) (fun c_1 => ?_)
  ·
    refine lv_iload_n hx hb dX12_binds_10 rfl (lv_at hl 0 rfl) ?_
    refine lv_bipush (v := 29) hx hb dX12_binds_11 (by decide) ?_
    refine lv_icmp_ne (tgt := 20) hx hb dX12_binds_13 (by decide) (fun c_2 => ?_) (fun c_2 => ?_)
    ·
      refine lv_iload_n hx hb dX12_binds_20 rfl (lv_at hl 0 rfl) ?_
      refine lv_bipush (v := 28) hx hb dX12_binds_21 (by decide) ?_
      refine lv_icmp_ne (tgt := 30) hx hb dX12_binds_23 (by decide) (fun c_3 => ?_) (fun c_3 => ?_)
      ·
        refine lv_iload_n hx hb dX12_binds_30 rfl (lv_at hl 0 rfl) ?_
        refine lv_bipush (v := 27) hx hb dX12_binds_31 (by decide) ?_
        refine lv_icmp_ne (tgt := 40) hx hb dX12_binds_33 (by decide) (fun c_4 => ?_) (fun c_4 => ?_)
        ·
          refine lv_iload_n hx hb dX12_binds_40 rfl (lv_at hl 0 rfl) ?_
          refine lv_bipush (v := 24) hx hb dX12_binds_41 (by decide) ?_
          refine lv_icmp_lt (tgt := 50) hx hb dX12_binds_43 (by decide) (fun c_5 => ?_) (fun c_5 => ?_)
          ·
            refine lv_iload_n hx hb dX12_binds_50 rfl (lv_at hl 0 rfl) ?_
            refine lv_bipush (v := 22) hx hb dX12_binds_51 (by decide) ?_
            refine lv_icmp_lt (tgt := 61) hx hb dX12_binds_53 (by decide) (fun c_6 => ?_) (fun c_6 => ?_)
            ·
              exact absurd c_6 (by decide)
            ·
              refine lv_bipush (v := 6) hx hb dX12_binds_56 (by decide) ?_
              refine lv_goto (tgt := 62) hx hb dX12_binds_58 (by decide) ?_
              exact W.iret (v := 6) hx hb hr (fun t ht hW => ⟨⟨6, [], rfl, ⟨rfl, rfl⟩, by rw [ht]; exact hP.sub [] rfl, hD.sub [] (by decide) rfl⟩, hS.F ht⟩) hS.2.2 dX12_binds_62
          ·
            exact absurd c_5 (by decide)
        ·
          exact absurd c_4 (by decide)
      ·
        exact absurd c_3 (by decide)
    ·
      exact absurd c_2 (by decide)
  ·
    exact absurd c_1 (by decide)
theorem dgX12_settle_0 : ∀ r ∈ ([(0, (.aload_n 0, 1)), (1, (.getfield 240, 3)), (4, (.ifCond .le 97, 3)), (7, (.aload_n 0, 1)), (8, (.getfield 39, 3)), (11, (.aload_n 0, 1)), (12, (.getfield 240, 3)), (15, (.iconst 1, 1)), (16, (.isub, 1)), (17, (.iaload, 1)), (18, (.invokestatic 243, 3)), (21, (.iload_n 1, 1)), (22, (.if_icmp .lt 79, 3)), (25, (.aload_n 0, 1)), (26, (.dup, 1)), (27, (.getfield 240, 3)), (30, (.iconst 1, 1)), (31, (.isub, 1)), (32, (.putfield 240, 3)), (35, (.aload_n 0, 1)), (36, (.getfield 39, 3)), (39, (.aload_n 0, 1)), (40, (.getfield 240, 3)), (43, (.iaload, 1)), (44, (.bipush 28, 2)), (46, (.if_icmp .eq 17, 3)), (49, (.aload_n 0, 1)), (50, (.getfield 39, 3)), (53, (.aload_n 0, 1)), (54, (.getfield 240, 3)), (57, (.iaload, 1)), (58, (.bipush 29, 2)), (60, (.if_icmp .ne 24, 3)), (63, (.aload_n 0, 1)), (64, (.getfield 36, 3)), (67, (.aload_n 0, 1)), (68, (.getfield 42, 3)), (71, (.aload_n 0, 1)), (72, (.getfield 240, 3)), (75, (.iaload, 1))] : List (Nat × (Instr × Nat))), decode cX12_settle r.1 = .ok r.2 := by decide +kernel
theorem dX12_settle_0 : decode cX12_settle 0 = .ok (.aload_n 0, 1) := dgX12_settle_0 (0, (.aload_n 0, 1)) (List.mem_of_getElem? (i := 0) rfl)
theorem dX12_settle_1 : decode cX12_settle 1 = .ok (.getfield 240, 3) := dgX12_settle_0 (1, (.getfield 240, 3)) (List.mem_of_getElem? (i := 1) rfl)
theorem dX12_settle_4 : decode cX12_settle 4 = .ok (.ifCond .le 97, 3) := dgX12_settle_0 (4, (.ifCond .le 97, 3)) (List.mem_of_getElem? (i := 2) rfl)
theorem dX12_settle_7 : decode cX12_settle 7 = .ok (.aload_n 0, 1) := dgX12_settle_0 (7, (.aload_n 0, 1)) (List.mem_of_getElem? (i := 3) rfl)
theorem dX12_settle_8 : decode cX12_settle 8 = .ok (.getfield 39, 3) := dgX12_settle_0 (8, (.getfield 39, 3)) (List.mem_of_getElem? (i := 4) rfl)
theorem dX12_settle_11 : decode cX12_settle 11 = .ok (.aload_n 0, 1) := dgX12_settle_0 (11, (.aload_n 0, 1)) (List.mem_of_getElem? (i := 5) rfl)
theorem dX12_settle_12 : decode cX12_settle 12 = .ok (.getfield 240, 3) := dgX12_settle_0 (12, (.getfield 240, 3)) (List.mem_of_getElem? (i := 6) rfl)
theorem dX12_settle_15 : decode cX12_settle 15 = .ok (.iconst 1, 1) := dgX12_settle_0 (15, (.iconst 1, 1)) (List.mem_of_getElem? (i := 7) rfl)
theorem dX12_settle_16 : decode cX12_settle 16 = .ok (.isub, 1) := dgX12_settle_0 (16, (.isub, 1)) (List.mem_of_getElem? (i := 8) rfl)
theorem dX12_settle_17 : decode cX12_settle 17 = .ok (.iaload, 1) := dgX12_settle_0 (17, (.iaload, 1)) (List.mem_of_getElem? (i := 9) rfl)
theorem dX12_settle_18 : decode cX12_settle 18 = .ok (.invokestatic 243, 3) := dgX12_settle_0 (18, (.invokestatic 243, 3)) (List.mem_of_getElem? (i := 10) rfl)
theorem dX12_settle_21 : decode cX12_settle 21 = .ok (.iload_n 1, 1) := dgX12_settle_0 (21, (.iload_n 1, 1)) (List.mem_of_getElem? (i := 11) rfl)
theorem dX12_settle_22 : decode cX12_settle 22 = .ok (.if_icmp .lt 79, 3) := dgX12_settle_0 (22, (.if_icmp .lt 79, 3)) (List.mem_of_getElem? (i := 12) rfl)
theorem dX12_settle_25 : decode cX12_settle 25 = .ok (.aload_n 0, 1) := dgX12_settle_0 (25, (.aload_n 0, 1)) (List.mem_of_getElem? (i := 13) rfl)
theorem dX12_settle_26 : decode cX12_settle 26 = .ok (.dup, 1) := dgX12_settle_0 (26, (.dup, 1)) (List.mem_of_getElem? (i := 14) rfl)
theorem dX12_settle_27 : decode cX12_settle 27 = .ok (.getfield 240, 3) := dgX12_settle_0 (27, (.getfield 240, 3)) (List.mem_of_getElem? (i := 15) rfl)
theorem dX12_settle_30 : decode cX12_settle 30 = .ok (.iconst 1, 1) := dgX12_settle_0 (30, (.iconst 1, 1)) (List.mem_of_getElem? (i := 16) rfl)
theorem dX12_settle_31 : decode cX12_settle 31 = .ok (.isub, 1) := dgX12_settle_0 (31, (.isub, 1)) (List.mem_of_getElem? (i := 17) rfl)
theorem dX12_settle_32 : decode cX12_settle 32 = .ok (.putfield 240, 3) := dgX12_settle_0 (32, (.putfield 240, 3)) (List.mem_of_getElem? (i := 18) rfl)
theorem dX12_settle_35 : decode cX12_settle 35 = .ok (.aload_n 0, 1) := dgX12_settle_0 (35, (.aload_n 0, 1)) (List.mem_of_getElem? (i := 19) rfl)
theorem dX12_settle_36 : decode cX12_settle 36 = .ok (.getfield 39, 3) := dgX12_settle_0 (36, (.getfield 39, 3)) (List.mem_of_getElem? (i := 20) rfl)
theorem dX12_settle_39 : decode cX12_settle 39 = .ok (.aload_n 0, 1) := dgX12_settle_0 (39, (.aload_n 0, 1)) (List.mem_of_getElem? (i := 21) rfl)
theorem dX12_settle_40 : decode cX12_settle 40 = .ok (.getfield 240, 3) := dgX12_settle_0 (40, (.getfield 240, 3)) (List.mem_of_getElem? (i := 22) rfl)
theorem dX12_settle_43 : decode cX12_settle 43 = .ok (.iaload, 1) := dgX12_settle_0 (43, (.iaload, 1)) (List.mem_of_getElem? (i := 23) rfl)
theorem dX12_settle_44 : decode cX12_settle 44 = .ok (.bipush 28, 2) := dgX12_settle_0 (44, (.bipush 28, 2)) (List.mem_of_getElem? (i := 24) rfl)
theorem dX12_settle_46 : decode cX12_settle 46 = .ok (.if_icmp .eq 17, 3) := dgX12_settle_0 (46, (.if_icmp .eq 17, 3)) (List.mem_of_getElem? (i := 25) rfl)
theorem dX12_settle_49 : decode cX12_settle 49 = .ok (.aload_n 0, 1) := dgX12_settle_0 (49, (.aload_n 0, 1)) (List.mem_of_getElem? (i := 26) rfl)
theorem dX12_settle_50 : decode cX12_settle 50 = .ok (.getfield 39, 3) := dgX12_settle_0 (50, (.getfield 39, 3)) (List.mem_of_getElem? (i := 27) rfl)
theorem dX12_settle_53 : decode cX12_settle 53 = .ok (.aload_n 0, 1) := dgX12_settle_0 (53, (.aload_n 0, 1)) (List.mem_of_getElem? (i := 28) rfl)
theorem dX12_settle_54 : decode cX12_settle 54 = .ok (.getfield 240, 3) := dgX12_settle_0 (54, (.getfield 240, 3)) (List.mem_of_getElem? (i := 29) rfl)
theorem dX12_settle_57 : decode cX12_settle 57 = .ok (.iaload, 1) := dgX12_settle_0 (57, (.iaload, 1)) (List.mem_of_getElem? (i := 30) rfl)
theorem dX12_settle_58 : decode cX12_settle 58 = .ok (.bipush 29, 2) := dgX12_settle_0 (58, (.bipush 29, 2)) (List.mem_of_getElem? (i := 31) rfl)
theorem dX12_settle_60 : decode cX12_settle 60 = .ok (.if_icmp .ne 24, 3) := dgX12_settle_0 (60, (.if_icmp .ne 24, 3)) (List.mem_of_getElem? (i := 32) rfl)
theorem dX12_settle_63 : decode cX12_settle 63 = .ok (.aload_n 0, 1) := dgX12_settle_0 (63, (.aload_n 0, 1)) (List.mem_of_getElem? (i := 33) rfl)
theorem dX12_settle_64 : decode cX12_settle 64 = .ok (.getfield 36, 3) := dgX12_settle_0 (64, (.getfield 36, 3)) (List.mem_of_getElem? (i := 34) rfl)
theorem dX12_settle_67 : decode cX12_settle 67 = .ok (.aload_n 0, 1) := dgX12_settle_0 (67, (.aload_n 0, 1)) (List.mem_of_getElem? (i := 35) rfl)
theorem dX12_settle_68 : decode cX12_settle 68 = .ok (.getfield 42, 3) := dgX12_settle_0 (68, (.getfield 42, 3)) (List.mem_of_getElem? (i := 36) rfl)
theorem dX12_settle_71 : decode cX12_settle 71 = .ok (.aload_n 0, 1) := dgX12_settle_0 (71, (.aload_n 0, 1)) (List.mem_of_getElem? (i := 37) rfl)
theorem dX12_settle_72 : decode cX12_settle 72 = .ok (.getfield 240, 3) := dgX12_settle_0 (72, (.getfield 240, 3)) (List.mem_of_getElem? (i := 38) rfl)
theorem dX12_settle_75 : decode cX12_settle 75 = .ok (.iaload, 1) := dgX12_settle_0 (75, (.iaload, 1)) (List.mem_of_getElem? (i := 39) rfl)
theorem dgX12_settle_1 : ∀ r ∈ ([(76, (.aload_n 0, 1)), (77, (.getfield 237, 3)), (80, (.iastore, 1)), (81, (.goto (-81), 3)), (84, (.aload_n 0, 1)), (85, (.aload_n 0, 1)), (86, (.getfield 39, 3)), (89, (.aload_n 0, 1)), (90, (.getfield 240, 3)), (93, (.iaload, 1)), (94, (.iconst 0, 1)), (95, (.invokevirtual 246, 3)), (98, (.goto (-98), 3)), (101, (.return_, 1))] : List (Nat × (Instr × Nat))), decode cX12_settle r.1 = .ok r.2 := by decide +kernel
theorem dX12_settle_76 : decode cX12_settle 76 = .ok (.aload_n 0, 1) := dgX12_settle_1 (76, (.aload_n 0, 1)) (List.mem_of_getElem? (i := 0) rfl)
theorem dX12_settle_77 : decode cX12_settle 77 = .ok (.getfield 237, 3) := dgX12_settle_1 (77, (.getfield 237, 3)) (List.mem_of_getElem? (i := 1) rfl)
theorem dX12_settle_80 : decode cX12_settle 80 = .ok (.iastore, 1) := dgX12_settle_1 (80, (.iastore, 1)) (List.mem_of_getElem? (i := 2) rfl)
theorem dX12_settle_81 : decode cX12_settle 81 = .ok (.goto (-81), 3) := dgX12_settle_1 (81, (.goto (-81), 3)) (List.mem_of_getElem? (i := 3) rfl)
theorem dX12_settle_84 : decode cX12_settle 84 = .ok (.aload_n 0, 1) := dgX12_settle_1 (84, (.aload_n 0, 1)) (List.mem_of_getElem? (i := 4) rfl)
theorem dX12_settle_85 : decode cX12_settle 85 = .ok (.aload_n 0, 1) := dgX12_settle_1 (85, (.aload_n 0, 1)) (List.mem_of_getElem? (i := 5) rfl)
theorem dX12_settle_86 : decode cX12_settle 86 = .ok (.getfield 39, 3) := dgX12_settle_1 (86, (.getfield 39, 3)) (List.mem_of_getElem? (i := 6) rfl)
theorem dX12_settle_89 : decode cX12_settle 89 = .ok (.aload_n 0, 1) := dgX12_settle_1 (89, (.aload_n 0, 1)) (List.mem_of_getElem? (i := 7) rfl)
theorem dX12_settle_90 : decode cX12_settle 90 = .ok (.getfield 240, 3) := dgX12_settle_1 (90, (.getfield 240, 3)) (List.mem_of_getElem? (i := 8) rfl)
theorem dX12_settle_93 : decode cX12_settle 93 = .ok (.iaload, 1) := dgX12_settle_1 (93, (.iaload, 1)) (List.mem_of_getElem? (i := 9) rfl)
theorem dX12_settle_94 : decode cX12_settle 94 = .ok (.iconst 0, 1) := dgX12_settle_1 (94, (.iconst 0, 1)) (List.mem_of_getElem? (i := 10) rfl)
theorem dX12_settle_95 : decode cX12_settle 95 = .ok (.invokevirtual 246, 3) := dgX12_settle_1 (95, (.invokevirtual 246, 3)) (List.mem_of_getElem? (i := 11) rfl)
theorem dX12_settle_98 : decode cX12_settle 98 = .ok (.goto (-98), 3) := dgX12_settle_1 (98, (.goto (-98), 3)) (List.mem_of_getElem? (i := 12) rfl)
theorem dX12_settle_101 : decode cX12_settle 101 = .ok (.return_, 1) := dgX12_settle_1 (101, (.return_, 1)) (List.mem_of_getElem? (i := 13) rfl)
theorem ml_X12_243 : Cond.methodLink RX12 243 yX12_binds ∈ tblG := tg 1571 (by decide +kernel) (by decide +kernel)
theorem st_X12_binds : Cond.static yX12_binds ∈ tblG := tg 1572 (by decide +kernel) (by decide +kernel)
theorem cd_X12_binds : Cond.code yX12_binds cX12_binds 1 (some .int) ∈ tblG := tg 1573 (by decide +kernel) (by decide +kernel)
theorem gW_X12_binds : GoodIn tblG (wsG yX12_binds cX12_binds 1 (some .int)) := tgi cd_X12_binds
theorem gS_X12_243 : GoodIn tblG (va_wsS RX12 243 yX12_binds (wsG yX12_binds cX12_binds 1 (some .int))) := tgS ml_X12_243 st_X12_binds ini_X12 gW_X12_binds
theorem hs_X12_binds : yX12_binds.cls ≠ "java/lang/invoke/MethodHandle" ∧ yX12_binds.cls ≠ "java/lang/invoke/VarHandle" ∧ (parseMethodDescriptor yX12_binds.desc).map (fun d => d.parameters.length) = some 1 := by decide +kernel
theorem ml_X12_246 : Cond.methodLink RX12 246 yX12_emit ∈ tblG := tg 1563 (by decide +kernel) (by decide +kernel)
theorem im_X12_emit : Cond.instanceMethod yX12_emit ∈ tblG := tg 1565 (by decide +kernel) (by decide +kernel)
theorem se_X12_emit : Cond.selects RX12 yX12_emit yX12_emit ∈ tblG := tg 56 (by decide +kernel) (by decide +kernel)
theorem cd_X12_emit : Cond.code yX12_emit cX12_emit 3 none ∈ tblG := tg 1566 (by decide +kernel) (by decide +kernel)
theorem gW_X12_emit : GoodIn tblG (wsG yX12_emit cX12_emit 3 none) := tgi cd_X12_emit
theorem gV_X12_246 : GoodIn tblG (wsV RX12 246 RX12 yX12_emit (wsG yX12_emit cX12_emit 3 none)) := tgV ml_X12_246 im_X12_emit se_X12_emit ini_X12 gW_X12_emit
theorem hv_X12_emit : yX12_emit.cls = RX12 ∧ yX12_emit.cls ≠ "java/lang/invoke/MethodHandle" ∧ yX12_emit.cls ≠ "java/lang/invoke/VarHandle" ∧ (parseMethodDescriptor yX12_emit.desc).map (fun d => d.parameters.length) = some 2 := by decide +kernel
set_option maxHeartbeats 4000000 in
set_option maxRecDepth 100000 in
theorem n_settleB (l : Launch) (G : g5_G) (b_o b_op b_ar b_pi b_pa b_rf b_ro b_im b_ke b_tp b_nl b_ws b_hw b_se b_re b_pt b_ip b_ah b_be b_me b_tr b_ld b_wn : Nat) (sz : Nat) (u_th : Int32) (u_sa : Int32) (u_fd : Int32) (u_td : Int32) (u_fr : Int32) (u_to : Int32) (u_so : Int32) (u_fa : Int32) (u_bd : Int32) (u_nc : Int32) (u_co : Int32) (u_le : Int32) (u_pd : Int32) (u_od : Int32) (u_la : Int32) (u_bk : Int32) (u_ce : Int32) (u_ho : Int32) (u_wy : Int32) (u_bt : Int32) (u_ps : Int32) (u_tg : Int32) (u_sn : Int32) (u_ic : Int32) (u_wd : Int32) (u_id : Int32) (p_1 : Int32) (g_a : Int32) (g_f : Int32) (u_wo : Int64) (u_va : Int64) (u_su : Int64) (u_st : Int64) (v_op : Nat → Int32) (v_ar : Nat → Int32) (v_pi : Nat → Int32) (v_pa : Nat → Int32) (g_op : Nat → Int32) (g_ar : Nat → Int32) (h_u_td : 0 ≤ u_td.toInt ∧ u_td.toInt ≤ 400) (h_u_fr : 0 ≤ u_fr.toInt ∧ u_fr.toInt ≤ 400) (h_u_to : 0 ≤ u_to.toInt ∧ u_to.toInt ≤ 400) (h_u_bd : 0 ≤ u_bd.toInt ∧ u_bd.toInt ≤ 1) (h_u_nc : 0 ≤ u_nc.toInt ∧ u_nc.toInt ≤ 12) (h_u_co : 0 ≤ u_co.toInt ∧ u_co.toInt ≤ 400) (h_u_pd : 0 ≤ u_pd.toInt ∧ u_pd.toInt ≤ 400) (h_u_la : 0 ≤ u_la.toInt ∧ u_la.toInt ≤ 4840) (h_u_bk : 0 ≤ u_bk.toInt ∧ u_bk.toInt ≤ 1) (h_u_ce : 0 ≤ u_ce.toInt ∧ u_ce.toInt ≤ 63) (h_u_ho : 0 ≤ u_ho.toInt ∧ u_ho.toInt ≤ 23) (h_u_wy : 0 ≤ u_wy.toInt ∧ u_wy.toInt ≤ 3) (h_u_bt : 0 ≤ u_bt.toInt ∧ u_bt.toInt ≤ 1000000) (h_u_ps : 0 ≤ u_ps.toInt ∧ u_ps.toInt ≤ 200) (h_u_ic : 0 ≤ u_ic.toInt ∧ u_ic.toInt ≤ 1) (h_u_id : 0 ≤ u_id.toInt ∧ u_id.toInt ≤ 1) (h_p_1 : 1 ≤ p_1.toInt ∧ p_1.toInt ≤ 6) (e_f : g_f.toInt ≤ 400) (e_x : XJ g_op g_ar v_op v_ar v_pi v_pa g_a.toInt u_co.toInt u_pd.toInt g_f.toInt) : Met l yX12_settle (wsG yX12_settle cX12_settle 2 none) ({ frames := 1, cells := 0, slots := 0, locals := 22 }) (va_Pc [.ref b_o, .int p_1] (g5_P G [(b_o, (oc12 u_th u_sa b_rf b_ro b_im b_ke u_fd b_tp u_td u_fr u_to u_so u_wo u_fa u_bd u_nc b_nl u_co b_op b_ar u_le b_pi b_pa u_pd u_od b_ws b_hw u_la b_se b_re u_bk u_va u_su u_ce u_ho u_wy u_bt u_ps b_pt u_tg u_sn b_ip u_ic b_ah b_be b_me u_wd b_tr b_ld u_st b_wn u_id)), (b_op, (arI G 400 v_op)), (b_ar, (arI G 400 v_ar)), (b_pi, (arI G 400 v_pi)), (b_pa, (arI G 400 v_pa))] sz)) (va_Qv (fun (u : va_W) => (∃ (o_co : Int32) (o_pd : Int32) (o_op : Nat → Int32) (o_ar : Nat → Int32), (0 ≤ o_co.toInt ∧ o_co.toInt ≤ 400) ∧ (0 ≤ o_pd.toInt ∧ o_pd.toInt ≤ 400) ∧ (XJ g_op g_ar o_op o_ar v_pi v_pa g_a.toInt o_co.toInt o_pd.toInt g_f.toInt) ∧ (S1 v_pi u_pd.toInt o_pd.toInt) ∧ (S2 v_pi o_pd.toInt p_1.toInt) ∧ (o_pd.toInt ≤ u_pd.toInt) ∧ (u = [(b_o, (oc12 u_th u_sa b_rf b_ro b_im b_ke u_fd b_tp u_td u_fr u_to u_so u_wo u_fa u_bd u_nc b_nl o_co b_op b_ar u_le b_pi b_pa o_pd u_od b_ws b_hw u_la b_se b_re u_bk u_va u_su u_ce u_ho u_wy u_bt u_ps b_pt u_tg u_sn b_ip u_ic b_ah b_be b_me u_wd b_tr b_ld u_st b_wn u_id)), (b_op, (arI G 400 o_op)), (b_ar, (arI G 400 o_ar)), (b_pi, (arI G 400 v_pi)), (b_pa, (arI G 400 v_pa))]))) (g5_B G (va_A [(b_o, (oc12 u_th u_sa b_rf b_ro b_im b_ke u_fd b_tp u_td u_fr u_to u_so u_wo u_fa u_bd u_nc b_nl u_co b_op b_ar u_le b_pi b_pa u_pd u_od b_ws b_hw u_la b_se b_re u_bk u_va u_su u_ce u_ho u_wy u_bt u_ps b_pt u_tg u_sn b_ip u_ic b_ah b_be b_me u_wd b_tr b_ld u_st b_wn u_id)), (b_op, (arI G 400 v_op)), (b_ar, (arI G 400 v_ar)), (b_pi, (arI G 400 v_pi)), (b_pa, (arI G 400 v_pa))] sz)) (va_A [(b_o, (oc12 u_th u_sa b_rf b_ro b_im b_ke u_fd b_tp u_td u_fr u_to u_so u_wo u_fa u_bd u_nc b_nl u_co b_op b_ar u_le b_pi b_pa u_pd u_od b_ws b_hw u_la b_se b_re u_bk u_va u_su u_ce u_ho u_wy u_bt u_ps b_pt u_tg u_sn b_ip u_ic b_ah b_be b_me u_wd b_tr b_ld u_st b_wn u_id)), (b_op, (arI G 400 v_op)), (b_ar, (arI G 400 v_ar)), (b_pi, (arI G 400 v_pi)), (b_pa, (arI G 400 v_pa))] sz)) 0 0 (va_A [(b_o, (oc12 u_th u_sa b_rf b_ro b_im b_ke u_fd b_tp u_td u_fr u_to u_so u_wo u_fa u_bd u_nc b_nl u_co b_op b_ar u_le b_pi b_pa u_pd u_od b_ws b_hw u_la b_se b_re u_bk u_va u_su u_ce u_ho u_wy u_bt u_ps b_pt u_tg u_sn b_ip u_ic b_ah b_be b_me u_wd b_tr b_ld u_st b_wn u_id)), (b_op, (arI G 400 v_op)), (b_ar, (arI G 400 v_ar)), (b_pi, (arI G 400 v_pi)), (b_pa, (arI G 400 v_pa))] sz) := by
  refine Met.ofW (cc := cX12_settle) (maxL := 2) (ret := none) (by decide +kernel) rfl ?_
  intro p e s m args below meth c s₁ B hml hv
  obtain ⟨rfl, hsz, hP, hK, hD0, hN, hT⟩ := hv
  have hx := B.exec
  have hb := B.bytes
  have hr := B.returns
  have hts : ∀ w ∈ tblG, w.before _ s = true := fun w h => atoms_spec (ws := (wsG yX12_settle cX12_settle 2 none)) B.pre w (List.mem_cons_of_mem _ h)
  have hown : s.vm.findClass RX12 = some m.cls := findClass_of_methodNamed B.named
  have hlocks := B.notSynchronized
  subst hsz
  have hD := hD0.self (sz := s.heap.size)
  generalize hAe : va_A [(b_o, (oc12 u_th u_sa b_rf b_ro b_im b_ke u_fd b_tp u_td u_fr u_to u_so u_wo u_fa u_bd u_nc b_nl u_co b_op b_ar u_le b_pi b_pa u_pd u_od b_ws b_hw u_la b_se b_re u_bk u_va u_su u_ce u_ho u_wy u_bt u_ps b_pt u_tg u_sn b_ip u_ic b_ah b_be b_me u_wd b_tr b_ld u_st b_wn u_id)), (b_op, (arI G 400 v_op)), (b_ar, (arI G 400 v_ar)), (b_pi, (arI G 400 v_pi)), (b_pa, (arI G 400 v_pa))] s.heap.size = A at hD hT ⊢
  have hA : ∀ q : Nat, s.heap.size ≤ q → A q := fun q h => by rw [← hAe]; exact Or.inr h
  have hS : va_S A s.heap s.heap [] := va_S.rf
  replace hP : va_P G.1 vwCl [(b_o, (oc12 u_th u_sa b_rf b_ro b_im b_ke u_fd b_tp u_td u_fr u_to u_so u_wo u_fa u_bd u_nc b_nl u_co b_op b_ar u_le b_pi b_pa u_pd u_od b_ws b_hw u_la b_se b_re u_bk u_va u_su u_ce u_ho u_wy u_bt u_ps b_pt u_tg u_sn b_ip u_ic b_ah b_be b_me u_wd b_tr b_ld u_st b_wn u_id)), (b_op, (arI G 400 v_op)), (b_ar, (arI G 400 v_ar)), (b_pi, (arI G 400 v_pi)), (b_pa, (arI G 400 v_pa))] s.heap := hP
  have hl := lv_entry ([.ref b_o, .int p_1]) (n := 2) (Nat.le_of_ble_eq_true rfl)
  rw [lg_entry_eq]
  generalize (lg_sl ([.ref b_o, .int p_1]) ++ List.replicate (2 - (lg_sl ([.ref b_o, .int p_1])).length) Slot.unset).toArray = ls at hl ⊢
  replace hl : lv_has ls 2 [(0, .ref b_o), (1, .int p_1)] := hl
  refine g5_loop (α := (Int32) × (Int32) × (Nat → Int32) × (Nat → Int32)) (fun (q : (Int32) × (Int32) × (Nat → Int32) × (Nat → Int32)) (ls : Array Slot) (H : Heap) (locs : List Loc) => match q with | (k0_co, k0_pd, k0_op, k0_ar) => lv_has ls 2 [(0, .ref b_o), (1, .int p_1)] ∧ va_P G.1 vwCl [(b_o, (oc12 u_th u_sa b_rf b_ro b_im b_ke u_fd b_tp u_td u_fr u_to u_so u_wo u_fa u_bd u_nc b_nl k0_co b_op b_ar u_le b_pi b_pa k0_pd u_od b_ws b_hw u_la b_se b_re u_bk u_va u_su u_ce u_ho u_wy u_bt u_ps b_pt u_tg u_sn b_ip u_ic b_ah b_be b_me u_wd b_tr b_ld u_st b_wn u_id)), (b_op, (arI G 400 k0_op)), (b_ar, (arI G 400 k0_ar)), (b_pi, (arI G 400 v_pi)), (b_pa, (arI G 400 v_pa))] H ∧ va_D A [(b_o, (oc12 u_th u_sa b_rf b_ro b_im b_ke u_fd b_tp u_td u_fr u_to u_so u_wo u_fa u_bd u_nc b_nl k0_co b_op b_ar u_le b_pi b_pa k0_pd u_od b_ws b_hw u_la b_se b_re u_bk u_va u_su u_ce u_ho u_wy u_bt u_ps b_pt u_tg u_sn b_ip u_ic b_ah b_be b_me u_wd b_tr b_ld u_st b_wn u_id)), (b_op, (arI G 400 k0_op)), (b_ar, (arI G 400 k0_ar)), (b_pi, (arI G 400 v_pi)), (b_pa, (arI G 400 v_pa))] ∧ va_S A s.heap H locs ∧ (0 ≤ k0_co.toInt ∧ k0_co.toInt ≤ 400) ∧ (0 ≤ k0_pd.toInt ∧ k0_pd.toInt ≤ 400) ∧ (XJ g_op g_ar k0_op k0_ar v_pi v_pa g_a.toInt k0_co.toInt k0_pd.toInt g_f.toInt) ∧ (S1 v_pi u_pd.toInt k0_pd.toInt) ∧ (k0_pd.toInt ≤ u_pd.toInt)) (fun (q : (Int32) × (Int32) × (Nat → Int32) × (Nat → Int32)) => match q with | (k0_co, k0_pd, k0_op, k0_ar) => Int.toNat (k0_pd.toInt + 1)) (u_co, u_pd, v_op, v_ar) ⟨lv_sub hl [0, 1] rfl, hP, hD, hS, h_u_co, h_u_pd, e_x, s1_0, Int.le_refl _⟩ ?_
  rintro ⟨k0_co, k0_pd, k0_op, k0_ar⟩ ls H locs ⟨hl, hP, hD, hS, (i_1 : 0 ≤ k0_co.toInt ∧ k0_co.toInt ≤ 400), (i_2 : 0 ≤ k0_pd.toInt ∧ k0_pd.toInt ≤ 400), (i_3 : XJ g_op g_ar k0_op k0_ar v_pi v_pa g_a.toInt k0_co.toInt k0_pd.toInt g_f.toInt), (i_4 : S1 v_pi u_pd.toInt k0_pd.toInt), (i_5 : k0_pd.toInt ≤ u_pd.toInt)⟩ ih_0_6
  replace hl : lv_has ls 2 [(0, .ref b_o), (1, .int p_1)] := hl
  refine g5_rs [(b_o, (oc12 u_th u_sa b_rf b_ro b_im b_ke u_fd b_tp u_td u_fr u_to u_so u_wo u_fa u_bd u_nc b_nl k0_co b_op b_ar u_le b_pi b_pa k0_pd u_od b_ws b_hw u_la b_se b_re u_bk u_va u_su u_ce u_ho u_wy u_bt u_ps b_pt u_tg u_sn b_ip u_ic b_ah b_be b_me u_wd b_tr b_ld u_st b_wn u_id)), (b_op, (arI G 400 k0_op)), (b_ar, (arI G 400 k0_ar)), (b_pi, (arI G 400 v_pi)), (b_pa, (arI G 400 v_pa))] hP hD ?_
  clear hP hD
  intro hP hD
  refine lv_aload_n hx hb dX12_settle_0 rfl (lv_at hl 0 rfl) ?_
  refine va_get (D := G.1) (ci := 12) (v := .int k0_pd) (C := RX12) (T := TX12) (N := 52) hx hb hts inG_X12 hown hK hP 0 rfl rfl 23 (by decide +kernel) (hts _ fl_X12_240) (fun _ h9 => h9) rfl dX12_settle_1 ?_
  refine lv_if_le (tgt := 101) hx hb dX12_settle_4 (by decide +kernel) (fun c_7 => ?_) (fun c_7 => ?_)
  ·
    have i_7 : k0_pd.toInt ≤ 0 := g5_le (a := k0_pd.toInt) (b := 0) rfl (by decide +kernel) c_7
    exact W.vret hx hb hr (fun t ht hW => ⟨⟨[(b_o, (oc12 u_th u_sa b_rf b_ro b_im b_ke u_fd b_tp u_td u_fr u_to u_so u_wo u_fa u_bd u_nc b_nl k0_co b_op b_ar u_le b_pi b_pa k0_pd u_od b_ws b_hw u_la b_se b_re u_bk u_va u_su u_ce u_ho u_wy u_bt u_ps b_pt u_tg u_sn b_ip u_ic b_ah b_be b_me u_wd b_tr b_ld u_st b_wn u_id)), (b_op, (arI G 400 k0_op)), (b_ar, (arI G 400 k0_ar)), (b_pi, (arI G 400 v_pi)), (b_pa, (arI G 400 v_pa))], rfl, ⟨k0_co, k0_pd, k0_op, k0_ar, i_1, i_2, i_3, i_4, Or.inl (by omega), by omega, rfl⟩, by rw [ht]; exact hP.sub [0, 1, 2, 3, 4] rfl, hD.sub [0, 1, 2, 3, 4] (by decide +kernel) rfl⟩, hS.F ht⟩) hS.2.2 dX12_settle_101
  ·
    have i_7 : k0_pd.toInt > 0 := g5_leN (a := k0_pd.toInt) (b := 0) rfl (by decide +kernel) c_7
    refine lv_aload_n hx hb dX12_settle_7 rfl (lv_at hl 0 rfl) ?_
    refine va_get (D := G.1) (ci := 12) (v := .ref b_pi) (C := RX12) (T := TX12) (N := 52) hx hb hts inG_X12 hown hK hP 0 rfl rfl 21 (by decide +kernel) (hts _ fl_X12_39) (fun _ h9 => h9) rfl dX12_settle_8 ?_
    refine lv_aload_n hx hb dX12_settle_11 rfl (lv_at hl 0 rfl) ?_
    refine va_get (D := G.1) (ci := 12) (v := .int k0_pd) (C := RX12) (T := TX12) (N := 52) hx hb hts inG_X12 hown hK hP 0 rfl rfl 23 (by decide +kernel) (hts _ fl_X12_240) (fun _ h9 => h9) rfl dX12_settle_12 ?_
    refine W.eq (g2 := F0 m 15 ls [.int k0_pd, .ref b_pi]) rfl ?_
    refine lv_iconst (v := 1) hx hb dX12_settle_15 (by decide +kernel) ?_
    refine lv_isub hx hb dX12_settle_16 ?_
    have t_8 : (k0_pd - 1).toInt = k0_pd.toInt - 1 := g5_isub (a := k0_pd.toInt) (b := 1) (by rfl) (by decide +kernel) (by omega) (by omega)
    refine va_iald hx hb hK hP 3 0 rfl rfl (i := (k0_pd - 1)) (vp_in_iff.mpr ⟨by omega, by omega⟩) dX12_settle_17 ?_
    have hv9 : 20 ≤ (v_pi (k0_pd - 1).toNatClampNeg).toInt ∧ (v_pi (k0_pd - 1).toNatClampNeg).toInt ≤ 31 := xj_at i_3 (by omega) (by omega)
    obtain ⟨hPc, hDc, hFc⟩ := g5_sub3 (wc := []) hP hD hS hA [] (by decide +kernel) rfl
    refine va_calli (va_runS (As := [.int (v_pi (k0_pd - 1).toNatClampNeg)]) (rest := []) ⟨hx, hb, hml, hown, hts⟩ (n_binds l G H.size (v_pi (k0_pd - 1).toNatClampNeg) ⟨by omega, by omega⟩) (va_cwS 1 hts gS_X12_243 rfl rfl rfl hs_X12_binds ⟨Nat.le_of_ble_eq_true rfl, Nat.le_of_ble_eq_true rfl⟩) (g5_preS hPc hK hDc hN hT hS hFc) rfl rfl hl.1 rfl (lv_room (Nat.le_of_ble_eq_true rfl)) dX12_settle_18 ⟨Nat.le_of_ble_eq_true rfl, Nat.le_of_ble_eq_true rfl⟩) hS (fun q _ h => hFc q h) hFc (fun r u t H locs ht hvm hw hB hz1 hk1 hS => ?_)
    obtain ⟨hP1, hD1⟩ := hB
    have hP1 := g5_ht ht hP1
    obtain ⟨z11, (i_9 : 0 ≤ z11.toInt ∧ z11.toInt ≤ 6), (i_10 : z11.toInt = bnd (v_pi (k0_pd - 1).toNatClampNeg).toInt), y12, rfl⟩ := hw
    have hJ9 := g5_same hP hk1
    clear hP hPc hDc hFc ht hvm hz1 hk1 hP1 hD1
    have hP := hJ9
    clear hJ9
    refine g5_ti (v := z11) y12 ?_
    refine lv_iload_n hx hb dX12_settle_21 rfl (lv_at hl 1 rfl) ?_
    refine W.eq (g2 := F0 m 22 ls [.int p_1, .int z11]) rfl ?_
    refine lv_icmp_lt (tgt := 101) hx hb dX12_settle_22 (by decide +kernel) (fun c_13 => ?_) (fun c_13 => ?_)
    ·
      have i_13 : z11.toInt < p_1.toInt := g5_lt (a := z11.toInt) (b := p_1.toInt) rfl rfl c_13
      exact W.vret hx hb hr (fun t ht hW => ⟨⟨[(b_o, (oc12 u_th u_sa b_rf b_ro b_im b_ke u_fd b_tp u_td u_fr u_to u_so u_wo u_fa u_bd u_nc b_nl k0_co b_op b_ar u_le b_pi b_pa k0_pd u_od b_ws b_hw u_la b_se b_re u_bk u_va u_su u_ce u_ho u_wy u_bt u_ps b_pt u_tg u_sn b_ip u_ic b_ah b_be b_me u_wd b_tr b_ld u_st b_wn u_id)), (b_op, (arI G 400 k0_op)), (b_ar, (arI G 400 k0_ar)), (b_pi, (arI G 400 v_pi)), (b_pa, (arI G 400 v_pa))], rfl, ⟨k0_co, k0_pd, k0_op, k0_ar, i_1, i_2, i_3, i_4, s2_lt (p' := (k0_pd - 1)) (by omega) (by omega) (by omega), by omega, rfl⟩, by rw [ht]; exact hP.sub [0, 1, 2, 3, 4] rfl, hD.sub [0, 1, 2, 3, 4] (by decide +kernel) rfl⟩, hS.F ht⟩) hS.2.2 dX12_settle_101
    ·
      have i_13 : z11.toInt ≥ p_1.toInt := g5_ltN (a := z11.toInt) (b := p_1.toInt) rfl rfl c_13
      have hw9 : (v_pi (k0_pd - 1).toNatClampNeg).toInt < 30 := bnd_ge1 (by omega)
      refine lv_aload_n hx hb dX12_settle_25 rfl (lv_at hl 0 rfl) ?_
      refine lv_dup hx hb dX12_settle_26 rfl ?_
      refine va_get (D := G.1) (ci := 12) (v := .int k0_pd) (C := RX12) (T := TX12) (N := 52) hx hb hts inG_X12 hown hK hP 0 rfl rfl 23 (by decide +kernel) (hts _ fl_X12_240) (fun _ h9 => h9) rfl dX12_settle_27 ?_
      refine lv_iconst (v := 1) hx hb dX12_settle_30 (by decide +kernel) ?_
      refine W.eq (g2 := F0 m 31 ls [.int 1, .int k0_pd, .ref b_o]) rfl ?_
      refine lv_isub hx hb dX12_settle_31 ?_
      have t_14 : (k0_pd - 1).toInt = k0_pd.toInt - 1 := g5_isub (a := k0_pd.toInt) (b := 1) (by rfl) (by decide +kernel) (by omega) (by omega)
      refine va_put (D := G.1) (ci := 12) (v := .int (k0_pd - 1)) (ty := .int) (C := RX12) (T := TX12) (N := 52) hx hb hts inG_X12 tyX12 tyX12_ok nmX12 hown hK hP hD hS 0 rfl rfl 23 (by decide +kernel) (hts _ fl_X12_240) (fun _ h9 => h9) rfl (by decide +kernel) rfl rfl (Nat.le_of_ble_eq_true rfl) dX12_settle_32 ?_
      clear hP hD hS
      intro H locs hP hD hS
      refine g5_rs [(b_o, (oc12 u_th u_sa b_rf b_ro b_im b_ke u_fd b_tp u_td u_fr u_to u_so u_wo u_fa u_bd u_nc b_nl k0_co b_op b_ar u_le b_pi b_pa (k0_pd - 1) u_od b_ws b_hw u_la b_se b_re u_bk u_va u_su u_ce u_ho u_wy u_bt u_ps b_pt u_tg u_sn b_ip u_ic b_ah b_be b_me u_wd b_tr b_ld u_st b_wn u_id)), (b_op, (arI G 400 k0_op)), (b_ar, (arI G 400 k0_ar)), (b_pi, (arI G 400 v_pi)), (b_pa, (arI G 400 v_pa))] hP hD ?_
      clear hP hD
      intro hP hD
      refine lv_aload_n hx hb dX12_settle_35 rfl (lv_at hl 0 rfl) ?_
      refine va_get (D := G.1) (ci := 12) (v := .ref b_pi) (C := RX12) (T := TX12) (N := 52) hx hb hts inG_X12 hown hK hP 0 rfl rfl 21 (by decide +kernel) (hts _ fl_X12_39) (fun _ h9 => h9) rfl dX12_settle_36 ?_
      refine lv_aload_n hx hb dX12_settle_39 rfl (lv_at hl 0 rfl) ?_
      refine W.eq (g2 := F0 m 40 ls [.ref b_o, .ref b_pi]) rfl ?_
      refine va_get (D := G.1) (ci := 12) (v := .int (k0_pd - 1)) (C := RX12) (T := TX12) (N := 52) hx hb hts inG_X12 hown hK hP 0 rfl rfl 23 (by decide +kernel) (hts _ fl_X12_240) (fun _ h9 => h9) rfl dX12_settle_40 ?_
      refine va_iald hx hb hK hP 3 0 rfl rfl (i := (k0_pd - 1)) (vp_in_iff.mpr ⟨by omega, by omega⟩) dX12_settle_43 ?_
      refine lv_bipush (v := 28) hx hb dX12_settle_44 (by decide +kernel) ?_
      refine lv_icmp_eq (tgt := 63) hx hb dX12_settle_46 (by decide +kernel) (fun c_15 => ?_) (fun c_15 => ?_)
      ·
        have i_15 : (v_pi (k0_pd - 1).toNatClampNeg).toInt = 28 := g5_eq (a := (v_pi (k0_pd - 1).toNatClampNeg).toInt) (b := 28) rfl (by decide +kernel) c_15
        have hj9 : isJ (v_pi (k0_pd - 1).toNatClampNeg) := by unfold isJ; omega
        refine lv_aload_n hx hb dX12_settle_63 rfl (lv_at hl 0 rfl) ?_
        refine va_get (D := G.1) (ci := 12) (v := .ref b_ar) (C := RX12) (T := TX12) (N := 52) hx hb hts inG_X12 hown hK hP 0 rfl rfl 19 (by decide +kernel) (hts _ fl_X12_36) (fun _ h9 => h9) rfl dX12_settle_64 ?_
        refine lv_aload_n hx hb dX12_settle_67 rfl (lv_at hl 0 rfl) ?_
        refine va_get (D := G.1) (ci := 12) (v := .ref b_pa) (C := RX12) (T := TX12) (N := 52) hx hb hts inG_X12 hown hK hP 0 rfl rfl 22 (by decide +kernel) (hts _ fl_X12_42) (fun _ h9 => h9) rfl dX12_settle_68 ?_
        refine W.eq (g2 := F0 m 71 ls [.ref b_pa, .ref b_ar]) rfl ?_
        refine lv_aload_n hx hb dX12_settle_71 rfl (lv_at hl 0 rfl) ?_
        refine va_get (D := G.1) (ci := 12) (v := .int (k0_pd - 1)) (C := RX12) (T := TX12) (N := 52) hx hb hts inG_X12 hown hK hP 0 rfl rfl 23 (by decide +kernel) (hts _ fl_X12_240) (fun _ h9 => h9) rfl dX12_settle_72 ?_
        refine va_iald hx hb hK hP 4 0 rfl rfl (i := (k0_pd - 1)) (vp_in_iff.mpr ⟨by omega, by omega⟩) dX12_settle_75 ?_
        have hq9 : 0 ≤ (v_pa (k0_pd - 1).toNatClampNeg).toInt ∧ (v_pa (k0_pd - 1).toNatClampNeg).toInt ≤ 399 := xj_pa i_3 (by omega) (by omega) (by omega) hj9
        refine lv_aload_n hx hb dX12_settle_76 rfl (lv_at hl 0 rfl) ?_
        refine va_get (D := G.1) (ci := 12) (v := .int k0_co) (C := RX12) (T := TX12) (N := 52) hx hb hts inG_X12 hown hK hP 0 rfl rfl 17 (by decide +kernel) (hts _ fl_X12_237) (fun _ h9 => h9) rfl dX12_settle_77 ?_
        refine W.eq (g2 := F0 m 80 ls [.int k0_co, .int (v_pa (k0_pd - 1).toNatClampNeg), .ref b_ar]) rfl ?_
        refine va_iast hx hb hK hP hD hS 2 0 rfl rfl (i := (v_pa (k0_pd - 1).toNatClampNeg)) (x := k0_co) (vp_in_iff.mpr ⟨by omega, by omega⟩) dX12_settle_80 ?_
        clear hP hD hS
        intro H locs hP hD hS
        refine g5_rs [(b_o, (oc12 u_th u_sa b_rf b_ro b_im b_ke u_fd b_tp u_td u_fr u_to u_so u_wo u_fa u_bd u_nc b_nl k0_co b_op b_ar u_le b_pi b_pa (k0_pd - 1) u_od b_ws b_hw u_la b_se b_re u_bk u_va u_su u_ce u_ho u_wy u_bt u_ps b_pt u_tg u_sn b_ip u_ic b_ah b_be b_me u_wd b_tr b_ld u_st b_wn u_id)), (b_op, (arI G 400 k0_op)), (b_ar, (arI G 400 (upd k0_ar (v_pa (k0_pd - 1).toNatClampNeg).toNatClampNeg k0_co))), (b_pi, (arI G 400 v_pi)), (b_pa, (arI G 400 v_pa))] hP hD ?_
        clear hP hD
        intro hP hD
        refine lv_goto (tgt := 0) hx hb dX12_settle_81 (by decide +kernel) ?_
        exact ih_0_6 (k0_co, (k0_pd - 1), k0_op, (upd k0_ar (v_pa (k0_pd - 1).toNatClampNeg).toNatClampNeg k0_co)) ls H locs (show Int.toNat ((k0_pd - 1).toInt + 1) < Int.toNat (k0_pd.toInt + 1) from g_dn (show (k0_pd - 1).toInt < k0_pd.toInt by omega) (show 0 ≤ k0_pd.toInt by omega)) ⟨lv_sub hl [0, 1] rfl, hP, hD, hS, i_1, ⟨by omega, by omega⟩, xj_popJ i_3 (by omega) (by omega) hj9, s1_S i_4 (by omega) (by omega) (by omega), by omega⟩
      ·
        have n_15 : gNe ((v_pi (k0_pd - 1).toNatClampNeg).toInt) (28) := g5_eqN (a := (v_pi (k0_pd - 1).toNatClampNeg).toInt) (b := 28) rfl (by decide +kernel) c_15
        refine lv_aload_n hx hb dX12_settle_49 rfl (lv_at hl 0 rfl) ?_
        refine va_get (D := G.1) (ci := 12) (v := .ref b_pi) (C := RX12) (T := TX12) (N := 52) hx hb hts inG_X12 hown hK hP 0 rfl rfl 21 (by decide +kernel) (hts _ fl_X12_39) (fun _ h9 => h9) rfl dX12_settle_50 ?_
        refine lv_aload_n hx hb dX12_settle_53 rfl (lv_at hl 0 rfl) ?_
        refine va_get (D := G.1) (ci := 12) (v := .int (k0_pd - 1)) (C := RX12) (T := TX12) (N := 52) hx hb hts inG_X12 hown hK hP 0 rfl rfl 23 (by decide +kernel) (hts _ fl_X12_240) (fun _ h9 => h9) rfl dX12_settle_54 ?_
        refine W.eq (g2 := F0 m 57 ls [.int (k0_pd - 1), .ref b_pi]) rfl ?_
        refine va_iald hx hb hK hP 3 0 rfl rfl (i := (k0_pd - 1)) (vp_in_iff.mpr ⟨by omega, by omega⟩) dX12_settle_57 ?_
        refine lv_bipush (v := 29) hx hb dX12_settle_58 (by decide +kernel) ?_
        refine lv_icmp_ne (tgt := 84) hx hb dX12_settle_60 (by decide +kernel) (fun c_16 => ?_) (fun c_16 => ?_)
        ·
          have n_16 : gNe ((v_pi (k0_pd - 1).toNatClampNeg).toInt) (29) := g5_ne (a := (v_pi (k0_pd - 1).toNatClampNeg).toInt) (b := 29) rfl (by decide +kernel) c_16
          have i_16 : (v_pi (k0_pd - 1).toNatClampNeg).toInt ≤ 28 := by have z := g5_ne (a := (v_pi (k0_pd - 1).toNatClampNeg).toInt) (b := 29) (by rfl) (by decide +kernel) c_16; omega
          have hx28 : (v_pi (k0_pd - 1).toNatClampNeg).toInt < 28 := by have q9 : ¬ (v_pi (k0_pd - 1).toNatClampNeg).toInt = 28 := n_15; omega
          have hc9 : k0_co.toInt < 400 := xj_room i_3 (by omega) (by omega) (by omega) hx28
          refine lv_aload_n hx hb dX12_settle_84 rfl (lv_at hl 0 rfl) ?_
          refine lv_aload_n hx hb dX12_settle_85 rfl (lv_at hl 0 rfl) ?_
          refine va_get (D := G.1) (ci := 12) (v := .ref b_pi) (C := RX12) (T := TX12) (N := 52) hx hb hts inG_X12 hown hK hP 0 rfl rfl 21 (by decide +kernel) (hts _ fl_X12_39) (fun _ h9 => h9) rfl dX12_settle_86 ?_
          refine lv_aload_n hx hb dX12_settle_89 rfl (lv_at hl 0 rfl) ?_
          refine W.eq (g2 := F0 m 90 ls [.ref b_o, .ref b_pi, .ref b_o]) rfl ?_
          refine va_get (D := G.1) (ci := 12) (v := .int (k0_pd - 1)) (C := RX12) (T := TX12) (N := 52) hx hb hts inG_X12 hown hK hP 0 rfl rfl 23 (by decide +kernel) (hts _ fl_X12_240) (fun _ h9 => h9) rfl dX12_settle_90 ?_
          refine va_iald hx hb hK hP 3 0 rfl rfl (i := (k0_pd - 1)) (vp_in_iff.mpr ⟨by omega, by omega⟩) dX12_settle_93 ?_
          refine lv_iconst (v := 0) hx hb dX12_settle_94 (by decide +kernel) ?_
          obtain ⟨hPc, hDc, hFc⟩ := g5_sub3 (wc := [(b_o, (oc12 u_th u_sa b_rf b_ro b_im b_ke u_fd b_tp u_td u_fr u_to u_so u_wo u_fa u_bd u_nc b_nl k0_co b_op b_ar u_le b_pi b_pa (k0_pd - 1) u_od b_ws b_hw u_la b_se b_re u_bk u_va u_su u_ce u_ho u_wy u_bt u_ps b_pt u_tg u_sn b_ip u_ic b_ah b_be b_me u_wd b_tr b_ld u_st b_wn u_id)), (b_op, (arI G 400 k0_op)), (b_ar, (arI G 400 k0_ar))]) hP hD hS hA [0, 1, 2] (by decide +kernel) rfl
          refine va_callv (va_runV (As := [.int (v_pi (k0_pd - 1).toNatClampNeg), .int 0]) (rest := []) ⟨hx, hb, hml, hown, hts⟩ (n_emit l G b_o b_op b_ar b_rf b_ro b_im b_ke b_tp b_nl b_pi b_pa b_ws b_hw b_se b_re b_pt b_ip b_ah b_be b_me b_tr b_ld b_wn H.size u_th u_sa u_fd u_td u_fr u_to u_so u_fa u_bd u_nc k0_co u_le (k0_pd - 1) u_od u_la u_bk u_ce u_ho u_wy u_bt u_ps u_tg u_sn u_ic u_wd u_id (v_pi (k0_pd - 1).toNatClampNeg) 0 u_wo u_va u_su u_st k0_op k0_ar h_u_td h_u_fr h_u_to h_u_bd h_u_nc i_1 ⟨by omega, by omega⟩ h_u_la h_u_bk h_u_ce h_u_ho h_u_wy h_u_bt h_u_ps h_u_ic h_u_id (by omega)) (cwV 2 hts gV_X12_246 rfl rfl rfl hv_X12_emit ⟨Nat.le_of_ble_eq_true rfl, Nat.le_of_ble_eq_true rfl⟩) (g5_preV hPc hK hDc hN hT hS hFc (ci := 12) (q0 := 0) rfl rfl) rfl rfl hl.1 rfl (lv_room (Nat.le_of_ble_eq_true rfl)) dX12_settle_95 ⟨Nat.le_of_ble_eq_true rfl, Nat.le_of_ble_eq_true rfl⟩) hS (fun q _ h => hFc q h) hFc (fun u t H locs ht hvm hw hB hz1 hk1 hS => ?_)
          obtain ⟨hP1, hD1⟩ := hB
          have hP1 := g5_ht ht hP1
          obtain ⟨z19, (i_17 : 0 ≤ z19.toInt ∧ z19.toInt ≤ 400), (i_18 : z19.toInt = k0_co.toInt + 1), rfl⟩ := hw
          have hJ9 := va_join (wr := [(b_pi, (arI G 400 v_pi)), (b_pa, (arI G 400 v_pa))]) hP hD [0, 1, 2] [3, 4] rfl rfl (by decide +kernel) (by decide +kernel) hk1 hFc hP1 hD1
          clear hP hD hPc hDc hFc ht hvm hz1 hk1 hP1 hD1
          obtain ⟨hP, hD⟩ := hJ9
          refine g5_rs [(b_pi, (arI G 400 v_pi)), (b_pa, (arI G 400 v_pa)), (b_o, (oc12 u_th u_sa b_rf b_ro b_im b_ke u_fd b_tp u_td u_fr u_to u_so u_wo u_fa u_bd u_nc b_nl z19 b_op b_ar u_le b_pi b_pa (k0_pd - 1) u_od b_ws b_hw u_la b_se b_re u_bk u_va u_su u_ce u_ho u_wy u_bt u_ps b_pt u_tg u_sn b_ip u_ic b_ah b_be b_me u_wd b_tr b_ld u_st b_wn u_id)), (b_op, (arI G 400 (upd k0_op k0_co.toNatClampNeg (v_pi (k0_pd - 1).toNatClampNeg)))), (b_ar, (arI G 400 (upd k0_ar k0_co.toNatClampNeg 0)))] hP hD ?_
          clear hP hD
          intro hP hD
          refine lv_goto (tgt := 0) hx hb dX12_settle_98 (by decide +kernel) ?_
          exact ih_0_6 (z19, (k0_pd - 1), (upd k0_op k0_co.toNatClampNeg (v_pi (k0_pd - 1).toNatClampNeg)), (upd k0_ar k0_co.toNatClampNeg 0)) ls H locs (show Int.toNat ((k0_pd - 1).toInt + 1) < Int.toNat (k0_pd.toInt + 1) from g_dn (show (k0_pd - 1).toInt < k0_pd.toInt by omega) (show 0 ≤ k0_pd.toInt by omega)) ⟨lv_sub hl [0, 1] rfl, hP.sub [2, 3, 4, 0, 1] rfl, hD.sub [2, 3, 4, 0, 1] (by decide +kernel) rfl, hS, i_17, ⟨by omega, by omega⟩, xj_popE i_3 (by omega) (by omega) (by omega) hx28, s1_S i_4 (by omega) (by omega) (by omega), by omega⟩
        ·
          have i_16 : (v_pi (k0_pd - 1).toNatClampNeg).toInt = 29 := g5_neN (a := (v_pi (k0_pd - 1).toNatClampNeg).toInt) (b := 29) rfl (by decide +kernel) c_16
          have hj9 : isJ (v_pi (k0_pd - 1).toNatClampNeg) := by unfold isJ; omega
          refine lv_aload_n hx hb dX12_settle_63 rfl (lv_at hl 0 rfl) ?_
          refine va_get (D := G.1) (ci := 12) (v := .ref b_ar) (C := RX12) (T := TX12) (N := 52) hx hb hts inG_X12 hown hK hP 0 rfl rfl 19 (by decide +kernel) (hts _ fl_X12_36) (fun _ h9 => h9) rfl dX12_settle_64 ?_
          refine lv_aload_n hx hb dX12_settle_67 rfl (lv_at hl 0 rfl) ?_
          refine va_get (D := G.1) (ci := 12) (v := .ref b_pa) (C := RX12) (T := TX12) (N := 52) hx hb hts inG_X12 hown hK hP 0 rfl rfl 22 (by decide +kernel) (hts _ fl_X12_42) (fun _ h9 => h9) rfl dX12_settle_68 ?_
          refine W.eq (g2 := F0 m 71 ls [.ref b_pa, .ref b_ar]) rfl ?_
          refine lv_aload_n hx hb dX12_settle_71 rfl (lv_at hl 0 rfl) ?_
          refine va_get (D := G.1) (ci := 12) (v := .int (k0_pd - 1)) (C := RX12) (T := TX12) (N := 52) hx hb hts inG_X12 hown hK hP 0 rfl rfl 23 (by decide +kernel) (hts _ fl_X12_240) (fun _ h9 => h9) rfl dX12_settle_72 ?_
          refine va_iald hx hb hK hP 4 0 rfl rfl (i := (k0_pd - 1)) (vp_in_iff.mpr ⟨by omega, by omega⟩) dX12_settle_75 ?_
          have hq9 : 0 ≤ (v_pa (k0_pd - 1).toNatClampNeg).toInt ∧ (v_pa (k0_pd - 1).toNatClampNeg).toInt ≤ 399 := xj_pa i_3 (by omega) (by omega) (by omega) hj9
          refine lv_aload_n hx hb dX12_settle_76 rfl (lv_at hl 0 rfl) ?_
          refine va_get (D := G.1) (ci := 12) (v := .int k0_co) (C := RX12) (T := TX12) (N := 52) hx hb hts inG_X12 hown hK hP 0 rfl rfl 17 (by decide +kernel) (hts _ fl_X12_237) (fun _ h9 => h9) rfl dX12_settle_77 ?_
          refine W.eq (g2 := F0 m 80 ls [.int k0_co, .int (v_pa (k0_pd - 1).toNatClampNeg), .ref b_ar]) rfl ?_
          refine va_iast hx hb hK hP hD hS 2 0 rfl rfl (i := (v_pa (k0_pd - 1).toNatClampNeg)) (x := k0_co) (vp_in_iff.mpr ⟨by omega, by omega⟩) dX12_settle_80 ?_
          clear hP hD hS
          intro H locs hP hD hS
          refine g5_rs [(b_o, (oc12 u_th u_sa b_rf b_ro b_im b_ke u_fd b_tp u_td u_fr u_to u_so u_wo u_fa u_bd u_nc b_nl k0_co b_op b_ar u_le b_pi b_pa (k0_pd - 1) u_od b_ws b_hw u_la b_se b_re u_bk u_va u_su u_ce u_ho u_wy u_bt u_ps b_pt u_tg u_sn b_ip u_ic b_ah b_be b_me u_wd b_tr b_ld u_st b_wn u_id)), (b_op, (arI G 400 k0_op)), (b_ar, (arI G 400 (upd k0_ar (v_pa (k0_pd - 1).toNatClampNeg).toNatClampNeg k0_co))), (b_pi, (arI G 400 v_pi)), (b_pa, (arI G 400 v_pa))] hP hD ?_
          clear hP hD
          intro hP hD
          refine lv_goto (tgt := 0) hx hb dX12_settle_81 (by decide +kernel) ?_
          exact ih_0_6 (k0_co, (k0_pd - 1), k0_op, (upd k0_ar (v_pa (k0_pd - 1).toNatClampNeg).toNatClampNeg k0_co)) ls H locs (show Int.toNat ((k0_pd - 1).toInt + 1) < Int.toNat (k0_pd.toInt + 1) from g_dn (show (k0_pd - 1).toInt < k0_pd.toInt by omega) (show 0 ≤ k0_pd.toInt by omega)) ⟨lv_sub hl [0, 1] rfl, hP, hD, hS, i_1, ⟨by omega, by omega⟩, xj_popJ i_3 (by omega) (by omega) hj9, s1_S i_4 (by omega) (by omega) (by omega), by omega⟩
theorem dgX12_inner_0 : ∀ r ∈ ([(0, (.iconst (-1), 1)), (1, (.istore_n 1, 1)), (2, (.iconst 0, 1)), (3, (.istore_n 2, 1)), (4, (.iload_n 2, 1)), (5, (.aload_n 0, 1)), (6, (.getfield 240, 3)), (9, (.if_icmp .ge 31, 3)), (12, (.aload_n 0, 1)), (13, (.getfield 39, 3)), (16, (.iload_n 2, 1)), (17, (.iaload, 1)), (18, (.bipush 30, 2)), (20, (.if_icmp .lt 12, 3)), (23, (.aload_n 0, 1)), (24, (.getfield 39, 3)), (27, (.iload_n 2, 1)), (28, (.iaload, 1)), (29, (.goto 4, 3)), (32, (.iload_n 1, 1)), (33, (.istore_n 1, 1)), (34, (.iinc 2 1, 3)), (37, (.goto (-33), 3)), (40, (.iload_n 1, 1)), (41, (.ireturn, 1))] : List (Nat × (Instr × Nat))), decode cX12_inner r.1 = .ok r.2 := by decide +kernel
theorem dX12_inner_0 : decode cX12_inner 0 = .ok (.iconst (-1), 1) := dgX12_inner_0 (0, (.iconst (-1), 1)) (List.mem_of_getElem? (i := 0) rfl)
theorem dX12_inner_1 : decode cX12_inner 1 = .ok (.istore_n 1, 1) := dgX12_inner_0 (1, (.istore_n 1, 1)) (List.mem_of_getElem? (i := 1) rfl)
theorem dX12_inner_2 : decode cX12_inner 2 = .ok (.iconst 0, 1) := dgX12_inner_0 (2, (.iconst 0, 1)) (List.mem_of_getElem? (i := 2) rfl)
theorem dX12_inner_3 : decode cX12_inner 3 = .ok (.istore_n 2, 1) := dgX12_inner_0 (3, (.istore_n 2, 1)) (List.mem_of_getElem? (i := 3) rfl)
theorem dX12_inner_4 : decode cX12_inner 4 = .ok (.iload_n 2, 1) := dgX12_inner_0 (4, (.iload_n 2, 1)) (List.mem_of_getElem? (i := 4) rfl)
theorem dX12_inner_5 : decode cX12_inner 5 = .ok (.aload_n 0, 1) := dgX12_inner_0 (5, (.aload_n 0, 1)) (List.mem_of_getElem? (i := 5) rfl)
theorem dX12_inner_6 : decode cX12_inner 6 = .ok (.getfield 240, 3) := dgX12_inner_0 (6, (.getfield 240, 3)) (List.mem_of_getElem? (i := 6) rfl)
theorem dX12_inner_9 : decode cX12_inner 9 = .ok (.if_icmp .ge 31, 3) := dgX12_inner_0 (9, (.if_icmp .ge 31, 3)) (List.mem_of_getElem? (i := 7) rfl)
theorem dX12_inner_12 : decode cX12_inner 12 = .ok (.aload_n 0, 1) := dgX12_inner_0 (12, (.aload_n 0, 1)) (List.mem_of_getElem? (i := 8) rfl)
theorem dX12_inner_13 : decode cX12_inner 13 = .ok (.getfield 39, 3) := dgX12_inner_0 (13, (.getfield 39, 3)) (List.mem_of_getElem? (i := 9) rfl)
theorem dX12_inner_16 : decode cX12_inner 16 = .ok (.iload_n 2, 1) := dgX12_inner_0 (16, (.iload_n 2, 1)) (List.mem_of_getElem? (i := 10) rfl)
theorem dX12_inner_17 : decode cX12_inner 17 = .ok (.iaload, 1) := dgX12_inner_0 (17, (.iaload, 1)) (List.mem_of_getElem? (i := 11) rfl)
theorem dX12_inner_18 : decode cX12_inner 18 = .ok (.bipush 30, 2) := dgX12_inner_0 (18, (.bipush 30, 2)) (List.mem_of_getElem? (i := 12) rfl)
theorem dX12_inner_20 : decode cX12_inner 20 = .ok (.if_icmp .lt 12, 3) := dgX12_inner_0 (20, (.if_icmp .lt 12, 3)) (List.mem_of_getElem? (i := 13) rfl)
theorem dX12_inner_23 : decode cX12_inner 23 = .ok (.aload_n 0, 1) := dgX12_inner_0 (23, (.aload_n 0, 1)) (List.mem_of_getElem? (i := 14) rfl)
theorem dX12_inner_24 : decode cX12_inner 24 = .ok (.getfield 39, 3) := dgX12_inner_0 (24, (.getfield 39, 3)) (List.mem_of_getElem? (i := 15) rfl)
theorem dX12_inner_27 : decode cX12_inner 27 = .ok (.iload_n 2, 1) := dgX12_inner_0 (27, (.iload_n 2, 1)) (List.mem_of_getElem? (i := 16) rfl)
theorem dX12_inner_28 : decode cX12_inner 28 = .ok (.iaload, 1) := dgX12_inner_0 (28, (.iaload, 1)) (List.mem_of_getElem? (i := 17) rfl)
theorem dX12_inner_29 : decode cX12_inner 29 = .ok (.goto 4, 3) := dgX12_inner_0 (29, (.goto 4, 3)) (List.mem_of_getElem? (i := 18) rfl)
theorem dX12_inner_32 : decode cX12_inner 32 = .ok (.iload_n 1, 1) := dgX12_inner_0 (32, (.iload_n 1, 1)) (List.mem_of_getElem? (i := 19) rfl)
theorem dX12_inner_33 : decode cX12_inner 33 = .ok (.istore_n 1, 1) := dgX12_inner_0 (33, (.istore_n 1, 1)) (List.mem_of_getElem? (i := 20) rfl)
theorem dX12_inner_34 : decode cX12_inner 34 = .ok (.iinc 2 1, 3) := dgX12_inner_0 (34, (.iinc 2 1, 3)) (List.mem_of_getElem? (i := 21) rfl)
theorem dX12_inner_37 : decode cX12_inner 37 = .ok (.goto (-33), 3) := dgX12_inner_0 (37, (.goto (-33), 3)) (List.mem_of_getElem? (i := 22) rfl)
theorem dX12_inner_40 : decode cX12_inner 40 = .ok (.iload_n 1, 1) := dgX12_inner_0 (40, (.iload_n 1, 1)) (List.mem_of_getElem? (i := 23) rfl)
theorem dX12_inner_41 : decode cX12_inner 41 = .ok (.ireturn, 1) := dgX12_inner_0 (41, (.ireturn, 1)) (List.mem_of_getElem? (i := 24) rfl)
theorem dgX12_isCompared_0 : ∀ r ∈ ([(0, (.aload_n 0, 1)), (1, (.getfield 240, 3)), (4, (.iconst 1, 1)), (5, (.isub, 1)), (6, (.istore_n 1, 1)), (7, (.iload_n 1, 1)), (8, (.ifCond .lt 28, 3)), (11, (.aload_n 0, 1)), (12, (.getfield 39, 3)), (15, (.iload_n 1, 1)), (16, (.iaload, 1)), (17, (.i2l, 1)), (18, (.ldc2_w 250, 3)), (21, (.ldc2_w 130, 3)), (24, (.invokestatic 121, 3)), (27, (.ifCond .eq 9, 3)), (30, (.iinc 1 (-1), 3)), (33, (.goto (-26), 3)), (36, (.iload_n 1, 1)), (37, (.ifCond .lt 26, 3)), (40, (.aload_n 0, 1)), (41, (.getfield 39, 3)), (44, (.iload_n 1, 1)), (45, (.iaload, 1)), (46, (.i2l, 1)), (47, (.ldc2_w 47, 3)), (50, (.ldc2_w 252, 3)), (53, (.invokestatic 121, 3)), (56, (.ifCond .eq 7, 3)), (59, (.iconst 1, 1)), (60, (.goto 4, 3)), (63, (.iconst 0, 1)), (64, (.ireturn, 1))] : List (Nat × (Instr × Nat))), decode cX12_isCompared r.1 = .ok r.2 := by decide +kernel
theorem dX12_isCompared_0 : decode cX12_isCompared 0 = .ok (.aload_n 0, 1) := dgX12_isCompared_0 (0, (.aload_n 0, 1)) (List.mem_of_getElem? (i := 0) rfl)
theorem dX12_isCompared_1 : decode cX12_isCompared 1 = .ok (.getfield 240, 3) := dgX12_isCompared_0 (1, (.getfield 240, 3)) (List.mem_of_getElem? (i := 1) rfl)
theorem dX12_isCompared_4 : decode cX12_isCompared 4 = .ok (.iconst 1, 1) := dgX12_isCompared_0 (4, (.iconst 1, 1)) (List.mem_of_getElem? (i := 2) rfl)
theorem dX12_isCompared_5 : decode cX12_isCompared 5 = .ok (.isub, 1) := dgX12_isCompared_0 (5, (.isub, 1)) (List.mem_of_getElem? (i := 3) rfl)
theorem dX12_isCompared_6 : decode cX12_isCompared 6 = .ok (.istore_n 1, 1) := dgX12_isCompared_0 (6, (.istore_n 1, 1)) (List.mem_of_getElem? (i := 4) rfl)
theorem dX12_isCompared_7 : decode cX12_isCompared 7 = .ok (.iload_n 1, 1) := dgX12_isCompared_0 (7, (.iload_n 1, 1)) (List.mem_of_getElem? (i := 5) rfl)
theorem dX12_isCompared_8 : decode cX12_isCompared 8 = .ok (.ifCond .lt 28, 3) := dgX12_isCompared_0 (8, (.ifCond .lt 28, 3)) (List.mem_of_getElem? (i := 6) rfl)
theorem dX12_isCompared_11 : decode cX12_isCompared 11 = .ok (.aload_n 0, 1) := dgX12_isCompared_0 (11, (.aload_n 0, 1)) (List.mem_of_getElem? (i := 7) rfl)
theorem dX12_isCompared_12 : decode cX12_isCompared 12 = .ok (.getfield 39, 3) := dgX12_isCompared_0 (12, (.getfield 39, 3)) (List.mem_of_getElem? (i := 8) rfl)
theorem dX12_isCompared_15 : decode cX12_isCompared 15 = .ok (.iload_n 1, 1) := dgX12_isCompared_0 (15, (.iload_n 1, 1)) (List.mem_of_getElem? (i := 9) rfl)
theorem dX12_isCompared_16 : decode cX12_isCompared 16 = .ok (.iaload, 1) := dgX12_isCompared_0 (16, (.iaload, 1)) (List.mem_of_getElem? (i := 10) rfl)
theorem dX12_isCompared_17 : decode cX12_isCompared 17 = .ok (.i2l, 1) := dgX12_isCompared_0 (17, (.i2l, 1)) (List.mem_of_getElem? (i := 11) rfl)
theorem dX12_isCompared_18 : decode cX12_isCompared 18 = .ok (.ldc2_w 250, 3) := dgX12_isCompared_0 (18, (.ldc2_w 250, 3)) (List.mem_of_getElem? (i := 12) rfl)
theorem dX12_isCompared_21 : decode cX12_isCompared 21 = .ok (.ldc2_w 130, 3) := dgX12_isCompared_0 (21, (.ldc2_w 130, 3)) (List.mem_of_getElem? (i := 13) rfl)
theorem dX12_isCompared_24 : decode cX12_isCompared 24 = .ok (.invokestatic 121, 3) := dgX12_isCompared_0 (24, (.invokestatic 121, 3)) (List.mem_of_getElem? (i := 14) rfl)
theorem dX12_isCompared_27 : decode cX12_isCompared 27 = .ok (.ifCond .eq 9, 3) := dgX12_isCompared_0 (27, (.ifCond .eq 9, 3)) (List.mem_of_getElem? (i := 15) rfl)
theorem dX12_isCompared_30 : decode cX12_isCompared 30 = .ok (.iinc 1 (-1), 3) := dgX12_isCompared_0 (30, (.iinc 1 (-1), 3)) (List.mem_of_getElem? (i := 16) rfl)
theorem dX12_isCompared_33 : decode cX12_isCompared 33 = .ok (.goto (-26), 3) := dgX12_isCompared_0 (33, (.goto (-26), 3)) (List.mem_of_getElem? (i := 17) rfl)
theorem dX12_isCompared_36 : decode cX12_isCompared 36 = .ok (.iload_n 1, 1) := dgX12_isCompared_0 (36, (.iload_n 1, 1)) (List.mem_of_getElem? (i := 18) rfl)
theorem dX12_isCompared_37 : decode cX12_isCompared 37 = .ok (.ifCond .lt 26, 3) := dgX12_isCompared_0 (37, (.ifCond .lt 26, 3)) (List.mem_of_getElem? (i := 19) rfl)
theorem dX12_isCompared_40 : decode cX12_isCompared 40 = .ok (.aload_n 0, 1) := dgX12_isCompared_0 (40, (.aload_n 0, 1)) (List.mem_of_getElem? (i := 20) rfl)
theorem dX12_isCompared_41 : decode cX12_isCompared 41 = .ok (.getfield 39, 3) := dgX12_isCompared_0 (41, (.getfield 39, 3)) (List.mem_of_getElem? (i := 21) rfl)
theorem dX12_isCompared_44 : decode cX12_isCompared 44 = .ok (.iload_n 1, 1) := dgX12_isCompared_0 (44, (.iload_n 1, 1)) (List.mem_of_getElem? (i := 22) rfl)
theorem dX12_isCompared_45 : decode cX12_isCompared 45 = .ok (.iaload, 1) := dgX12_isCompared_0 (45, (.iaload, 1)) (List.mem_of_getElem? (i := 23) rfl)
theorem dX12_isCompared_46 : decode cX12_isCompared 46 = .ok (.i2l, 1) := dgX12_isCompared_0 (46, (.i2l, 1)) (List.mem_of_getElem? (i := 24) rfl)
theorem dX12_isCompared_47 : decode cX12_isCompared 47 = .ok (.ldc2_w 47, 3) := dgX12_isCompared_0 (47, (.ldc2_w 47, 3)) (List.mem_of_getElem? (i := 25) rfl)
theorem dX12_isCompared_50 : decode cX12_isCompared 50 = .ok (.ldc2_w 252, 3) := dgX12_isCompared_0 (50, (.ldc2_w 252, 3)) (List.mem_of_getElem? (i := 26) rfl)
theorem dX12_isCompared_53 : decode cX12_isCompared 53 = .ok (.invokestatic 121, 3) := dgX12_isCompared_0 (53, (.invokestatic 121, 3)) (List.mem_of_getElem? (i := 27) rfl)
theorem dX12_isCompared_56 : decode cX12_isCompared 56 = .ok (.ifCond .eq 7, 3) := dgX12_isCompared_0 (56, (.ifCond .eq 7, 3)) (List.mem_of_getElem? (i := 28) rfl)
theorem dX12_isCompared_59 : decode cX12_isCompared 59 = .ok (.iconst 1, 1) := dgX12_isCompared_0 (59, (.iconst 1, 1)) (List.mem_of_getElem? (i := 29) rfl)
theorem dX12_isCompared_60 : decode cX12_isCompared 60 = .ok (.goto 4, 3) := dgX12_isCompared_0 (60, (.goto 4, 3)) (List.mem_of_getElem? (i := 30) rfl)
theorem dX12_isCompared_63 : decode cX12_isCompared 63 = .ok (.iconst 0, 1) := dgX12_isCompared_0 (63, (.iconst 0, 1)) (List.mem_of_getElem? (i := 31) rfl)
theorem dX12_isCompared_64 : decode cX12_isCompared 64 = .ok (.ireturn, 1) := dgX12_isCompared_0 (64, (.ireturn, 1)) (List.mem_of_getElem? (i := 32) rfl)
theorem kl_X12_250 : Cond.constantLong RX12 250 20 ∈ tblG := tg 1586 (by decide +kernel) (by decide +kernel)
set_option maxHeartbeats 4000000 in
set_option maxRecDepth 100000 in
theorem n_in_20_23 (l : Launch) (G : g5_G) (sz : Nat) (p_x : Int32) : Met l yX12_in (wsG yX12_in cX12_in 6 (some .boolean)) ({ frames := 0, cells := 0, slots := 0, locals := 0 }) (va_Pc [.long p_x.toInt64, .long 20, .long 23] (g5_P G [] sz)) (va_Qi (fun (r : Int32) (u : va_W) => ((p_x.toInt < 20 ∨ 23 < p_x.toInt) ∧ (r = 0) ∧ (u = [])) ∨ ((20 ≤ p_x.toInt ∧ p_x.toInt ≤ 23) ∧ (r = 1) ∧ (u = []))) (g5_B G (va_A [] sz)) (va_A [] sz)) 0 0 (va_A [] sz) := by
  refine Met.ofW (cc := cX12_in) (maxL := 6) (ret := (some .boolean)) (by decide) rfl ?_
  intro p e s m args below meth c s₁ B hml hv
  obtain ⟨rfl, hsz, hP, hK, hD0, hN, hT⟩ := hv
  have hx := B.exec
  have hb := B.bytes
  have hr := B.returns
  have hts : ∀ w ∈ tblG, w.before _ s = true := fun w h => atoms_spec (ws := (wsG yX12_in cX12_in 6 (some .boolean))) B.pre w (List.mem_cons_of_mem _ h)
  have hown : s.vm.findClass RX12 = some m.cls := findClass_of_methodNamed B.named
  have hlocks := B.notSynchronized
  subst hsz
  have hD := hD0.self (sz := s.heap.size)
  generalize hAe : va_A [] s.heap.size = A at hD hT ⊢
  have hA : ∀ q : Nat, s.heap.size ≤ q → A q := fun q h => by rw [← hAe]; exact Or.inr h
  have hS : va_S A s.heap s.heap [] := va_S.rf
  have hP : va_P G.1 vwCl [] s.heap := hP
  have hl := lv_entry ([.long p_x.toInt64, .long 20, .long 23]) (n := 6) (Nat.le_of_ble_eq_true rfl)
  rw [lg_entry_eq]
  generalize (lg_sl ([.long p_x.toInt64, .long 20, .long 23]) ++ List.replicate (6 - (lg_sl ([.long p_x.toInt64, .long 20, .long 23])).length) Slot.unset).toArray = ls at hl ⊢
  have hl : lv_has ls 6 [(0, .long p_x.toInt64), (2, .long 20), (4, .long 23)] := hl
  refine lv_lload_n hx hb dX12_in_0 rfl (lv_at hl 0 rfl) ?_
  refine lv_lload_n hx hb dX12_in_1 rfl (lv_at hl 1 rfl) ?_
  have tl_1 : p_x.toInt64.toInt = p_x.toInt := Int32.toInt_toInt64 _
  have tl_2 : (20 : Int64).toInt = 20 := (by decide)
  have tc_3 := g5_cmpI p_x.toInt64 20
  refine W.lcmp hx hb dX12_in_2 ?_
  refine lv_if_lt (tgt := 17) hx hb dX12_in_3 (by decide) (fun c_4 => ?_) (fun c_4 => ?_)
  ·
    have i_4 : (lg_cmp p_x.toInt64 20).toInt < 0 := by have z := g5_lt (a := (lg_cmp p_x.toInt64 20).toInt) (b := 0) (by rfl) (by decide) c_4; omega
    refine lv_iconst (v := 0) hx hb dX12_in_17 (by decide) ?_
    exact W.zret (v := 0) hx hb hr rfl (fun t ht hW => ⟨⟨0, [], rfl, Or.inl (⟨by omega, rfl, rfl⟩), by rw [ht]; exact hP.sub [] rfl, hD.sub [] (by decide) rfl⟩, hS.F ht⟩) hS.2.2 dX12_in_18
  ·
    have i_4 : (lg_cmp p_x.toInt64 20).toInt ≥ 0 := by have z := g5_ltN (a := (lg_cmp p_x.toInt64 20).toInt) (b := 0) (by rfl) (by decide) c_4; omega
    refine lv_lload_n hx hb dX12_in_6 rfl (lv_at hl 0 rfl) ?_
    refine lv_lload hx hb dX12_in_7 (lv_at hl 2 rfl) ?_
    have tl_5 : p_x.toInt64.toInt = p_x.toInt := Int32.toInt_toInt64 _
    have tl_6 : (23 : Int64).toInt = 23 := (by decide)
    have tc_7 := g5_cmpI p_x.toInt64 23
    refine W.lcmp hx hb dX12_in_9 ?_
    refine lv_if_gt (tgt := 17) hx hb dX12_in_10 (by decide) (fun c_8 => ?_) (fun c_8 => ?_)
    ·
      have i_8 : (lg_cmp p_x.toInt64 23).toInt > 0 := by have z := g5_gt (a := (lg_cmp p_x.toInt64 23).toInt) (b := 0) (by rfl) (by decide) c_8; omega
      refine lv_iconst (v := 0) hx hb dX12_in_17 (by decide) ?_
      exact W.zret (v := 0) hx hb hr rfl (fun t ht hW => ⟨⟨0, [], rfl, Or.inl (⟨by omega, rfl, rfl⟩), by rw [ht]; exact hP.sub [] rfl, hD.sub [] (by decide) rfl⟩, hS.F ht⟩) hS.2.2 dX12_in_18
    ·
      have i_8 : (lg_cmp p_x.toInt64 23).toInt ≤ 0 := by have z := g5_gtN (a := (lg_cmp p_x.toInt64 23).toInt) (b := 0) (by rfl) (by decide) c_8; omega
      refine lv_iconst (v := 1) hx hb dX12_in_13 (by decide) ?_
      refine lv_goto (tgt := 18) hx hb dX12_in_14 (by decide) ?_
      exact W.zret (v := 1) hx hb hr rfl (fun t ht hW => ⟨⟨1, [], rfl, Or.inr (⟨by omega, rfl, rfl⟩), by rw [ht]; exact hP.sub [] rfl, hD.sub [] (by decide) rfl⟩, hS.F ht⟩) hS.2.2 dX12_in_18
theorem kl_X12_47 : Cond.constantLong RX12 47 24 ∈ tblG := tg 1191 (by decide +kernel) (by decide +kernel)
theorem kl_X12_252 : Cond.constantLong RX12 252 26 ∈ tblG := tg 1587 (by decide +kernel) (by decide +kernel)
set_option maxHeartbeats 4000000 in
set_option maxRecDepth 100000 in
theorem n_in_24_26 (l : Launch) (G : g5_G) (sz : Nat) (p_x : Int32) : Met l yX12_in (wsG yX12_in cX12_in 6 (some .boolean)) ({ frames := 0, cells := 0, slots := 0, locals := 0 }) (va_Pc [.long p_x.toInt64, .long 24, .long 26] (g5_P G [] sz)) (va_Qi (fun (r : Int32) (u : va_W) => ((p_x.toInt < 24 ∨ 26 < p_x.toInt) ∧ (r = 0) ∧ (u = [])) ∨ ((24 ≤ p_x.toInt ∧ p_x.toInt ≤ 26) ∧ (r = 1) ∧ (u = []))) (g5_B G (va_A [] sz)) (va_A [] sz)) 0 0 (va_A [] sz) := by
  refine Met.ofW (cc := cX12_in) (maxL := 6) (ret := (some .boolean)) (by decide) rfl ?_
  intro p e s m args below meth c s₁ B hml hv
  obtain ⟨rfl, hsz, hP, hK, hD0, hN, hT⟩ := hv
  have hx := B.exec
  have hb := B.bytes
  have hr := B.returns
  have hts : ∀ w ∈ tblG, w.before _ s = true := fun w h => atoms_spec (ws := (wsG yX12_in cX12_in 6 (some .boolean))) B.pre w (List.mem_cons_of_mem _ h)
  have hown : s.vm.findClass RX12 = some m.cls := findClass_of_methodNamed B.named
  have hlocks := B.notSynchronized
  subst hsz
  have hD := hD0.self (sz := s.heap.size)
  generalize hAe : va_A [] s.heap.size = A at hD hT ⊢
  have hA : ∀ q : Nat, s.heap.size ≤ q → A q := fun q h => by rw [← hAe]; exact Or.inr h
  have hS : va_S A s.heap s.heap [] := va_S.rf
  have hP : va_P G.1 vwCl [] s.heap := hP
  have hl := lv_entry ([.long p_x.toInt64, .long 24, .long 26]) (n := 6) (Nat.le_of_ble_eq_true rfl)
  rw [lg_entry_eq]
  generalize (lg_sl ([.long p_x.toInt64, .long 24, .long 26]) ++ List.replicate (6 - (lg_sl ([.long p_x.toInt64, .long 24, .long 26])).length) Slot.unset).toArray = ls at hl ⊢
  have hl : lv_has ls 6 [(0, .long p_x.toInt64), (2, .long 24), (4, .long 26)] := hl
  refine lv_lload_n hx hb dX12_in_0 rfl (lv_at hl 0 rfl) ?_
  refine lv_lload_n hx hb dX12_in_1 rfl (lv_at hl 1 rfl) ?_
  have tl_1 : p_x.toInt64.toInt = p_x.toInt := Int32.toInt_toInt64 _
  have tl_2 : (24 : Int64).toInt = 24 := (by decide)
  have tc_3 := g5_cmpI p_x.toInt64 24
  refine W.lcmp hx hb dX12_in_2 ?_
  refine lv_if_lt (tgt := 17) hx hb dX12_in_3 (by decide) (fun c_4 => ?_) (fun c_4 => ?_)
  ·
    have i_4 : (lg_cmp p_x.toInt64 24).toInt < 0 := by have z := g5_lt (a := (lg_cmp p_x.toInt64 24).toInt) (b := 0) (by rfl) (by decide) c_4; omega
    refine lv_iconst (v := 0) hx hb dX12_in_17 (by decide) ?_
    exact W.zret (v := 0) hx hb hr rfl (fun t ht hW => ⟨⟨0, [], rfl, Or.inl (⟨by omega, rfl, rfl⟩), by rw [ht]; exact hP.sub [] rfl, hD.sub [] (by decide) rfl⟩, hS.F ht⟩) hS.2.2 dX12_in_18
  ·
    have i_4 : (lg_cmp p_x.toInt64 24).toInt ≥ 0 := by have z := g5_ltN (a := (lg_cmp p_x.toInt64 24).toInt) (b := 0) (by rfl) (by decide) c_4; omega
    refine lv_lload_n hx hb dX12_in_6 rfl (lv_at hl 0 rfl) ?_
    refine lv_lload hx hb dX12_in_7 (lv_at hl 2 rfl) ?_
    have tl_5 : p_x.toInt64.toInt = p_x.toInt := Int32.toInt_toInt64 _
    have tl_6 : (26 : Int64).toInt = 26 := (by decide)
    have tc_7 := g5_cmpI p_x.toInt64 26
    refine W.lcmp hx hb dX12_in_9 ?_
    refine lv_if_gt (tgt := 17) hx hb dX12_in_10 (by decide) (fun c_8 => ?_) (fun c_8 => ?_)
    ·
      have i_8 : (lg_cmp p_x.toInt64 26).toInt > 0 := by have z := g5_gt (a := (lg_cmp p_x.toInt64 26).toInt) (b := 0) (by rfl) (by decide) c_8; omega
      refine lv_iconst (v := 0) hx hb dX12_in_17 (by decide) ?_
      exact W.zret (v := 0) hx hb hr rfl (fun t ht hW => ⟨⟨0, [], rfl, Or.inl (⟨by omega, rfl, rfl⟩), by rw [ht]; exact hP.sub [] rfl, hD.sub [] (by decide) rfl⟩, hS.F ht⟩) hS.2.2 dX12_in_18
    ·
      have i_8 : (lg_cmp p_x.toInt64 26).toInt ≤ 0 := by have z := g5_gtN (a := (lg_cmp p_x.toInt64 26).toInt) (b := 0) (by rfl) (by decide) c_8; omega
      refine lv_iconst (v := 1) hx hb dX12_in_13 (by decide) ?_
      refine lv_goto (tgt := 18) hx hb dX12_in_14 (by decide) ?_
      exact W.zret (v := 1) hx hb hr rfl (fun t ht hW => ⟨⟨1, [], rfl, Or.inr (⟨by omega, rfl, rfl⟩), by rw [ht]; exact hP.sub [] rfl, hD.sub [] (by decide) rfl⟩, hS.F ht⟩) hS.2.2 dX12_in_18
theorem dgX12_partAt_0 : ∀ r ∈ ([(0, (.iconst (-1), 1)), (1, (.istore_n 1, 1)), (2, (.iconst 0, 1)), (3, (.istore_n 2, 1)), (4, (.iload_n 2, 1)), (5, (.bipush 8, 2)), (7, (.if_icmp .ge 30, 3)), (10, (.aload_n 0, 1)), (11, (.aload_n 0, 1)), (12, (.getfield 61, 3)), (15, (.iload_n 2, 1)), (16, (.laload, 1)), (17, (.invokevirtual 254, 3)), (20, (.ifCond .eq 9, 3)), (23, (.iload_n 2, 1)), (24, (.iconst 1, 1)), (25, (.iadd, 1)), (26, (.goto 4, 3)), (29, (.iload_n 1, 1)), (30, (.istore_n 1, 1)), (31, (.iinc 2 1, 3)), (34, (.goto (-30), 3)), (37, (.iload_n 1, 1)), (38, (.ireturn, 1))] : List (Nat × (Instr × Nat))), decode cX12_partAt r.1 = .ok r.2 := by decide +kernel
theorem dX12_partAt_0 : decode cX12_partAt 0 = .ok (.iconst (-1), 1) := dgX12_partAt_0 (0, (.iconst (-1), 1)) (List.mem_of_getElem? (i := 0) rfl)
theorem dX12_partAt_1 : decode cX12_partAt 1 = .ok (.istore_n 1, 1) := dgX12_partAt_0 (1, (.istore_n 1, 1)) (List.mem_of_getElem? (i := 1) rfl)
theorem dX12_partAt_2 : decode cX12_partAt 2 = .ok (.iconst 0, 1) := dgX12_partAt_0 (2, (.iconst 0, 1)) (List.mem_of_getElem? (i := 2) rfl)
theorem dX12_partAt_3 : decode cX12_partAt 3 = .ok (.istore_n 2, 1) := dgX12_partAt_0 (3, (.istore_n 2, 1)) (List.mem_of_getElem? (i := 3) rfl)
theorem dX12_partAt_4 : decode cX12_partAt 4 = .ok (.iload_n 2, 1) := dgX12_partAt_0 (4, (.iload_n 2, 1)) (List.mem_of_getElem? (i := 4) rfl)
theorem dX12_partAt_5 : decode cX12_partAt 5 = .ok (.bipush 8, 2) := dgX12_partAt_0 (5, (.bipush 8, 2)) (List.mem_of_getElem? (i := 5) rfl)
theorem dX12_partAt_7 : decode cX12_partAt 7 = .ok (.if_icmp .ge 30, 3) := dgX12_partAt_0 (7, (.if_icmp .ge 30, 3)) (List.mem_of_getElem? (i := 6) rfl)
theorem dX12_partAt_10 : decode cX12_partAt 10 = .ok (.aload_n 0, 1) := dgX12_partAt_0 (10, (.aload_n 0, 1)) (List.mem_of_getElem? (i := 7) rfl)
theorem dX12_partAt_11 : decode cX12_partAt 11 = .ok (.aload_n 0, 1) := dgX12_partAt_0 (11, (.aload_n 0, 1)) (List.mem_of_getElem? (i := 8) rfl)
theorem dX12_partAt_12 : decode cX12_partAt 12 = .ok (.getfield 61, 3) := dgX12_partAt_0 (12, (.getfield 61, 3)) (List.mem_of_getElem? (i := 9) rfl)
theorem dX12_partAt_15 : decode cX12_partAt 15 = .ok (.iload_n 2, 1) := dgX12_partAt_0 (15, (.iload_n 2, 1)) (List.mem_of_getElem? (i := 10) rfl)
theorem dX12_partAt_16 : decode cX12_partAt 16 = .ok (.laload, 1) := dgX12_partAt_0 (16, (.laload, 1)) (List.mem_of_getElem? (i := 11) rfl)
theorem dX12_partAt_17 : decode cX12_partAt 17 = .ok (.invokevirtual 254, 3) := dgX12_partAt_0 (17, (.invokevirtual 254, 3)) (List.mem_of_getElem? (i := 12) rfl)
theorem dX12_partAt_20 : decode cX12_partAt 20 = .ok (.ifCond .eq 9, 3) := dgX12_partAt_0 (20, (.ifCond .eq 9, 3)) (List.mem_of_getElem? (i := 13) rfl)
theorem dX12_partAt_23 : decode cX12_partAt 23 = .ok (.iload_n 2, 1) := dgX12_partAt_0 (23, (.iload_n 2, 1)) (List.mem_of_getElem? (i := 14) rfl)
theorem dX12_partAt_24 : decode cX12_partAt 24 = .ok (.iconst 1, 1) := dgX12_partAt_0 (24, (.iconst 1, 1)) (List.mem_of_getElem? (i := 15) rfl)
theorem dX12_partAt_25 : decode cX12_partAt 25 = .ok (.iadd, 1) := dgX12_partAt_0 (25, (.iadd, 1)) (List.mem_of_getElem? (i := 16) rfl)
theorem dX12_partAt_26 : decode cX12_partAt 26 = .ok (.goto 4, 3) := dgX12_partAt_0 (26, (.goto 4, 3)) (List.mem_of_getElem? (i := 17) rfl)
theorem dX12_partAt_29 : decode cX12_partAt 29 = .ok (.iload_n 1, 1) := dgX12_partAt_0 (29, (.iload_n 1, 1)) (List.mem_of_getElem? (i := 18) rfl)
theorem dX12_partAt_30 : decode cX12_partAt 30 = .ok (.istore_n 1, 1) := dgX12_partAt_0 (30, (.istore_n 1, 1)) (List.mem_of_getElem? (i := 19) rfl)
theorem dX12_partAt_31 : decode cX12_partAt 31 = .ok (.iinc 2 1, 3) := dgX12_partAt_0 (31, (.iinc 2 1, 3)) (List.mem_of_getElem? (i := 20) rfl)
theorem dX12_partAt_34 : decode cX12_partAt 34 = .ok (.goto (-30), 3) := dgX12_partAt_0 (34, (.goto (-30), 3)) (List.mem_of_getElem? (i := 21) rfl)
theorem dX12_partAt_37 : decode cX12_partAt 37 = .ok (.iload_n 1, 1) := dgX12_partAt_0 (37, (.iload_n 1, 1)) (List.mem_of_getElem? (i := 22) rfl)
theorem dX12_partAt_38 : decode cX12_partAt 38 = .ok (.ireturn, 1) := dgX12_partAt_0 (38, (.ireturn, 1)) (List.mem_of_getElem? (i := 23) rfl)
theorem fl_X12_61 : Cond.fieldLink RX12 61 "LateGlassModel" "words" "[J" ∈ tblG := tg 1228 (by decide +kernel) (by decide +kernel)
theorem ml_X12_254 : Cond.methodLink RX12 254 yX12_isWord ∈ tblG := tg 1521 (by decide +kernel) (by decide +kernel)
theorem im_X12_isWord : Cond.instanceMethod yX12_isWord ∈ tblG := tg 1523 (by decide +kernel) (by decide +kernel)
theorem se_X12_isWord : Cond.selects RX12 yX12_isWord yX12_isWord ∈ tblG := tg 46 (by decide +kernel) (by decide +kernel)
theorem cd_X12_isWord : Cond.code yX12_isWord cX12_isWord 3 (some .boolean) ∈ tblG := tg 1524 (by decide +kernel) (by decide +kernel)
theorem gW_X12_isWord : GoodIn tblG (wsG yX12_isWord cX12_isWord 3 (some .boolean)) := tgi cd_X12_isWord
theorem gV_X12_254 : GoodIn tblG (wsV RX12 254 RX12 yX12_isWord (wsG yX12_isWord cX12_isWord 3 (some .boolean))) := tgV ml_X12_254 im_X12_isWord se_X12_isWord ini_X12 gW_X12_isWord
theorem hv_X12_isWord : yX12_isWord.cls = RX12 ∧ yX12_isWord.cls ≠ "java/lang/invoke/MethodHandle" ∧ yX12_isWord.cls ≠ "java/lang/invoke/VarHandle" ∧ (parseMethodDescriptor yX12_isWord.desc).map (fun d => d.parameters.length) = some 1 := by decide +kernel
theorem dgX12_openBracket_0 : ∀ r ∈ ([(0, (.aload_n 0, 1)), (1, (.aload_n 0, 1)), (2, (.getfield 258, 3)), (5, (.bipush 8, 2)), (7, (.if_icmp .ge 7, 3)), (10, (.iconst 1, 1)), (11, (.goto 4, 3)), (14, (.iconst 0, 1)), (15, (.invokevirtual 233, 3)), (18, (.aload_n 0, 1)), (19, (.getfield 205, 3)), (22, (.ifCond .ne 19, 3)), (25, (.aload_n 0, 1)), (26, (.dup, 1)), (27, (.getfield 258, 3)), (30, (.iconst 1, 1)), (31, (.iadd, 1)), (32, (.putfield 258, 3)), (35, (.aload_n 0, 1)), (36, (.iload_n 1, 1)), (37, (.iconst 0, 1)), (38, (.invokevirtual 261, 3)), (41, (.return_, 1))] : List (Nat × (Instr × Nat))), decode cX12_openBracket r.1 = .ok r.2 := by decide +kernel
theorem dX12_openBracket_0 : decode cX12_openBracket 0 = .ok (.aload_n 0, 1) := dgX12_openBracket_0 (0, (.aload_n 0, 1)) (List.mem_of_getElem? (i := 0) rfl)
theorem dX12_openBracket_1 : decode cX12_openBracket 1 = .ok (.aload_n 0, 1) := dgX12_openBracket_0 (1, (.aload_n 0, 1)) (List.mem_of_getElem? (i := 1) rfl)
theorem dX12_openBracket_2 : decode cX12_openBracket 2 = .ok (.getfield 258, 3) := dgX12_openBracket_0 (2, (.getfield 258, 3)) (List.mem_of_getElem? (i := 2) rfl)
theorem dX12_openBracket_5 : decode cX12_openBracket 5 = .ok (.bipush 8, 2) := dgX12_openBracket_0 (5, (.bipush 8, 2)) (List.mem_of_getElem? (i := 3) rfl)
theorem dX12_openBracket_7 : decode cX12_openBracket 7 = .ok (.if_icmp .ge 7, 3) := dgX12_openBracket_0 (7, (.if_icmp .ge 7, 3)) (List.mem_of_getElem? (i := 4) rfl)
theorem dX12_openBracket_10 : decode cX12_openBracket 10 = .ok (.iconst 1, 1) := dgX12_openBracket_0 (10, (.iconst 1, 1)) (List.mem_of_getElem? (i := 5) rfl)
theorem dX12_openBracket_11 : decode cX12_openBracket 11 = .ok (.goto 4, 3) := dgX12_openBracket_0 (11, (.goto 4, 3)) (List.mem_of_getElem? (i := 6) rfl)
theorem dX12_openBracket_14 : decode cX12_openBracket 14 = .ok (.iconst 0, 1) := dgX12_openBracket_0 (14, (.iconst 0, 1)) (List.mem_of_getElem? (i := 7) rfl)
theorem dX12_openBracket_15 : decode cX12_openBracket 15 = .ok (.invokevirtual 233, 3) := dgX12_openBracket_0 (15, (.invokevirtual 233, 3)) (List.mem_of_getElem? (i := 8) rfl)
theorem dX12_openBracket_18 : decode cX12_openBracket 18 = .ok (.aload_n 0, 1) := dgX12_openBracket_0 (18, (.aload_n 0, 1)) (List.mem_of_getElem? (i := 9) rfl)
theorem dX12_openBracket_19 : decode cX12_openBracket 19 = .ok (.getfield 205, 3) := dgX12_openBracket_0 (19, (.getfield 205, 3)) (List.mem_of_getElem? (i := 10) rfl)
theorem dX12_openBracket_22 : decode cX12_openBracket 22 = .ok (.ifCond .ne 19, 3) := dgX12_openBracket_0 (22, (.ifCond .ne 19, 3)) (List.mem_of_getElem? (i := 11) rfl)
theorem dX12_openBracket_25 : decode cX12_openBracket 25 = .ok (.aload_n 0, 1) := dgX12_openBracket_0 (25, (.aload_n 0, 1)) (List.mem_of_getElem? (i := 12) rfl)
theorem dX12_openBracket_26 : decode cX12_openBracket 26 = .ok (.dup, 1) := dgX12_openBracket_0 (26, (.dup, 1)) (List.mem_of_getElem? (i := 13) rfl)
theorem dX12_openBracket_27 : decode cX12_openBracket 27 = .ok (.getfield 258, 3) := dgX12_openBracket_0 (27, (.getfield 258, 3)) (List.mem_of_getElem? (i := 14) rfl)
theorem dX12_openBracket_30 : decode cX12_openBracket 30 = .ok (.iconst 1, 1) := dgX12_openBracket_0 (30, (.iconst 1, 1)) (List.mem_of_getElem? (i := 15) rfl)
theorem dX12_openBracket_31 : decode cX12_openBracket 31 = .ok (.iadd, 1) := dgX12_openBracket_0 (31, (.iadd, 1)) (List.mem_of_getElem? (i := 16) rfl)
theorem dX12_openBracket_32 : decode cX12_openBracket 32 = .ok (.putfield 258, 3) := dgX12_openBracket_0 (32, (.putfield 258, 3)) (List.mem_of_getElem? (i := 17) rfl)
theorem dX12_openBracket_35 : decode cX12_openBracket 35 = .ok (.aload_n 0, 1) := dgX12_openBracket_0 (35, (.aload_n 0, 1)) (List.mem_of_getElem? (i := 18) rfl)
theorem dX12_openBracket_36 : decode cX12_openBracket 36 = .ok (.iload_n 1, 1) := dgX12_openBracket_0 (36, (.iload_n 1, 1)) (List.mem_of_getElem? (i := 19) rfl)
theorem dX12_openBracket_37 : decode cX12_openBracket 37 = .ok (.iconst 0, 1) := dgX12_openBracket_0 (37, (.iconst 0, 1)) (List.mem_of_getElem? (i := 20) rfl)
theorem dX12_openBracket_38 : decode cX12_openBracket 38 = .ok (.invokevirtual 261, 3) := dgX12_openBracket_0 (38, (.invokevirtual 261, 3)) (List.mem_of_getElem? (i := 21) rfl)
theorem dX12_openBracket_41 : decode cX12_openBracket 41 = .ok (.return_, 1) := dgX12_openBracket_0 (41, (.return_, 1)) (List.mem_of_getElem? (i := 22) rfl)
theorem fl_X12_258 : Cond.fieldLink RX12 258 "LateGlassModel" "opened" "I" ∈ tblG := tg 1227 (by decide +kernel) (by decide +kernel)
theorem ml_X12_233 : Cond.methodLink RX12 233 yX12_must ∈ tblG := tg 1525 (by decide +kernel) (by decide +kernel)
theorem im_X12_must : Cond.instanceMethod yX12_must ∈ tblG := tg 1527 (by decide +kernel) (by decide +kernel)
theorem se_X12_must : Cond.selects RX12 yX12_must yX12_must ∈ tblG := tg 47 (by decide +kernel) (by decide +kernel)
theorem cd_X12_must : Cond.code yX12_must cX12_must 2 none ∈ tblG := tg 1528 (by decide +kernel) (by decide +kernel)
theorem gW_X12_must : GoodIn tblG (wsG yX12_must cX12_must 2 none) := tgi cd_X12_must
theorem gV_X12_233 : GoodIn tblG (wsV RX12 233 RX12 yX12_must (wsG yX12_must cX12_must 2 none)) := tgV ml_X12_233 im_X12_must se_X12_must ini_X12 gW_X12_must
theorem hv_X12_must : yX12_must.cls = RX12 ∧ yX12_must.cls ≠ "java/lang/invoke/MethodHandle" ∧ yX12_must.cls ≠ "java/lang/invoke/VarHandle" ∧ (parseMethodDescriptor yX12_must.desc).map (fun d => d.parameters.length) = some 1 := by decide +kernel
theorem ml_X12_261 : Cond.methodLink RX12 261 yX12_push ∈ tblG := tg 1538 (by decide +kernel) (by decide +kernel)
theorem im_X12_push : Cond.instanceMethod yX12_push ∈ tblG := tg 1540 (by decide +kernel) (by decide +kernel)
theorem se_X12_push : Cond.selects RX12 yX12_push yX12_push ∈ tblG := tg 50 (by decide +kernel) (by decide +kernel)
theorem cd_X12_push : Cond.code yX12_push cX12_push 3 none ∈ tblG := tg 1541 (by decide +kernel) (by decide +kernel)
theorem gW_X12_push : GoodIn tblG (wsG yX12_push cX12_push 3 none) := tgi cd_X12_push
theorem gV_X12_261 : GoodIn tblG (wsV RX12 261 RX12 yX12_push (wsG yX12_push cX12_push 3 none)) := tgV ml_X12_261 im_X12_push se_X12_push ini_X12 gW_X12_push
theorem hv_X12_push : yX12_push.cls = RX12 ∧ yX12_push.cls ≠ "java/lang/invoke/MethodHandle" ∧ yX12_push.cls ≠ "java/lang/invoke/VarHandle" ∧ (parseMethodDescriptor yX12_push.desc).map (fun d => d.parameters.length) = some 2 := by decide +kernel
theorem dgX12_leaf_0 : ∀ r ∈ ([(0, (.aload_n 0, 1)), (1, (.iload_n 1, 1)), (2, (.ifCond .eq 16, 3)), (5, (.aload_n 0, 1)), (6, (.getfield 264, 3)), (9, (.bipush 50, 2)), (11, (.if_icmp .ge 7, 3)), (14, (.iconst 1, 1)), (15, (.goto 4, 3)), (18, (.iconst 0, 1)), (19, (.invokevirtual 233, 3)), (22, (.aload_n 0, 1)), (23, (.getfield 205, 3)), (26, (.ifCond .ne 19, 3)), (29, (.aload_n 0, 1)), (30, (.iload_n 2, 1)), (31, (.iload_n 3, 1)), (32, (.invokevirtual 246, 3)), (35, (.aload_n 0, 1)), (36, (.dup, 1)), (37, (.getfield 264, 3)), (40, (.iconst 1, 1)), (41, (.iadd, 1)), (42, (.putfield 264, 3)), (45, (.return_, 1))] : List (Nat × (Instr × Nat))), decode cX12_leaf r.1 = .ok r.2 := by decide +kernel
theorem dX12_leaf_0 : decode cX12_leaf 0 = .ok (.aload_n 0, 1) := dgX12_leaf_0 (0, (.aload_n 0, 1)) (List.mem_of_getElem? (i := 0) rfl)
theorem dX12_leaf_1 : decode cX12_leaf 1 = .ok (.iload_n 1, 1) := dgX12_leaf_0 (1, (.iload_n 1, 1)) (List.mem_of_getElem? (i := 1) rfl)
theorem dX12_leaf_2 : decode cX12_leaf 2 = .ok (.ifCond .eq 16, 3) := dgX12_leaf_0 (2, (.ifCond .eq 16, 3)) (List.mem_of_getElem? (i := 2) rfl)
theorem dX12_leaf_5 : decode cX12_leaf 5 = .ok (.aload_n 0, 1) := dgX12_leaf_0 (5, (.aload_n 0, 1)) (List.mem_of_getElem? (i := 3) rfl)
theorem dX12_leaf_6 : decode cX12_leaf 6 = .ok (.getfield 264, 3) := dgX12_leaf_0 (6, (.getfield 264, 3)) (List.mem_of_getElem? (i := 4) rfl)
theorem dX12_leaf_9 : decode cX12_leaf 9 = .ok (.bipush 50, 2) := dgX12_leaf_0 (9, (.bipush 50, 2)) (List.mem_of_getElem? (i := 5) rfl)
theorem dX12_leaf_11 : decode cX12_leaf 11 = .ok (.if_icmp .ge 7, 3) := dgX12_leaf_0 (11, (.if_icmp .ge 7, 3)) (List.mem_of_getElem? (i := 6) rfl)
theorem dX12_leaf_14 : decode cX12_leaf 14 = .ok (.iconst 1, 1) := dgX12_leaf_0 (14, (.iconst 1, 1)) (List.mem_of_getElem? (i := 7) rfl)
theorem dX12_leaf_15 : decode cX12_leaf 15 = .ok (.goto 4, 3) := dgX12_leaf_0 (15, (.goto 4, 3)) (List.mem_of_getElem? (i := 8) rfl)
theorem dX12_leaf_18 : decode cX12_leaf 18 = .ok (.iconst 0, 1) := dgX12_leaf_0 (18, (.iconst 0, 1)) (List.mem_of_getElem? (i := 9) rfl)
theorem dX12_leaf_19 : decode cX12_leaf 19 = .ok (.invokevirtual 233, 3) := dgX12_leaf_0 (19, (.invokevirtual 233, 3)) (List.mem_of_getElem? (i := 10) rfl)
theorem dX12_leaf_22 : decode cX12_leaf 22 = .ok (.aload_n 0, 1) := dgX12_leaf_0 (22, (.aload_n 0, 1)) (List.mem_of_getElem? (i := 11) rfl)
theorem dX12_leaf_23 : decode cX12_leaf 23 = .ok (.getfield 205, 3) := dgX12_leaf_0 (23, (.getfield 205, 3)) (List.mem_of_getElem? (i := 12) rfl)
theorem dX12_leaf_26 : decode cX12_leaf 26 = .ok (.ifCond .ne 19, 3) := dgX12_leaf_0 (26, (.ifCond .ne 19, 3)) (List.mem_of_getElem? (i := 13) rfl)
theorem dX12_leaf_29 : decode cX12_leaf 29 = .ok (.aload_n 0, 1) := dgX12_leaf_0 (29, (.aload_n 0, 1)) (List.mem_of_getElem? (i := 14) rfl)
theorem dX12_leaf_30 : decode cX12_leaf 30 = .ok (.iload_n 2, 1) := dgX12_leaf_0 (30, (.iload_n 2, 1)) (List.mem_of_getElem? (i := 15) rfl)
theorem dX12_leaf_31 : decode cX12_leaf 31 = .ok (.iload_n 3, 1) := dgX12_leaf_0 (31, (.iload_n 3, 1)) (List.mem_of_getElem? (i := 16) rfl)
theorem dX12_leaf_32 : decode cX12_leaf 32 = .ok (.invokevirtual 246, 3) := dgX12_leaf_0 (32, (.invokevirtual 246, 3)) (List.mem_of_getElem? (i := 17) rfl)
theorem dX12_leaf_35 : decode cX12_leaf 35 = .ok (.aload_n 0, 1) := dgX12_leaf_0 (35, (.aload_n 0, 1)) (List.mem_of_getElem? (i := 18) rfl)
theorem dX12_leaf_36 : decode cX12_leaf 36 = .ok (.dup, 1) := dgX12_leaf_0 (36, (.dup, 1)) (List.mem_of_getElem? (i := 19) rfl)
theorem dX12_leaf_37 : decode cX12_leaf 37 = .ok (.getfield 264, 3) := dgX12_leaf_0 (37, (.getfield 264, 3)) (List.mem_of_getElem? (i := 20) rfl)
theorem dX12_leaf_40 : decode cX12_leaf 40 = .ok (.iconst 1, 1) := dgX12_leaf_0 (40, (.iconst 1, 1)) (List.mem_of_getElem? (i := 21) rfl)
theorem dX12_leaf_41 : decode cX12_leaf 41 = .ok (.iadd, 1) := dgX12_leaf_0 (41, (.iadd, 1)) (List.mem_of_getElem? (i := 22) rfl)
theorem dX12_leaf_42 : decode cX12_leaf 42 = .ok (.putfield 264, 3) := dgX12_leaf_0 (42, (.putfield 264, 3)) (List.mem_of_getElem? (i := 23) rfl)
theorem dX12_leaf_45 : decode cX12_leaf 45 = .ok (.return_, 1) := dgX12_leaf_0 (45, (.return_, 1)) (List.mem_of_getElem? (i := 24) rfl)
theorem fl_X12_264 : Cond.fieldLink RX12 264 "LateGlassModel" "nLeaves" "I" ∈ tblG := tg 1223 (by decide +kernel) (by decide +kernel)
set_option maxHeartbeats 4000000 in
set_option maxRecDepth 100000 in
theorem n_leaf0 (l : Launch) (G : g5_G) (b_o b_tp b_op b_ar b_rf b_ro b_im b_ke b_nl b_pi b_pa b_ws b_hw b_se b_re b_pt b_ip b_ah b_be b_me b_tr b_ld b_wn : Nat) (sz : Nat) (u_th : Int32) (u_sa : Int32) (u_fd : Int32) (u_td : Int32) (u_fr : Int32) (u_to : Int32) (u_so : Int32) (u_fa : Int32) (u_bd : Int32) (u_nc : Int32) (u_co : Int32) (u_le : Int32) (u_pd : Int32) (u_od : Int32) (u_la : Int32) (u_bk : Int32) (u_ce : Int32) (u_ho : Int32) (u_wy : Int32) (u_bt : Int32) (u_ps : Int32) (u_tg : Int32) (u_sn : Int32) (u_ic : Int32) (u_wd : Int32) (u_id : Int32) (p_2 : Int32) (p_3 : Int32) (u_wo : Int64) (u_va : Int64) (u_su : Int64) (u_st : Int64) (v_tp : Nat → Int32) (v_op : Nat → Int32) (v_ar : Nat → Int32) (h_u_td : 0 ≤ u_td.toInt ∧ u_td.toInt ≤ 400) (h_u_fr : 0 ≤ u_fr.toInt ∧ u_fr.toInt ≤ 400) (h_u_to : 0 ≤ u_to.toInt ∧ u_to.toInt ≤ 400) (h_u_bd : 0 ≤ u_bd.toInt ∧ u_bd.toInt ≤ 0) (h_u_nc : 0 ≤ u_nc.toInt ∧ u_nc.toInt ≤ 12) (h_u_co : 0 ≤ u_co.toInt ∧ u_co.toInt ≤ 400) (h_u_pd : 0 ≤ u_pd.toInt ∧ u_pd.toInt ≤ 400) (h_u_la : 0 ≤ u_la.toInt ∧ u_la.toInt ≤ 4840) (h_u_bk : 0 ≤ u_bk.toInt ∧ u_bk.toInt ≤ 1) (h_u_ce : 0 ≤ u_ce.toInt ∧ u_ce.toInt ≤ 63) (h_u_ho : 0 ≤ u_ho.toInt ∧ u_ho.toInt ≤ 23) (h_u_wy : 0 ≤ u_wy.toInt ∧ u_wy.toInt ≤ 3) (h_u_bt : 0 ≤ u_bt.toInt ∧ u_bt.toInt ≤ 1000000) (h_u_ps : 0 ≤ u_ps.toInt ∧ u_ps.toInt ≤ 200) (h_u_ic : 0 ≤ u_ic.toInt ∧ u_ic.toInt ≤ 1) (h_u_id : 0 ≤ u_id.toInt ∧ u_id.toInt ≤ 1) (h_p_2 : 0 ≤ p_2.toInt ∧ p_2.toInt ≤ 8) : Met l yX12_leaf (wsG yX12_leaf cX12_leaf 4 none) ({ frames := 1, cells := 0, slots := 0, locals := 21 }) (va_Pc [.ref b_o, .int 0, .int p_2, .int p_3] (g5_P G [(b_o, (oc12 u_th u_sa b_rf b_ro b_im b_ke u_fd b_tp u_td u_fr u_to u_so u_wo u_fa u_bd u_nc b_nl u_co b_op b_ar u_le b_pi b_pa u_pd u_od b_ws b_hw u_la b_se b_re u_bk u_va u_su u_ce u_ho u_wy u_bt u_ps b_pt u_tg u_sn b_ip u_ic b_ah b_be b_me u_wd b_tr b_ld u_st b_wn u_id)), (b_tp, (arI G 400 v_tp)), (b_op, (arI G 400 v_op)), (b_ar, (arI G 400 v_ar))] sz)) (va_Qv (fun (u : va_W) => ((u = [(b_o, (oc12 u_th u_sa b_rf b_ro b_im b_ke u_fd b_tp u_td u_fr u_to u_so u_wo u_fr 1 u_nc b_nl u_co b_op b_ar u_le b_pi b_pa u_pd u_od b_ws b_hw u_la b_se b_re u_bk u_va u_su u_ce u_ho u_wy u_bt u_ps b_pt u_tg u_sn b_ip u_ic b_ah b_be b_me u_wd b_tr b_ld u_st b_wn u_id)), (b_tp, (arI G 400 v_tp)), (b_op, (arI G 400 v_op)), (b_ar, (arI G 400 v_ar))]))) (g5_B G (va_A [(b_o, (oc12 u_th u_sa b_rf b_ro b_im b_ke u_fd b_tp u_td u_fr u_to u_so u_wo u_fa u_bd u_nc b_nl u_co b_op b_ar u_le b_pi b_pa u_pd u_od b_ws b_hw u_la b_se b_re u_bk u_va u_su u_ce u_ho u_wy u_bt u_ps b_pt u_tg u_sn b_ip u_ic b_ah b_be b_me u_wd b_tr b_ld u_st b_wn u_id)), (b_tp, (arI G 400 v_tp)), (b_op, (arI G 400 v_op)), (b_ar, (arI G 400 v_ar))] sz)) (va_A [(b_o, (oc12 u_th u_sa b_rf b_ro b_im b_ke u_fd b_tp u_td u_fr u_to u_so u_wo u_fa u_bd u_nc b_nl u_co b_op b_ar u_le b_pi b_pa u_pd u_od b_ws b_hw u_la b_se b_re u_bk u_va u_su u_ce u_ho u_wy u_bt u_ps b_pt u_tg u_sn b_ip u_ic b_ah b_be b_me u_wd b_tr b_ld u_st b_wn u_id)), (b_tp, (arI G 400 v_tp)), (b_op, (arI G 400 v_op)), (b_ar, (arI G 400 v_ar))] sz)) 0 0 (va_A [(b_o, (oc12 u_th u_sa b_rf b_ro b_im b_ke u_fd b_tp u_td u_fr u_to u_so u_wo u_fa u_bd u_nc b_nl u_co b_op b_ar u_le b_pi b_pa u_pd u_od b_ws b_hw u_la b_se b_re u_bk u_va u_su u_ce u_ho u_wy u_bt u_ps b_pt u_tg u_sn b_ip u_ic b_ah b_be b_me u_wd b_tr b_ld u_st b_wn u_id)), (b_tp, (arI G 400 v_tp)), (b_op, (arI G 400 v_op)), (b_ar, (arI G 400 v_ar))] sz) := by
  refine Met.ofW (cc := cX12_leaf) (maxL := 4) (ret := none) (by decide +kernel) rfl ?_
  intro p e s m args below meth c s₁ B hml hv
  obtain ⟨rfl, hsz, hP, hK, hD0, hN, hT⟩ := hv
  have hx := B.exec
  have hb := B.bytes
  have hr := B.returns
  have hts : ∀ w ∈ tblG, w.before _ s = true := fun w h => atoms_spec (ws := (wsG yX12_leaf cX12_leaf 4 none)) B.pre w (List.mem_cons_of_mem _ h)
  have hown : s.vm.findClass RX12 = some m.cls := findClass_of_methodNamed B.named
  have hlocks := B.notSynchronized
  subst hsz
  have hD := hD0.self (sz := s.heap.size)
  generalize hAe : va_A [(b_o, (oc12 u_th u_sa b_rf b_ro b_im b_ke u_fd b_tp u_td u_fr u_to u_so u_wo u_fa u_bd u_nc b_nl u_co b_op b_ar u_le b_pi b_pa u_pd u_od b_ws b_hw u_la b_se b_re u_bk u_va u_su u_ce u_ho u_wy u_bt u_ps b_pt u_tg u_sn b_ip u_ic b_ah b_be b_me u_wd b_tr b_ld u_st b_wn u_id)), (b_tp, (arI G 400 v_tp)), (b_op, (arI G 400 v_op)), (b_ar, (arI G 400 v_ar))] s.heap.size = A at hD hT ⊢
  have hA : ∀ q : Nat, s.heap.size ≤ q → A q := fun q h => by rw [← hAe]; exact Or.inr h
  have hS : va_S A s.heap s.heap [] := va_S.rf
  replace hP : va_P G.1 vwCl [(b_o, (oc12 u_th u_sa b_rf b_ro b_im b_ke u_fd b_tp u_td u_fr u_to u_so u_wo u_fa u_bd u_nc b_nl u_co b_op b_ar u_le b_pi b_pa u_pd u_od b_ws b_hw u_la b_se b_re u_bk u_va u_su u_ce u_ho u_wy u_bt u_ps b_pt u_tg u_sn b_ip u_ic b_ah b_be b_me u_wd b_tr b_ld u_st b_wn u_id)), (b_tp, (arI G 400 v_tp)), (b_op, (arI G 400 v_op)), (b_ar, (arI G 400 v_ar))] s.heap := hP
  have hl := lv_entry ([.ref b_o, .int 0, .int p_2, .int p_3]) (n := 4) (Nat.le_of_ble_eq_true rfl)
  rw [lg_entry_eq]
  generalize (lg_sl ([.ref b_o, .int 0, .int p_2, .int p_3]) ++ List.replicate (4 - (lg_sl ([.ref b_o, .int 0, .int p_2, .int p_3])).length) Slot.unset).toArray = ls at hl ⊢
  replace hl : lv_has ls 4 [(0, .ref b_o), (1, .int 0), (2, .int p_2), (3, .int p_3)] := hl
  refine lv_aload_n hx hb dX12_leaf_0 rfl (lv_at hl 0 rfl) ?_
  refine lv_iload_n hx hb dX12_leaf_1 rfl (lv_at hl 1 rfl) ?_
  refine lv_if_eq (tgt := 18) hx hb dX12_leaf_2 (by decide +kernel) (fun c_1 => ?_) (fun c_1 => ?_)
  ·
    refine lv_iconst (v := 0) hx hb dX12_leaf_18 (by decide +kernel) ?_
    obtain ⟨hPc, hDc, hFc⟩ := g5_sub3 (wc := [(b_o, (oc12 u_th u_sa b_rf b_ro b_im b_ke u_fd b_tp u_td u_fr u_to u_so u_wo u_fa u_bd u_nc b_nl u_co b_op b_ar u_le b_pi b_pa u_pd u_od b_ws b_hw u_la b_se b_re u_bk u_va u_su u_ce u_ho u_wy u_bt u_ps b_pt u_tg u_sn b_ip u_ic b_ah b_be b_me u_wd b_tr b_ld u_st b_wn u_id)), (b_tp, (arI G 400 v_tp))]) hP hD hS hA [0, 1] (by decide +kernel) rfl
    refine va_callv (va_runV (As := [.int 0]) (rest := []) ⟨hx, hb, hml, hown, hts⟩ (n_must0 l G b_o b_tp b_rf b_ro b_im b_ke b_nl b_op b_ar b_pi b_pa b_ws b_hw b_se b_re b_pt b_ip b_ah b_be b_me b_tr b_ld b_wn s.heap.size u_th u_sa u_fd u_td u_fr u_to u_so u_fa u_bd u_nc u_co u_le u_pd u_od u_la u_bk u_ce u_ho u_wy u_bt u_ps u_tg u_sn u_ic u_wd u_id u_wo u_va u_su u_st v_tp h_u_td h_u_fr h_u_to h_u_bd h_u_nc h_u_co h_u_pd h_u_la h_u_bk h_u_ce h_u_ho h_u_wy h_u_bt h_u_ps h_u_ic h_u_id) (cwV 1 hts gV_X12_233 rfl rfl rfl hv_X12_must ⟨Nat.le_of_ble_eq_true rfl, Nat.le_of_ble_eq_true rfl⟩) (g5_preV hPc hK hDc hN hT hS hFc (ci := 12) (q0 := 0) rfl rfl) rfl rfl hl.1 rfl (lv_room (Nat.le_of_ble_eq_true rfl)) dX12_leaf_19 ⟨Nat.le_of_ble_eq_true rfl, Nat.le_of_ble_eq_true rfl⟩) hS (fun q _ h => hFc q h) hFc (fun u t H locs ht hvm hw hB hz1 hk1 hS => ?_)
    obtain ⟨hP1, hD1⟩ := hB
    have hP1 := g5_ht ht hP1
    obtain rfl := hw
    have hJ9 := va_join (wr := [(b_op, (arI G 400 v_op)), (b_ar, (arI G 400 v_ar))]) hP hD [0, 1] [2, 3] rfl rfl (by decide +kernel) (by decide +kernel) hk1 hFc hP1 hD1
    clear hP hD hPc hDc hFc ht hvm hz1 hk1 hP1 hD1
    obtain ⟨hP, hD⟩ := hJ9
    refine g5_rs [(b_op, (arI G 400 v_op)), (b_ar, (arI G 400 v_ar)), (b_o, (oc12 u_th u_sa b_rf b_ro b_im b_ke u_fd b_tp u_td u_fr u_to u_so u_wo u_fr 1 u_nc b_nl u_co b_op b_ar u_le b_pi b_pa u_pd u_od b_ws b_hw u_la b_se b_re u_bk u_va u_su u_ce u_ho u_wy u_bt u_ps b_pt u_tg u_sn b_ip u_ic b_ah b_be b_me u_wd b_tr b_ld u_st b_wn u_id)), (b_tp, (arI G 400 v_tp))] hP hD ?_
    clear hP hD
    intro hP hD
    refine lv_aload_n hx hb dX12_leaf_22 rfl (lv_at hl 0 rfl) ?_
    refine va_get (D := G.1) (ci := 12) (v := .int 1) (C := RX12) (T := TX12) (N := 52) hx hb hts inG_X12 hown hK hP 2 rfl rfl 14 (by decide +kernel) (hts _ fl_X12_205) (fun _ h9 => h9) rfl dX12_leaf_23 ?_
    refine W.eq (g2 := F0 m 26 ls [.int 1]) rfl ?_
    refine lv_if_ne (tgt := 45) hx hb dX12_leaf_26 (by decide +kernel) (fun c_2 => ?_) (fun c_2 => ?_)
    ·
      exact W.vret hx hb hr (fun t ht hW => ⟨⟨[(b_o, (oc12 u_th u_sa b_rf b_ro b_im b_ke u_fd b_tp u_td u_fr u_to u_so u_wo u_fr 1 u_nc b_nl u_co b_op b_ar u_le b_pi b_pa u_pd u_od b_ws b_hw u_la b_se b_re u_bk u_va u_su u_ce u_ho u_wy u_bt u_ps b_pt u_tg u_sn b_ip u_ic b_ah b_be b_me u_wd b_tr b_ld u_st b_wn u_id)), (b_tp, (arI G 400 v_tp)), (b_op, (arI G 400 v_op)), (b_ar, (arI G 400 v_ar))], rfl, rfl, by rw [ht]; exact hP.sub [2, 3, 0, 1] rfl, hD.sub [2, 3, 0, 1] (by decide +kernel) rfl⟩, hS.F ht⟩) hS.2.2 dX12_leaf_45
    ·
      exact absurd c_2 (by decide +kernel)
  ·
    exact absurd c_1 (by decide +kernel)
theorem dgX12_readPart_0 : ∀ r ∈ ([(0, (.aload_n 0, 1)), (1, (.bipush 91, 2)), (3, (.invokevirtual 267, 3)), (6, (.ifCond .eq 11, 3)), (9, (.aload_n 0, 1)), (10, (.bipush 31, 2)), (12, (.invokevirtual 270, 3)), (15, (.iconst 1, 1)), (16, (.ireturn, 1)), (17, (.aload_n 0, 1)), (18, (.invokevirtual 273, 3)), (21, (.istore_n 1, 1)), (22, (.aload_n 0, 1)), (23, (.getfield 224, 3)), (26, (.iconst 2, 1)), (27, (.if_icmp .ne 18, 3)), (30, (.aload_n 0, 1)), (31, (.getfield 214, 3)), (34, (.ldc2_w 277, 3)), (37, (.lcmp, 1)), (38, (.ifCond .gt 7, 3)), (41, (.iconst 1, 1)), (42, (.goto 4, 3)), (45, (.iconst 0, 1)), (46, (.istore_n 2, 1)), (47, (.aload_n 0, 1)), (48, (.iload_n 1, 1)), (49, (.iconst (-1), 1)), (50, (.if_icmp .ne 7, 3)), (53, (.iload_n 2, 1)), (54, (.ifCond .eq 7, 3)), (57, (.iconst 1, 1)), (58, (.goto 4, 3)), (61, (.iconst 0, 1)), (62, (.iload_n 1, 1)), (63, (.iconst (-1), 1)), (64, (.if_icmp .ne 7, 3)), (67, (.iconst 0, 1)), (68, (.goto 4, 3)), (71, (.iload_n 1, 1))] : List (Nat × (Instr × Nat))), decode cX12_readPart r.1 = .ok r.2 := by decide +kernel
theorem dX12_readPart_0 : decode cX12_readPart 0 = .ok (.aload_n 0, 1) := dgX12_readPart_0 (0, (.aload_n 0, 1)) (List.mem_of_getElem? (i := 0) rfl)
theorem dX12_readPart_1 : decode cX12_readPart 1 = .ok (.bipush 91, 2) := dgX12_readPart_0 (1, (.bipush 91, 2)) (List.mem_of_getElem? (i := 1) rfl)
theorem dX12_readPart_3 : decode cX12_readPart 3 = .ok (.invokevirtual 267, 3) := dgX12_readPart_0 (3, (.invokevirtual 267, 3)) (List.mem_of_getElem? (i := 2) rfl)
theorem dX12_readPart_6 : decode cX12_readPart 6 = .ok (.ifCond .eq 11, 3) := dgX12_readPart_0 (6, (.ifCond .eq 11, 3)) (List.mem_of_getElem? (i := 3) rfl)
theorem dX12_readPart_9 : decode cX12_readPart 9 = .ok (.aload_n 0, 1) := dgX12_readPart_0 (9, (.aload_n 0, 1)) (List.mem_of_getElem? (i := 4) rfl)
theorem dX12_readPart_10 : decode cX12_readPart 10 = .ok (.bipush 31, 2) := dgX12_readPart_0 (10, (.bipush 31, 2)) (List.mem_of_getElem? (i := 5) rfl)
theorem dX12_readPart_12 : decode cX12_readPart 12 = .ok (.invokevirtual 270, 3) := dgX12_readPart_0 (12, (.invokevirtual 270, 3)) (List.mem_of_getElem? (i := 6) rfl)
theorem dX12_readPart_15 : decode cX12_readPart 15 = .ok (.iconst 1, 1) := dgX12_readPart_0 (15, (.iconst 1, 1)) (List.mem_of_getElem? (i := 7) rfl)
theorem dX12_readPart_16 : decode cX12_readPart 16 = .ok (.ireturn, 1) := dgX12_readPart_0 (16, (.ireturn, 1)) (List.mem_of_getElem? (i := 8) rfl)
theorem dX12_readPart_17 : decode cX12_readPart 17 = .ok (.aload_n 0, 1) := dgX12_readPart_0 (17, (.aload_n 0, 1)) (List.mem_of_getElem? (i := 9) rfl)
theorem dX12_readPart_18 : decode cX12_readPart 18 = .ok (.invokevirtual 273, 3) := dgX12_readPart_0 (18, (.invokevirtual 273, 3)) (List.mem_of_getElem? (i := 10) rfl)
theorem dX12_readPart_21 : decode cX12_readPart 21 = .ok (.istore_n 1, 1) := dgX12_readPart_0 (21, (.istore_n 1, 1)) (List.mem_of_getElem? (i := 11) rfl)
theorem dX12_readPart_22 : decode cX12_readPart 22 = .ok (.aload_n 0, 1) := dgX12_readPart_0 (22, (.aload_n 0, 1)) (List.mem_of_getElem? (i := 12) rfl)
theorem dX12_readPart_23 : decode cX12_readPart 23 = .ok (.getfield 224, 3) := dgX12_readPart_0 (23, (.getfield 224, 3)) (List.mem_of_getElem? (i := 13) rfl)
theorem dX12_readPart_26 : decode cX12_readPart 26 = .ok (.iconst 2, 1) := dgX12_readPart_0 (26, (.iconst 2, 1)) (List.mem_of_getElem? (i := 14) rfl)
theorem dX12_readPart_27 : decode cX12_readPart 27 = .ok (.if_icmp .ne 18, 3) := dgX12_readPart_0 (27, (.if_icmp .ne 18, 3)) (List.mem_of_getElem? (i := 15) rfl)
theorem dX12_readPart_30 : decode cX12_readPart 30 = .ok (.aload_n 0, 1) := dgX12_readPart_0 (30, (.aload_n 0, 1)) (List.mem_of_getElem? (i := 16) rfl)
theorem dX12_readPart_31 : decode cX12_readPart 31 = .ok (.getfield 214, 3) := dgX12_readPart_0 (31, (.getfield 214, 3)) (List.mem_of_getElem? (i := 17) rfl)
theorem dX12_readPart_34 : decode cX12_readPart 34 = .ok (.ldc2_w 277, 3) := dgX12_readPart_0 (34, (.ldc2_w 277, 3)) (List.mem_of_getElem? (i := 18) rfl)
theorem dX12_readPart_37 : decode cX12_readPart 37 = .ok (.lcmp, 1) := dgX12_readPart_0 (37, (.lcmp, 1)) (List.mem_of_getElem? (i := 19) rfl)
theorem dX12_readPart_38 : decode cX12_readPart 38 = .ok (.ifCond .gt 7, 3) := dgX12_readPart_0 (38, (.ifCond .gt 7, 3)) (List.mem_of_getElem? (i := 20) rfl)
theorem dX12_readPart_41 : decode cX12_readPart 41 = .ok (.iconst 1, 1) := dgX12_readPart_0 (41, (.iconst 1, 1)) (List.mem_of_getElem? (i := 21) rfl)
theorem dX12_readPart_42 : decode cX12_readPart 42 = .ok (.goto 4, 3) := dgX12_readPart_0 (42, (.goto 4, 3)) (List.mem_of_getElem? (i := 22) rfl)
theorem dX12_readPart_45 : decode cX12_readPart 45 = .ok (.iconst 0, 1) := dgX12_readPart_0 (45, (.iconst 0, 1)) (List.mem_of_getElem? (i := 23) rfl)
theorem dX12_readPart_46 : decode cX12_readPart 46 = .ok (.istore_n 2, 1) := dgX12_readPart_0 (46, (.istore_n 2, 1)) (List.mem_of_getElem? (i := 24) rfl)
theorem dX12_readPart_47 : decode cX12_readPart 47 = .ok (.aload_n 0, 1) := dgX12_readPart_0 (47, (.aload_n 0, 1)) (List.mem_of_getElem? (i := 25) rfl)
theorem dX12_readPart_48 : decode cX12_readPart 48 = .ok (.iload_n 1, 1) := dgX12_readPart_0 (48, (.iload_n 1, 1)) (List.mem_of_getElem? (i := 26) rfl)
theorem dX12_readPart_49 : decode cX12_readPart 49 = .ok (.iconst (-1), 1) := dgX12_readPart_0 (49, (.iconst (-1), 1)) (List.mem_of_getElem? (i := 27) rfl)
theorem dX12_readPart_50 : decode cX12_readPart 50 = .ok (.if_icmp .ne 7, 3) := dgX12_readPart_0 (50, (.if_icmp .ne 7, 3)) (List.mem_of_getElem? (i := 28) rfl)
theorem dX12_readPart_53 : decode cX12_readPart 53 = .ok (.iload_n 2, 1) := dgX12_readPart_0 (53, (.iload_n 2, 1)) (List.mem_of_getElem? (i := 29) rfl)
theorem dX12_readPart_54 : decode cX12_readPart 54 = .ok (.ifCond .eq 7, 3) := dgX12_readPart_0 (54, (.ifCond .eq 7, 3)) (List.mem_of_getElem? (i := 30) rfl)
theorem dX12_readPart_57 : decode cX12_readPart 57 = .ok (.iconst 1, 1) := dgX12_readPart_0 (57, (.iconst 1, 1)) (List.mem_of_getElem? (i := 31) rfl)
theorem dX12_readPart_58 : decode cX12_readPart 58 = .ok (.goto 4, 3) := dgX12_readPart_0 (58, (.goto 4, 3)) (List.mem_of_getElem? (i := 32) rfl)
theorem dX12_readPart_61 : decode cX12_readPart 61 = .ok (.iconst 0, 1) := dgX12_readPart_0 (61, (.iconst 0, 1)) (List.mem_of_getElem? (i := 33) rfl)
theorem dX12_readPart_62 : decode cX12_readPart 62 = .ok (.iload_n 1, 1) := dgX12_readPart_0 (62, (.iload_n 1, 1)) (List.mem_of_getElem? (i := 34) rfl)
theorem dX12_readPart_63 : decode cX12_readPart 63 = .ok (.iconst (-1), 1) := dgX12_readPart_0 (63, (.iconst (-1), 1)) (List.mem_of_getElem? (i := 35) rfl)
theorem dX12_readPart_64 : decode cX12_readPart 64 = .ok (.if_icmp .ne 7, 3) := dgX12_readPart_0 (64, (.if_icmp .ne 7, 3)) (List.mem_of_getElem? (i := 36) rfl)
theorem dX12_readPart_67 : decode cX12_readPart 67 = .ok (.iconst 0, 1) := dgX12_readPart_0 (67, (.iconst 0, 1)) (List.mem_of_getElem? (i := 37) rfl)
theorem dX12_readPart_68 : decode cX12_readPart 68 = .ok (.goto 4, 3) := dgX12_readPart_0 (68, (.goto 4, 3)) (List.mem_of_getElem? (i := 38) rfl)
theorem dX12_readPart_71 : decode cX12_readPart 71 = .ok (.iload_n 1, 1) := dgX12_readPart_0 (71, (.iload_n 1, 1)) (List.mem_of_getElem? (i := 39) rfl)
theorem dgX12_readPart_1 : ∀ r ∈ ([(72, (.iload_n 2, 1)), (73, (.ifCond .eq 11, 3)), (76, (.aload_n 0, 1)), (77, (.getfield 214, 3)), (80, (.l2i, 1)), (81, (.goto 4, 3)), (84, (.iconst 0, 1)), (85, (.invokevirtual 279, 3)), (88, (.iconst 3, 1)), (89, (.ireturn, 1))] : List (Nat × (Instr × Nat))), decode cX12_readPart r.1 = .ok r.2 := by decide +kernel
theorem dX12_readPart_72 : decode cX12_readPart 72 = .ok (.iload_n 2, 1) := dgX12_readPart_1 (72, (.iload_n 2, 1)) (List.mem_of_getElem? (i := 0) rfl)
theorem dX12_readPart_73 : decode cX12_readPart 73 = .ok (.ifCond .eq 11, 3) := dgX12_readPart_1 (73, (.ifCond .eq 11, 3)) (List.mem_of_getElem? (i := 1) rfl)
theorem dX12_readPart_76 : decode cX12_readPart 76 = .ok (.aload_n 0, 1) := dgX12_readPart_1 (76, (.aload_n 0, 1)) (List.mem_of_getElem? (i := 2) rfl)
theorem dX12_readPart_77 : decode cX12_readPart 77 = .ok (.getfield 214, 3) := dgX12_readPart_1 (77, (.getfield 214, 3)) (List.mem_of_getElem? (i := 3) rfl)
theorem dX12_readPart_80 : decode cX12_readPart 80 = .ok (.l2i, 1) := dgX12_readPart_1 (80, (.l2i, 1)) (List.mem_of_getElem? (i := 4) rfl)
theorem dX12_readPart_81 : decode cX12_readPart 81 = .ok (.goto 4, 3) := dgX12_readPart_1 (81, (.goto 4, 3)) (List.mem_of_getElem? (i := 5) rfl)
theorem dX12_readPart_84 : decode cX12_readPart 84 = .ok (.iconst 0, 1) := dgX12_readPart_1 (84, (.iconst 0, 1)) (List.mem_of_getElem? (i := 6) rfl)
theorem dX12_readPart_85 : decode cX12_readPart 85 = .ok (.invokevirtual 279, 3) := dgX12_readPart_1 (85, (.invokevirtual 279, 3)) (List.mem_of_getElem? (i := 7) rfl)
theorem dX12_readPart_88 : decode cX12_readPart 88 = .ok (.iconst 3, 1) := dgX12_readPart_1 (88, (.iconst 3, 1)) (List.mem_of_getElem? (i := 8) rfl)
theorem dX12_readPart_89 : decode cX12_readPart 89 = .ok (.ireturn, 1) := dgX12_readPart_1 (89, (.ireturn, 1)) (List.mem_of_getElem? (i := 9) rfl)
theorem ml_X12_267 : Cond.methodLink RX12 267 yX12_isSign ∈ tblG := tg 1542 (by decide +kernel) (by decide +kernel)
theorem im_X12_isSign : Cond.instanceMethod yX12_isSign ∈ tblG := tg 1544 (by decide +kernel) (by decide +kernel)
theorem se_X12_isSign : Cond.selects RX12 yX12_isSign yX12_isSign ∈ tblG := tg 51 (by decide +kernel) (by decide +kernel)
theorem cd_X12_isSign : Cond.code yX12_isSign cX12_isSign 2 (some .boolean) ∈ tblG := tg 1545 (by decide +kernel) (by decide +kernel)
theorem gW_X12_isSign : GoodIn tblG (wsG yX12_isSign cX12_isSign 2 (some .boolean)) := tgi cd_X12_isSign
theorem gV_X12_267 : GoodIn tblG (wsV RX12 267 RX12 yX12_isSign (wsG yX12_isSign cX12_isSign 2 (some .boolean))) := tgV ml_X12_267 im_X12_isSign se_X12_isSign ini_X12 gW_X12_isSign
theorem hv_X12_isSign : yX12_isSign.cls = RX12 ∧ yX12_isSign.cls ≠ "java/lang/invoke/MethodHandle" ∧ yX12_isSign.cls ≠ "java/lang/invoke/VarHandle" ∧ (parseMethodDescriptor yX12_isSign.desc).map (fun d => d.parameters.length) = some 1 := by decide +kernel
theorem ml_X12_270 : Cond.methodLink RX12 270 yX12_openBracket ∈ tblG := tg 1546 (by decide +kernel) (by decide +kernel)
theorem im_X12_openBracket : Cond.instanceMethod yX12_openBracket ∈ tblG := tg 1548 (by decide +kernel) (by decide +kernel)
theorem se_X12_openBracket : Cond.selects RX12 yX12_openBracket yX12_openBracket ∈ tblG := tg 52 (by decide +kernel) (by decide +kernel)
theorem cd_X12_openBracket : Cond.code yX12_openBracket cX12_openBracket 2 none ∈ tblG := tg 1549 (by decide +kernel) (by decide +kernel)
theorem gW_X12_openBracket : GoodIn tblG (wsG yX12_openBracket cX12_openBracket 2 none) := tgi cd_X12_openBracket
theorem gV_X12_270 : GoodIn tblG (wsV RX12 270 RX12 yX12_openBracket (wsG yX12_openBracket cX12_openBracket 2 none)) := tgV ml_X12_270 im_X12_openBracket se_X12_openBracket ini_X12 gW_X12_openBracket
theorem hv_X12_openBracket : yX12_openBracket.cls = RX12 ∧ yX12_openBracket.cls ≠ "java/lang/invoke/MethodHandle" ∧ yX12_openBracket.cls ≠ "java/lang/invoke/VarHandle" ∧ (parseMethodDescriptor yX12_openBracket.desc).map (fun d => d.parameters.length) = some 1 := by decide +kernel
theorem ml_X12_273 : Cond.methodLink RX12 273 yX12_partAt ∈ tblG := tg 1554 (by decide +kernel) (by decide +kernel)
theorem im_X12_partAt : Cond.instanceMethod yX12_partAt ∈ tblG := tg 1556 (by decide +kernel) (by decide +kernel)
theorem se_X12_partAt : Cond.selects RX12 yX12_partAt yX12_partAt ∈ tblG := tg 54 (by decide +kernel) (by decide +kernel)
theorem cd_X12_partAt : Cond.code yX12_partAt cX12_partAt 3 (some .int) ∈ tblG := tg 1557 (by decide +kernel) (by decide +kernel)
theorem gW_X12_partAt : GoodIn tblG (wsG yX12_partAt cX12_partAt 3 (some .int)) := tgi cd_X12_partAt
theorem gV_X12_273 : GoodIn tblG (wsV RX12 273 RX12 yX12_partAt (wsG yX12_partAt cX12_partAt 3 (some .int))) := tgV ml_X12_273 im_X12_partAt se_X12_partAt ini_X12 gW_X12_partAt
theorem hv_X12_partAt : yX12_partAt.cls = RX12 ∧ yX12_partAt.cls ≠ "java/lang/invoke/MethodHandle" ∧ yX12_partAt.cls ≠ "java/lang/invoke/VarHandle" ∧ (parseMethodDescriptor yX12_partAt.desc).map (fun d => d.parameters.length) = some 0 := by decide +kernel
theorem ml_X12_279 : Cond.methodLink RX12 279 yX12_leaf ∈ tblG := tg 1559 (by decide +kernel) (by decide +kernel)
theorem im_X12_leaf : Cond.instanceMethod yX12_leaf ∈ tblG := tg 1561 (by decide +kernel) (by decide +kernel)
theorem se_X12_leaf : Cond.selects RX12 yX12_leaf yX12_leaf ∈ tblG := tg 55 (by decide +kernel) (by decide +kernel)
theorem cd_X12_leaf : Cond.code yX12_leaf cX12_leaf 4 none ∈ tblG := tg 1562 (by decide +kernel) (by decide +kernel)
theorem gW_X12_leaf : GoodIn tblG (wsG yX12_leaf cX12_leaf 4 none) := tgi cd_X12_leaf
theorem gV_X12_279 : GoodIn tblG (wsV RX12 279 RX12 yX12_leaf (wsG yX12_leaf cX12_leaf 4 none)) := tgV ml_X12_279 im_X12_leaf se_X12_leaf ini_X12 gW_X12_leaf
theorem hv_X12_leaf : yX12_leaf.cls = RX12 ∧ yX12_leaf.cls ≠ "java/lang/invoke/MethodHandle" ∧ yX12_leaf.cls ≠ "java/lang/invoke/VarHandle" ∧ (parseMethodDescriptor yX12_leaf.desc).map (fun d => d.parameters.length) = some 3 := by decide +kernel
theorem kl_X12_277 : Cond.constantLong RX12 277 1000 ∈ tblG := tg 1558 (by decide +kernel) (by decide +kernel)
theorem dgX12_readPlain_0 : ∀ r ∈ ([(0, (.aload_n 0, 1)), (1, (.ldc2_w 283, 3)), (4, (.invokevirtual 254, 3)), (7, (.ifCond .eq 16, 3)), (10, (.aload_n 0, 1)), (11, (.bipush 27, 2)), (13, (.iconst 0, 1)), (14, (.invokevirtual 261, 3)), (17, (.aload_n 0, 1)), (18, (.invokevirtual 208, 3)), (21, (.iconst 0, 1)), (22, (.ireturn, 1)), (23, (.aload_n 0, 1)), (24, (.bipush 40, 2)), (26, (.invokevirtual 267, 3)), (29, (.ifCond .eq 11, 3)), (32, (.aload_n 0, 1)), (33, (.bipush 30, 2)), (35, (.invokevirtual 270, 3)), (38, (.iconst 0, 1)), (39, (.ireturn, 1)), (40, (.aload_n 0, 1)), (41, (.invokevirtual 285, 3)), (44, (.ireturn, 1))] : List (Nat × (Instr × Nat))), decode cX12_readPlain r.1 = .ok r.2 := by decide +kernel
theorem dX12_readPlain_0 : decode cX12_readPlain 0 = .ok (.aload_n 0, 1) := dgX12_readPlain_0 (0, (.aload_n 0, 1)) (List.mem_of_getElem? (i := 0) rfl)
theorem dX12_readPlain_1 : decode cX12_readPlain 1 = .ok (.ldc2_w 283, 3) := dgX12_readPlain_0 (1, (.ldc2_w 283, 3)) (List.mem_of_getElem? (i := 1) rfl)
theorem dX12_readPlain_4 : decode cX12_readPlain 4 = .ok (.invokevirtual 254, 3) := dgX12_readPlain_0 (4, (.invokevirtual 254, 3)) (List.mem_of_getElem? (i := 2) rfl)
theorem dX12_readPlain_7 : decode cX12_readPlain 7 = .ok (.ifCond .eq 16, 3) := dgX12_readPlain_0 (7, (.ifCond .eq 16, 3)) (List.mem_of_getElem? (i := 3) rfl)
theorem dX12_readPlain_10 : decode cX12_readPlain 10 = .ok (.aload_n 0, 1) := dgX12_readPlain_0 (10, (.aload_n 0, 1)) (List.mem_of_getElem? (i := 4) rfl)
theorem dX12_readPlain_11 : decode cX12_readPlain 11 = .ok (.bipush 27, 2) := dgX12_readPlain_0 (11, (.bipush 27, 2)) (List.mem_of_getElem? (i := 5) rfl)
theorem dX12_readPlain_13 : decode cX12_readPlain 13 = .ok (.iconst 0, 1) := dgX12_readPlain_0 (13, (.iconst 0, 1)) (List.mem_of_getElem? (i := 6) rfl)
theorem dX12_readPlain_14 : decode cX12_readPlain 14 = .ok (.invokevirtual 261, 3) := dgX12_readPlain_0 (14, (.invokevirtual 261, 3)) (List.mem_of_getElem? (i := 7) rfl)
theorem dX12_readPlain_17 : decode cX12_readPlain 17 = .ok (.aload_n 0, 1) := dgX12_readPlain_0 (17, (.aload_n 0, 1)) (List.mem_of_getElem? (i := 8) rfl)
theorem dX12_readPlain_18 : decode cX12_readPlain 18 = .ok (.invokevirtual 208, 3) := dgX12_readPlain_0 (18, (.invokevirtual 208, 3)) (List.mem_of_getElem? (i := 9) rfl)
theorem dX12_readPlain_21 : decode cX12_readPlain 21 = .ok (.iconst 0, 1) := dgX12_readPlain_0 (21, (.iconst 0, 1)) (List.mem_of_getElem? (i := 10) rfl)
theorem dX12_readPlain_22 : decode cX12_readPlain 22 = .ok (.ireturn, 1) := dgX12_readPlain_0 (22, (.ireturn, 1)) (List.mem_of_getElem? (i := 11) rfl)
theorem dX12_readPlain_23 : decode cX12_readPlain 23 = .ok (.aload_n 0, 1) := dgX12_readPlain_0 (23, (.aload_n 0, 1)) (List.mem_of_getElem? (i := 12) rfl)
theorem dX12_readPlain_24 : decode cX12_readPlain 24 = .ok (.bipush 40, 2) := dgX12_readPlain_0 (24, (.bipush 40, 2)) (List.mem_of_getElem? (i := 13) rfl)
theorem dX12_readPlain_26 : decode cX12_readPlain 26 = .ok (.invokevirtual 267, 3) := dgX12_readPlain_0 (26, (.invokevirtual 267, 3)) (List.mem_of_getElem? (i := 14) rfl)
theorem dX12_readPlain_29 : decode cX12_readPlain 29 = .ok (.ifCond .eq 11, 3) := dgX12_readPlain_0 (29, (.ifCond .eq 11, 3)) (List.mem_of_getElem? (i := 15) rfl)
theorem dX12_readPlain_32 : decode cX12_readPlain 32 = .ok (.aload_n 0, 1) := dgX12_readPlain_0 (32, (.aload_n 0, 1)) (List.mem_of_getElem? (i := 16) rfl)
theorem dX12_readPlain_33 : decode cX12_readPlain 33 = .ok (.bipush 30, 2) := dgX12_readPlain_0 (33, (.bipush 30, 2)) (List.mem_of_getElem? (i := 17) rfl)
theorem dX12_readPlain_35 : decode cX12_readPlain 35 = .ok (.invokevirtual 270, 3) := dgX12_readPlain_0 (35, (.invokevirtual 270, 3)) (List.mem_of_getElem? (i := 18) rfl)
theorem dX12_readPlain_38 : decode cX12_readPlain 38 = .ok (.iconst 0, 1) := dgX12_readPlain_0 (38, (.iconst 0, 1)) (List.mem_of_getElem? (i := 19) rfl)
theorem dX12_readPlain_39 : decode cX12_readPlain 39 = .ok (.ireturn, 1) := dgX12_readPlain_0 (39, (.ireturn, 1)) (List.mem_of_getElem? (i := 20) rfl)
theorem dX12_readPlain_40 : decode cX12_readPlain 40 = .ok (.aload_n 0, 1) := dgX12_readPlain_0 (40, (.aload_n 0, 1)) (List.mem_of_getElem? (i := 21) rfl)
theorem dX12_readPlain_41 : decode cX12_readPlain 41 = .ok (.invokevirtual 285, 3) := dgX12_readPlain_0 (41, (.invokevirtual 285, 3)) (List.mem_of_getElem? (i := 22) rfl)
theorem dX12_readPlain_44 : decode cX12_readPlain 44 = .ok (.ireturn, 1) := dgX12_readPlain_0 (44, (.ireturn, 1)) (List.mem_of_getElem? (i := 23) rfl)
theorem kl_X12_283 : Cond.constantLong RX12 283 14836 ∈ tblG := tg 1537 (by decide +kernel) (by decide +kernel)
theorem ml_X12_285 : Cond.methodLink RX12 285 yX12_readPart ∈ tblG := tg 1550 (by decide +kernel) (by decide +kernel)
theorem im_X12_readPart : Cond.instanceMethod yX12_readPart ∈ tblG := tg 1552 (by decide +kernel) (by decide +kernel)
theorem se_X12_readPart : Cond.selects RX12 yX12_readPart yX12_readPart ∈ tblG := tg 53 (by decide +kernel) (by decide +kernel)
theorem cd_X12_readPart : Cond.code yX12_readPart cX12_readPart 3 (some .int) ∈ tblG := tg 1553 (by decide +kernel) (by decide +kernel)
theorem gW_X12_readPart : GoodIn tblG (wsG yX12_readPart cX12_readPart 3 (some .int)) := tgi cd_X12_readPart
theorem gV_X12_285 : GoodIn tblG (wsV RX12 285 RX12 yX12_readPart (wsG yX12_readPart cX12_readPart 3 (some .int))) := tgV ml_X12_285 im_X12_readPart se_X12_readPart ini_X12 gW_X12_readPart
theorem hv_X12_readPart : yX12_readPart.cls = RX12 ∧ yX12_readPart.cls ≠ "java/lang/invoke/MethodHandle" ∧ yX12_readPart.cls ≠ "java/lang/invoke/VarHandle" ∧ (parseMethodDescriptor yX12_readPart.desc).map (fun d => d.parameters.length) = some 0 := by decide +kernel
theorem dgX12_behindSum_0 : ∀ r ∈ ([(0, (.aload_n 0, 1)), (1, (.bipush 43, 2)), (3, (.invokevirtual 267, 3)), (6, (.ifCond .eq 8, 3)), (9, (.bipush 20, 2)), (11, (.goto 46, 3)), (14, (.aload_n 0, 1)), (15, (.bipush 45, 2)), (17, (.invokevirtual 267, 3)), (20, (.ifCond .eq 8, 3)), (23, (.bipush 21, 2)), (25, (.goto 32, 3)), (28, (.aload_n 0, 1)), (29, (.bipush 42, 2)), (31, (.invokevirtual 267, 3)), (34, (.ifCond .eq 8, 3)), (37, (.bipush 22, 2)), (39, (.goto 18, 3)), (42, (.aload_n 0, 1)), (43, (.bipush 47, 2)), (45, (.invokevirtual 267, 3)), (48, (.ifCond .eq 8, 3)), (51, (.bipush 23, 2)), (53, (.goto 4, 3)), (56, (.iconst (-1), 1)), (57, (.istore_n 2, 1)), (58, (.iload_n 2, 1)), (59, (.iconst (-1), 1)), (60, (.if_icmp .eq 23, 3)), (63, (.aload_n 0, 1)), (64, (.iload_n 2, 1)), (65, (.invokestatic 243, 3)), (68, (.invokevirtual 288, 3)), (71, (.aload_n 0, 1)), (72, (.iload_n 2, 1)), (73, (.iconst 0, 1)), (74, (.invokevirtual 261, 3)), (77, (.aload_n 0, 1)), (78, (.invokevirtual 208, 3)), (81, (.iconst 1, 1))] : List (Nat × (Instr × Nat))), decode cX12_behindSum r.1 = .ok r.2 := by decide +kernel
theorem dX12_behindSum_0 : decode cX12_behindSum 0 = .ok (.aload_n 0, 1) := dgX12_behindSum_0 (0, (.aload_n 0, 1)) (List.mem_of_getElem? (i := 0) rfl)
theorem dX12_behindSum_1 : decode cX12_behindSum 1 = .ok (.bipush 43, 2) := dgX12_behindSum_0 (1, (.bipush 43, 2)) (List.mem_of_getElem? (i := 1) rfl)
theorem dX12_behindSum_3 : decode cX12_behindSum 3 = .ok (.invokevirtual 267, 3) := dgX12_behindSum_0 (3, (.invokevirtual 267, 3)) (List.mem_of_getElem? (i := 2) rfl)
theorem dX12_behindSum_6 : decode cX12_behindSum 6 = .ok (.ifCond .eq 8, 3) := dgX12_behindSum_0 (6, (.ifCond .eq 8, 3)) (List.mem_of_getElem? (i := 3) rfl)
theorem dX12_behindSum_9 : decode cX12_behindSum 9 = .ok (.bipush 20, 2) := dgX12_behindSum_0 (9, (.bipush 20, 2)) (List.mem_of_getElem? (i := 4) rfl)
theorem dX12_behindSum_11 : decode cX12_behindSum 11 = .ok (.goto 46, 3) := dgX12_behindSum_0 (11, (.goto 46, 3)) (List.mem_of_getElem? (i := 5) rfl)
theorem dX12_behindSum_14 : decode cX12_behindSum 14 = .ok (.aload_n 0, 1) := dgX12_behindSum_0 (14, (.aload_n 0, 1)) (List.mem_of_getElem? (i := 6) rfl)
theorem dX12_behindSum_15 : decode cX12_behindSum 15 = .ok (.bipush 45, 2) := dgX12_behindSum_0 (15, (.bipush 45, 2)) (List.mem_of_getElem? (i := 7) rfl)
theorem dX12_behindSum_17 : decode cX12_behindSum 17 = .ok (.invokevirtual 267, 3) := dgX12_behindSum_0 (17, (.invokevirtual 267, 3)) (List.mem_of_getElem? (i := 8) rfl)
theorem dX12_behindSum_20 : decode cX12_behindSum 20 = .ok (.ifCond .eq 8, 3) := dgX12_behindSum_0 (20, (.ifCond .eq 8, 3)) (List.mem_of_getElem? (i := 9) rfl)
theorem dX12_behindSum_23 : decode cX12_behindSum 23 = .ok (.bipush 21, 2) := dgX12_behindSum_0 (23, (.bipush 21, 2)) (List.mem_of_getElem? (i := 10) rfl)
theorem dX12_behindSum_25 : decode cX12_behindSum 25 = .ok (.goto 32, 3) := dgX12_behindSum_0 (25, (.goto 32, 3)) (List.mem_of_getElem? (i := 11) rfl)
theorem dX12_behindSum_28 : decode cX12_behindSum 28 = .ok (.aload_n 0, 1) := dgX12_behindSum_0 (28, (.aload_n 0, 1)) (List.mem_of_getElem? (i := 12) rfl)
theorem dX12_behindSum_29 : decode cX12_behindSum 29 = .ok (.bipush 42, 2) := dgX12_behindSum_0 (29, (.bipush 42, 2)) (List.mem_of_getElem? (i := 13) rfl)
theorem dX12_behindSum_31 : decode cX12_behindSum 31 = .ok (.invokevirtual 267, 3) := dgX12_behindSum_0 (31, (.invokevirtual 267, 3)) (List.mem_of_getElem? (i := 14) rfl)
theorem dX12_behindSum_34 : decode cX12_behindSum 34 = .ok (.ifCond .eq 8, 3) := dgX12_behindSum_0 (34, (.ifCond .eq 8, 3)) (List.mem_of_getElem? (i := 15) rfl)
theorem dX12_behindSum_37 : decode cX12_behindSum 37 = .ok (.bipush 22, 2) := dgX12_behindSum_0 (37, (.bipush 22, 2)) (List.mem_of_getElem? (i := 16) rfl)
theorem dX12_behindSum_39 : decode cX12_behindSum 39 = .ok (.goto 18, 3) := dgX12_behindSum_0 (39, (.goto 18, 3)) (List.mem_of_getElem? (i := 17) rfl)
theorem dX12_behindSum_42 : decode cX12_behindSum 42 = .ok (.aload_n 0, 1) := dgX12_behindSum_0 (42, (.aload_n 0, 1)) (List.mem_of_getElem? (i := 18) rfl)
theorem dX12_behindSum_43 : decode cX12_behindSum 43 = .ok (.bipush 47, 2) := dgX12_behindSum_0 (43, (.bipush 47, 2)) (List.mem_of_getElem? (i := 19) rfl)
theorem dX12_behindSum_45 : decode cX12_behindSum 45 = .ok (.invokevirtual 267, 3) := dgX12_behindSum_0 (45, (.invokevirtual 267, 3)) (List.mem_of_getElem? (i := 20) rfl)
theorem dX12_behindSum_48 : decode cX12_behindSum 48 = .ok (.ifCond .eq 8, 3) := dgX12_behindSum_0 (48, (.ifCond .eq 8, 3)) (List.mem_of_getElem? (i := 21) rfl)
theorem dX12_behindSum_51 : decode cX12_behindSum 51 = .ok (.bipush 23, 2) := dgX12_behindSum_0 (51, (.bipush 23, 2)) (List.mem_of_getElem? (i := 22) rfl)
theorem dX12_behindSum_53 : decode cX12_behindSum 53 = .ok (.goto 4, 3) := dgX12_behindSum_0 (53, (.goto 4, 3)) (List.mem_of_getElem? (i := 23) rfl)
theorem dX12_behindSum_56 : decode cX12_behindSum 56 = .ok (.iconst (-1), 1) := dgX12_behindSum_0 (56, (.iconst (-1), 1)) (List.mem_of_getElem? (i := 24) rfl)
theorem dX12_behindSum_57 : decode cX12_behindSum 57 = .ok (.istore_n 2, 1) := dgX12_behindSum_0 (57, (.istore_n 2, 1)) (List.mem_of_getElem? (i := 25) rfl)
theorem dX12_behindSum_58 : decode cX12_behindSum 58 = .ok (.iload_n 2, 1) := dgX12_behindSum_0 (58, (.iload_n 2, 1)) (List.mem_of_getElem? (i := 26) rfl)
theorem dX12_behindSum_59 : decode cX12_behindSum 59 = .ok (.iconst (-1), 1) := dgX12_behindSum_0 (59, (.iconst (-1), 1)) (List.mem_of_getElem? (i := 27) rfl)
theorem dX12_behindSum_60 : decode cX12_behindSum 60 = .ok (.if_icmp .eq 23, 3) := dgX12_behindSum_0 (60, (.if_icmp .eq 23, 3)) (List.mem_of_getElem? (i := 28) rfl)
theorem dX12_behindSum_63 : decode cX12_behindSum 63 = .ok (.aload_n 0, 1) := dgX12_behindSum_0 (63, (.aload_n 0, 1)) (List.mem_of_getElem? (i := 29) rfl)
theorem dX12_behindSum_64 : decode cX12_behindSum 64 = .ok (.iload_n 2, 1) := dgX12_behindSum_0 (64, (.iload_n 2, 1)) (List.mem_of_getElem? (i := 30) rfl)
theorem dX12_behindSum_65 : decode cX12_behindSum 65 = .ok (.invokestatic 243, 3) := dgX12_behindSum_0 (65, (.invokestatic 243, 3)) (List.mem_of_getElem? (i := 31) rfl)
theorem dX12_behindSum_68 : decode cX12_behindSum 68 = .ok (.invokevirtual 288, 3) := dgX12_behindSum_0 (68, (.invokevirtual 288, 3)) (List.mem_of_getElem? (i := 32) rfl)
theorem dX12_behindSum_71 : decode cX12_behindSum 71 = .ok (.aload_n 0, 1) := dgX12_behindSum_0 (71, (.aload_n 0, 1)) (List.mem_of_getElem? (i := 33) rfl)
theorem dX12_behindSum_72 : decode cX12_behindSum 72 = .ok (.iload_n 2, 1) := dgX12_behindSum_0 (72, (.iload_n 2, 1)) (List.mem_of_getElem? (i := 34) rfl)
theorem dX12_behindSum_73 : decode cX12_behindSum 73 = .ok (.iconst 0, 1) := dgX12_behindSum_0 (73, (.iconst 0, 1)) (List.mem_of_getElem? (i := 35) rfl)
theorem dX12_behindSum_74 : decode cX12_behindSum 74 = .ok (.invokevirtual 261, 3) := dgX12_behindSum_0 (74, (.invokevirtual 261, 3)) (List.mem_of_getElem? (i := 36) rfl)
theorem dX12_behindSum_77 : decode cX12_behindSum 77 = .ok (.aload_n 0, 1) := dgX12_behindSum_0 (77, (.aload_n 0, 1)) (List.mem_of_getElem? (i := 37) rfl)
theorem dX12_behindSum_78 : decode cX12_behindSum 78 = .ok (.invokevirtual 208, 3) := dgX12_behindSum_0 (78, (.invokevirtual 208, 3)) (List.mem_of_getElem? (i := 38) rfl)
theorem dX12_behindSum_81 : decode cX12_behindSum 81 = .ok (.iconst 1, 1) := dgX12_behindSum_0 (81, (.iconst 1, 1)) (List.mem_of_getElem? (i := 39) rfl)
theorem dgX12_behindSum_1 : ∀ r ∈ ([(82, (.ireturn, 1)), (83, (.aload_n 0, 1)), (84, (.invokevirtual 291, 3)), (87, (.istore_n 3, 1)), (88, (.iload_n 3, 1)), (89, (.bipush 31, 2)), (91, (.if_icmp .ne 47, 3)), (94, (.aload_n 0, 1)), (95, (.aload_n 0, 1)), (96, (.bipush 93, 2)), (98, (.invokevirtual 267, 3)), (101, (.invokevirtual 233, 3)), (104, (.aload_n 0, 1)), (105, (.getfield 205, 3)), (108, (.ifCond .ne 28, 3)), (111, (.aload_n 0, 1)), (112, (.iconst 5, 1)), (113, (.invokevirtual 288, 3)), (116, (.aload_n 0, 1)), (117, (.dup, 1)), (118, (.getfield 240, 3)), (121, (.iconst 1, 1)), (122, (.isub, 1)), (123, (.putfield 240, 3)), (126, (.aload_n 0, 1)), (127, (.dup, 1)), (128, (.getfield 258, 3)), (131, (.iconst 1, 1)), (132, (.isub, 1)), (133, (.putfield 258, 3)), (136, (.iconst 3, 1)), (137, (.ireturn, 1)), (138, (.iload_n 3, 1)), (139, (.iconst (-1), 1)), (140, (.if_icmp .ne 9, 3)), (143, (.iload_n 1, 1)), (144, (.ifCond .ne 5, 3)), (147, (.iconst 4, 1)), (148, (.ireturn, 1)), (149, (.aload_n 0, 1))] : List (Nat × (Instr × Nat))), decode cX12_behindSum r.1 = .ok r.2 := by decide +kernel
theorem dX12_behindSum_82 : decode cX12_behindSum 82 = .ok (.ireturn, 1) := dgX12_behindSum_1 (82, (.ireturn, 1)) (List.mem_of_getElem? (i := 0) rfl)
theorem dX12_behindSum_83 : decode cX12_behindSum 83 = .ok (.aload_n 0, 1) := dgX12_behindSum_1 (83, (.aload_n 0, 1)) (List.mem_of_getElem? (i := 1) rfl)
theorem dX12_behindSum_84 : decode cX12_behindSum 84 = .ok (.invokevirtual 291, 3) := dgX12_behindSum_1 (84, (.invokevirtual 291, 3)) (List.mem_of_getElem? (i := 2) rfl)
theorem dX12_behindSum_87 : decode cX12_behindSum 87 = .ok (.istore_n 3, 1) := dgX12_behindSum_1 (87, (.istore_n 3, 1)) (List.mem_of_getElem? (i := 3) rfl)
theorem dX12_behindSum_88 : decode cX12_behindSum 88 = .ok (.iload_n 3, 1) := dgX12_behindSum_1 (88, (.iload_n 3, 1)) (List.mem_of_getElem? (i := 4) rfl)
theorem dX12_behindSum_89 : decode cX12_behindSum 89 = .ok (.bipush 31, 2) := dgX12_behindSum_1 (89, (.bipush 31, 2)) (List.mem_of_getElem? (i := 5) rfl)
theorem dX12_behindSum_91 : decode cX12_behindSum 91 = .ok (.if_icmp .ne 47, 3) := dgX12_behindSum_1 (91, (.if_icmp .ne 47, 3)) (List.mem_of_getElem? (i := 6) rfl)
theorem dX12_behindSum_94 : decode cX12_behindSum 94 = .ok (.aload_n 0, 1) := dgX12_behindSum_1 (94, (.aload_n 0, 1)) (List.mem_of_getElem? (i := 7) rfl)
theorem dX12_behindSum_95 : decode cX12_behindSum 95 = .ok (.aload_n 0, 1) := dgX12_behindSum_1 (95, (.aload_n 0, 1)) (List.mem_of_getElem? (i := 8) rfl)
theorem dX12_behindSum_96 : decode cX12_behindSum 96 = .ok (.bipush 93, 2) := dgX12_behindSum_1 (96, (.bipush 93, 2)) (List.mem_of_getElem? (i := 9) rfl)
theorem dX12_behindSum_98 : decode cX12_behindSum 98 = .ok (.invokevirtual 267, 3) := dgX12_behindSum_1 (98, (.invokevirtual 267, 3)) (List.mem_of_getElem? (i := 10) rfl)
theorem dX12_behindSum_101 : decode cX12_behindSum 101 = .ok (.invokevirtual 233, 3) := dgX12_behindSum_1 (101, (.invokevirtual 233, 3)) (List.mem_of_getElem? (i := 11) rfl)
theorem dX12_behindSum_104 : decode cX12_behindSum 104 = .ok (.aload_n 0, 1) := dgX12_behindSum_1 (104, (.aload_n 0, 1)) (List.mem_of_getElem? (i := 12) rfl)
theorem dX12_behindSum_105 : decode cX12_behindSum 105 = .ok (.getfield 205, 3) := dgX12_behindSum_1 (105, (.getfield 205, 3)) (List.mem_of_getElem? (i := 13) rfl)
theorem dX12_behindSum_108 : decode cX12_behindSum 108 = .ok (.ifCond .ne 28, 3) := dgX12_behindSum_1 (108, (.ifCond .ne 28, 3)) (List.mem_of_getElem? (i := 14) rfl)
theorem dX12_behindSum_111 : decode cX12_behindSum 111 = .ok (.aload_n 0, 1) := dgX12_behindSum_1 (111, (.aload_n 0, 1)) (List.mem_of_getElem? (i := 15) rfl)
theorem dX12_behindSum_112 : decode cX12_behindSum 112 = .ok (.iconst 5, 1) := dgX12_behindSum_1 (112, (.iconst 5, 1)) (List.mem_of_getElem? (i := 16) rfl)
theorem dX12_behindSum_113 : decode cX12_behindSum 113 = .ok (.invokevirtual 288, 3) := dgX12_behindSum_1 (113, (.invokevirtual 288, 3)) (List.mem_of_getElem? (i := 17) rfl)
theorem dX12_behindSum_116 : decode cX12_behindSum 116 = .ok (.aload_n 0, 1) := dgX12_behindSum_1 (116, (.aload_n 0, 1)) (List.mem_of_getElem? (i := 18) rfl)
theorem dX12_behindSum_117 : decode cX12_behindSum 117 = .ok (.dup, 1) := dgX12_behindSum_1 (117, (.dup, 1)) (List.mem_of_getElem? (i := 19) rfl)
theorem dX12_behindSum_118 : decode cX12_behindSum 118 = .ok (.getfield 240, 3) := dgX12_behindSum_1 (118, (.getfield 240, 3)) (List.mem_of_getElem? (i := 20) rfl)
theorem dX12_behindSum_121 : decode cX12_behindSum 121 = .ok (.iconst 1, 1) := dgX12_behindSum_1 (121, (.iconst 1, 1)) (List.mem_of_getElem? (i := 21) rfl)
theorem dX12_behindSum_122 : decode cX12_behindSum 122 = .ok (.isub, 1) := dgX12_behindSum_1 (122, (.isub, 1)) (List.mem_of_getElem? (i := 22) rfl)
theorem dX12_behindSum_123 : decode cX12_behindSum 123 = .ok (.putfield 240, 3) := dgX12_behindSum_1 (123, (.putfield 240, 3)) (List.mem_of_getElem? (i := 23) rfl)
theorem dX12_behindSum_126 : decode cX12_behindSum 126 = .ok (.aload_n 0, 1) := dgX12_behindSum_1 (126, (.aload_n 0, 1)) (List.mem_of_getElem? (i := 24) rfl)
theorem dX12_behindSum_127 : decode cX12_behindSum 127 = .ok (.dup, 1) := dgX12_behindSum_1 (127, (.dup, 1)) (List.mem_of_getElem? (i := 25) rfl)
theorem dX12_behindSum_128 : decode cX12_behindSum 128 = .ok (.getfield 258, 3) := dgX12_behindSum_1 (128, (.getfield 258, 3)) (List.mem_of_getElem? (i := 26) rfl)
theorem dX12_behindSum_131 : decode cX12_behindSum 131 = .ok (.iconst 1, 1) := dgX12_behindSum_1 (131, (.iconst 1, 1)) (List.mem_of_getElem? (i := 27) rfl)
theorem dX12_behindSum_132 : decode cX12_behindSum 132 = .ok (.isub, 1) := dgX12_behindSum_1 (132, (.isub, 1)) (List.mem_of_getElem? (i := 28) rfl)
theorem dX12_behindSum_133 : decode cX12_behindSum 133 = .ok (.putfield 258, 3) := dgX12_behindSum_1 (133, (.putfield 258, 3)) (List.mem_of_getElem? (i := 29) rfl)
theorem dX12_behindSum_136 : decode cX12_behindSum 136 = .ok (.iconst 3, 1) := dgX12_behindSum_1 (136, (.iconst 3, 1)) (List.mem_of_getElem? (i := 30) rfl)
theorem dX12_behindSum_137 : decode cX12_behindSum 137 = .ok (.ireturn, 1) := dgX12_behindSum_1 (137, (.ireturn, 1)) (List.mem_of_getElem? (i := 31) rfl)
theorem dX12_behindSum_138 : decode cX12_behindSum 138 = .ok (.iload_n 3, 1) := dgX12_behindSum_1 (138, (.iload_n 3, 1)) (List.mem_of_getElem? (i := 32) rfl)
theorem dX12_behindSum_139 : decode cX12_behindSum 139 = .ok (.iconst (-1), 1) := dgX12_behindSum_1 (139, (.iconst (-1), 1)) (List.mem_of_getElem? (i := 33) rfl)
theorem dX12_behindSum_140 : decode cX12_behindSum 140 = .ok (.if_icmp .ne 9, 3) := dgX12_behindSum_1 (140, (.if_icmp .ne 9, 3)) (List.mem_of_getElem? (i := 34) rfl)
theorem dX12_behindSum_143 : decode cX12_behindSum 143 = .ok (.iload_n 1, 1) := dgX12_behindSum_1 (143, (.iload_n 1, 1)) (List.mem_of_getElem? (i := 35) rfl)
theorem dX12_behindSum_144 : decode cX12_behindSum 144 = .ok (.ifCond .ne 5, 3) := dgX12_behindSum_1 (144, (.ifCond .ne 5, 3)) (List.mem_of_getElem? (i := 36) rfl)
theorem dX12_behindSum_147 : decode cX12_behindSum 147 = .ok (.iconst 4, 1) := dgX12_behindSum_1 (147, (.iconst 4, 1)) (List.mem_of_getElem? (i := 37) rfl)
theorem dX12_behindSum_148 : decode cX12_behindSum 148 = .ok (.ireturn, 1) := dgX12_behindSum_1 (148, (.ireturn, 1)) (List.mem_of_getElem? (i := 38) rfl)
theorem dX12_behindSum_149 : decode cX12_behindSum 149 = .ok (.aload_n 0, 1) := dgX12_behindSum_1 (149, (.aload_n 0, 1)) (List.mem_of_getElem? (i := 39) rfl)
theorem dgX12_behindSum_2 : ∀ r ∈ ([(150, (.invokevirtual 294, 3)), (153, (.ifCond .eq 5, 3)), (156, (.iconst 2, 1)), (157, (.ireturn, 1)), (158, (.aload_n 0, 1)), (159, (.bipush 60, 2)), (161, (.invokevirtual 267, 3)), (164, (.ifCond .eq 8, 3)), (167, (.bipush 24, 2)), (169, (.goto 19, 3)), (172, (.aload_n 0, 1)), (173, (.bipush 62, 2)), (175, (.invokevirtual 267, 3)), (178, (.ifCond .eq 8, 3)), (181, (.bipush 25, 2)), (183, (.goto 5, 3)), (186, (.bipush 26, 2)), (188, (.istore_n 2, 1)), (189, (.aload_n 0, 1)), (190, (.iload_n 2, 1)), (191, (.bipush 26, 2)), (193, (.if_icmp .ne 12, 3)), (196, (.aload_n 0, 1)), (197, (.bipush 61, 2)), (199, (.invokevirtual 267, 3)), (202, (.ifCond .eq 7, 3)), (205, (.iconst 1, 1)), (206, (.goto 4, 3)), (209, (.iconst 0, 1)), (210, (.invokevirtual 233, 3)), (213, (.aload_n 0, 1)), (214, (.getfield 205, 3)), (217, (.ifCond .ne 14, 3)), (220, (.aload_n 0, 1)), (221, (.iconst 5, 1)), (222, (.invokevirtual 288, 3)), (225, (.aload_n 0, 1)), (226, (.iload_n 2, 1)), (227, (.iconst 0, 1)), (228, (.invokevirtual 261, 3))] : List (Nat × (Instr × Nat))), decode cX12_behindSum r.1 = .ok r.2 := by decide +kernel
theorem dX12_behindSum_150 : decode cX12_behindSum 150 = .ok (.invokevirtual 294, 3) := dgX12_behindSum_2 (150, (.invokevirtual 294, 3)) (List.mem_of_getElem? (i := 0) rfl)
theorem dX12_behindSum_153 : decode cX12_behindSum 153 = .ok (.ifCond .eq 5, 3) := dgX12_behindSum_2 (153, (.ifCond .eq 5, 3)) (List.mem_of_getElem? (i := 1) rfl)
theorem dX12_behindSum_156 : decode cX12_behindSum 156 = .ok (.iconst 2, 1) := dgX12_behindSum_2 (156, (.iconst 2, 1)) (List.mem_of_getElem? (i := 2) rfl)
theorem dX12_behindSum_157 : decode cX12_behindSum 157 = .ok (.ireturn, 1) := dgX12_behindSum_2 (157, (.ireturn, 1)) (List.mem_of_getElem? (i := 3) rfl)
theorem dX12_behindSum_158 : decode cX12_behindSum 158 = .ok (.aload_n 0, 1) := dgX12_behindSum_2 (158, (.aload_n 0, 1)) (List.mem_of_getElem? (i := 4) rfl)
theorem dX12_behindSum_159 : decode cX12_behindSum 159 = .ok (.bipush 60, 2) := dgX12_behindSum_2 (159, (.bipush 60, 2)) (List.mem_of_getElem? (i := 5) rfl)
theorem dX12_behindSum_161 : decode cX12_behindSum 161 = .ok (.invokevirtual 267, 3) := dgX12_behindSum_2 (161, (.invokevirtual 267, 3)) (List.mem_of_getElem? (i := 6) rfl)
theorem dX12_behindSum_164 : decode cX12_behindSum 164 = .ok (.ifCond .eq 8, 3) := dgX12_behindSum_2 (164, (.ifCond .eq 8, 3)) (List.mem_of_getElem? (i := 7) rfl)
theorem dX12_behindSum_167 : decode cX12_behindSum 167 = .ok (.bipush 24, 2) := dgX12_behindSum_2 (167, (.bipush 24, 2)) (List.mem_of_getElem? (i := 8) rfl)
theorem dX12_behindSum_169 : decode cX12_behindSum 169 = .ok (.goto 19, 3) := dgX12_behindSum_2 (169, (.goto 19, 3)) (List.mem_of_getElem? (i := 9) rfl)
theorem dX12_behindSum_172 : decode cX12_behindSum 172 = .ok (.aload_n 0, 1) := dgX12_behindSum_2 (172, (.aload_n 0, 1)) (List.mem_of_getElem? (i := 10) rfl)
theorem dX12_behindSum_173 : decode cX12_behindSum 173 = .ok (.bipush 62, 2) := dgX12_behindSum_2 (173, (.bipush 62, 2)) (List.mem_of_getElem? (i := 11) rfl)
theorem dX12_behindSum_175 : decode cX12_behindSum 175 = .ok (.invokevirtual 267, 3) := dgX12_behindSum_2 (175, (.invokevirtual 267, 3)) (List.mem_of_getElem? (i := 12) rfl)
theorem dX12_behindSum_178 : decode cX12_behindSum 178 = .ok (.ifCond .eq 8, 3) := dgX12_behindSum_2 (178, (.ifCond .eq 8, 3)) (List.mem_of_getElem? (i := 13) rfl)
theorem dX12_behindSum_181 : decode cX12_behindSum 181 = .ok (.bipush 25, 2) := dgX12_behindSum_2 (181, (.bipush 25, 2)) (List.mem_of_getElem? (i := 14) rfl)
theorem dX12_behindSum_183 : decode cX12_behindSum 183 = .ok (.goto 5, 3) := dgX12_behindSum_2 (183, (.goto 5, 3)) (List.mem_of_getElem? (i := 15) rfl)
theorem dX12_behindSum_186 : decode cX12_behindSum 186 = .ok (.bipush 26, 2) := dgX12_behindSum_2 (186, (.bipush 26, 2)) (List.mem_of_getElem? (i := 16) rfl)
theorem dX12_behindSum_188 : decode cX12_behindSum 188 = .ok (.istore_n 2, 1) := dgX12_behindSum_2 (188, (.istore_n 2, 1)) (List.mem_of_getElem? (i := 17) rfl)
theorem dX12_behindSum_189 : decode cX12_behindSum 189 = .ok (.aload_n 0, 1) := dgX12_behindSum_2 (189, (.aload_n 0, 1)) (List.mem_of_getElem? (i := 18) rfl)
theorem dX12_behindSum_190 : decode cX12_behindSum 190 = .ok (.iload_n 2, 1) := dgX12_behindSum_2 (190, (.iload_n 2, 1)) (List.mem_of_getElem? (i := 19) rfl)
theorem dX12_behindSum_191 : decode cX12_behindSum 191 = .ok (.bipush 26, 2) := dgX12_behindSum_2 (191, (.bipush 26, 2)) (List.mem_of_getElem? (i := 20) rfl)
theorem dX12_behindSum_193 : decode cX12_behindSum 193 = .ok (.if_icmp .ne 12, 3) := dgX12_behindSum_2 (193, (.if_icmp .ne 12, 3)) (List.mem_of_getElem? (i := 21) rfl)
theorem dX12_behindSum_196 : decode cX12_behindSum 196 = .ok (.aload_n 0, 1) := dgX12_behindSum_2 (196, (.aload_n 0, 1)) (List.mem_of_getElem? (i := 22) rfl)
theorem dX12_behindSum_197 : decode cX12_behindSum 197 = .ok (.bipush 61, 2) := dgX12_behindSum_2 (197, (.bipush 61, 2)) (List.mem_of_getElem? (i := 23) rfl)
theorem dX12_behindSum_199 : decode cX12_behindSum 199 = .ok (.invokevirtual 267, 3) := dgX12_behindSum_2 (199, (.invokevirtual 267, 3)) (List.mem_of_getElem? (i := 24) rfl)
theorem dX12_behindSum_202 : decode cX12_behindSum 202 = .ok (.ifCond .eq 7, 3) := dgX12_behindSum_2 (202, (.ifCond .eq 7, 3)) (List.mem_of_getElem? (i := 25) rfl)
theorem dX12_behindSum_205 : decode cX12_behindSum 205 = .ok (.iconst 1, 1) := dgX12_behindSum_2 (205, (.iconst 1, 1)) (List.mem_of_getElem? (i := 26) rfl)
theorem dX12_behindSum_206 : decode cX12_behindSum 206 = .ok (.goto 4, 3) := dgX12_behindSum_2 (206, (.goto 4, 3)) (List.mem_of_getElem? (i := 27) rfl)
theorem dX12_behindSum_209 : decode cX12_behindSum 209 = .ok (.iconst 0, 1) := dgX12_behindSum_2 (209, (.iconst 0, 1)) (List.mem_of_getElem? (i := 28) rfl)
theorem dX12_behindSum_210 : decode cX12_behindSum 210 = .ok (.invokevirtual 233, 3) := dgX12_behindSum_2 (210, (.invokevirtual 233, 3)) (List.mem_of_getElem? (i := 29) rfl)
theorem dX12_behindSum_213 : decode cX12_behindSum 213 = .ok (.aload_n 0, 1) := dgX12_behindSum_2 (213, (.aload_n 0, 1)) (List.mem_of_getElem? (i := 30) rfl)
theorem dX12_behindSum_214 : decode cX12_behindSum 214 = .ok (.getfield 205, 3) := dgX12_behindSum_2 (214, (.getfield 205, 3)) (List.mem_of_getElem? (i := 31) rfl)
theorem dX12_behindSum_217 : decode cX12_behindSum 217 = .ok (.ifCond .ne 14, 3) := dgX12_behindSum_2 (217, (.ifCond .ne 14, 3)) (List.mem_of_getElem? (i := 32) rfl)
theorem dX12_behindSum_220 : decode cX12_behindSum 220 = .ok (.aload_n 0, 1) := dgX12_behindSum_2 (220, (.aload_n 0, 1)) (List.mem_of_getElem? (i := 33) rfl)
theorem dX12_behindSum_221 : decode cX12_behindSum 221 = .ok (.iconst 5, 1) := dgX12_behindSum_2 (221, (.iconst 5, 1)) (List.mem_of_getElem? (i := 34) rfl)
theorem dX12_behindSum_222 : decode cX12_behindSum 222 = .ok (.invokevirtual 288, 3) := dgX12_behindSum_2 (222, (.invokevirtual 288, 3)) (List.mem_of_getElem? (i := 35) rfl)
theorem dX12_behindSum_225 : decode cX12_behindSum 225 = .ok (.aload_n 0, 1) := dgX12_behindSum_2 (225, (.aload_n 0, 1)) (List.mem_of_getElem? (i := 36) rfl)
theorem dX12_behindSum_226 : decode cX12_behindSum 226 = .ok (.iload_n 2, 1) := dgX12_behindSum_2 (226, (.iload_n 2, 1)) (List.mem_of_getElem? (i := 37) rfl)
theorem dX12_behindSum_227 : decode cX12_behindSum 227 = .ok (.iconst 0, 1) := dgX12_behindSum_2 (227, (.iconst 0, 1)) (List.mem_of_getElem? (i := 38) rfl)
theorem dX12_behindSum_228 : decode cX12_behindSum 228 = .ok (.invokevirtual 261, 3) := dgX12_behindSum_2 (228, (.invokevirtual 261, 3)) (List.mem_of_getElem? (i := 39) rfl)
theorem dgX12_behindSum_3 : ∀ r ∈ ([(231, (.iconst 1, 1)), (232, (.ireturn, 1))] : List (Nat × (Instr × Nat))), decode cX12_behindSum r.1 = .ok r.2 := by decide +kernel
theorem dX12_behindSum_231 : decode cX12_behindSum 231 = .ok (.iconst 1, 1) := dgX12_behindSum_3 (231, (.iconst 1, 1)) (List.mem_of_getElem? (i := 0) rfl)
theorem dX12_behindSum_232 : decode cX12_behindSum 232 = .ok (.ireturn, 1) := dgX12_behindSum_3 (232, (.ireturn, 1)) (List.mem_of_getElem? (i := 1) rfl)
theorem ml_X12_288 : Cond.methodLink RX12 288 yX12_settle ∈ tblG := tg 1574 (by decide +kernel) (by decide +kernel)
theorem im_X12_settle : Cond.instanceMethod yX12_settle ∈ tblG := tg 1576 (by decide +kernel) (by decide +kernel)
theorem se_X12_settle : Cond.selects RX12 yX12_settle yX12_settle ∈ tblG := tg 58 (by decide +kernel) (by decide +kernel)
theorem cd_X12_settle : Cond.code yX12_settle cX12_settle 2 none ∈ tblG := tg 1577 (by decide +kernel) (by decide +kernel)
theorem gW_X12_settle : GoodIn tblG (wsG yX12_settle cX12_settle 2 none) := tgi cd_X12_settle
theorem gV_X12_288 : GoodIn tblG (wsV RX12 288 RX12 yX12_settle (wsG yX12_settle cX12_settle 2 none)) := tgV ml_X12_288 im_X12_settle se_X12_settle ini_X12 gW_X12_settle
theorem hv_X12_settle : yX12_settle.cls = RX12 ∧ yX12_settle.cls ≠ "java/lang/invoke/MethodHandle" ∧ yX12_settle.cls ≠ "java/lang/invoke/VarHandle" ∧ (parseMethodDescriptor yX12_settle.desc).map (fun d => d.parameters.length) = some 1 := by decide +kernel
theorem ml_X12_291 : Cond.methodLink RX12 291 yX12_inner ∈ tblG := tg 1578 (by decide +kernel) (by decide +kernel)
theorem im_X12_inner : Cond.instanceMethod yX12_inner ∈ tblG := tg 1580 (by decide +kernel) (by decide +kernel)
theorem se_X12_inner : Cond.selects RX12 yX12_inner yX12_inner ∈ tblG := tg 59 (by decide +kernel) (by decide +kernel)
theorem cd_X12_inner : Cond.code yX12_inner cX12_inner 3 (some .int) ∈ tblG := tg 1581 (by decide +kernel) (by decide +kernel)
theorem gW_X12_inner : GoodIn tblG (wsG yX12_inner cX12_inner 3 (some .int)) := tgi cd_X12_inner
theorem gV_X12_291 : GoodIn tblG (wsV RX12 291 RX12 yX12_inner (wsG yX12_inner cX12_inner 3 (some .int))) := tgV ml_X12_291 im_X12_inner se_X12_inner ini_X12 gW_X12_inner
theorem hv_X12_inner : yX12_inner.cls = RX12 ∧ yX12_inner.cls ≠ "java/lang/invoke/MethodHandle" ∧ yX12_inner.cls ≠ "java/lang/invoke/VarHandle" ∧ (parseMethodDescriptor yX12_inner.desc).map (fun d => d.parameters.length) = some 0 := by decide +kernel
theorem ml_X12_294 : Cond.methodLink RX12 294 yX12_isCompared ∈ tblG := tg 1582 (by decide +kernel) (by decide +kernel)
theorem im_X12_isCompared : Cond.instanceMethod yX12_isCompared ∈ tblG := tg 1584 (by decide +kernel) (by decide +kernel)
theorem se_X12_isCompared : Cond.selects RX12 yX12_isCompared yX12_isCompared ∈ tblG := tg 60 (by decide +kernel) (by decide +kernel)
theorem cd_X12_isCompared : Cond.code yX12_isCompared cX12_isCompared 2 (some .boolean) ∈ tblG := tg 1585 (by decide +kernel) (by decide +kernel)
theorem gW_X12_isCompared : GoodIn tblG (wsG yX12_isCompared cX12_isCompared 2 (some .boolean)) := tgi cd_X12_isCompared
theorem gV_X12_294 : GoodIn tblG (wsV RX12 294 RX12 yX12_isCompared (wsG yX12_isCompared cX12_isCompared 2 (some .boolean))) := tgV ml_X12_294 im_X12_isCompared se_X12_isCompared ini_X12 gW_X12_isCompared
theorem hv_X12_isCompared : yX12_isCompared.cls = RX12 ∧ yX12_isCompared.cls ≠ "java/lang/invoke/MethodHandle" ∧ yX12_isCompared.cls ≠ "java/lang/invoke/VarHandle" ∧ (parseMethodDescriptor yX12_isCompared.desc).map (fun d => d.parameters.length) = some 0 := by decide +kernel
theorem dgX12_behindTest_0 : ∀ r ∈ ([(0, (.aload_n 0, 1)), (1, (.ldc2_w 298, 3)), (4, (.invokevirtual 254, 3)), (7, (.istore_n 1, 1)), (8, (.iload_n 1, 1)), (9, (.ifCond .ne 13, 3)), (12, (.aload_n 0, 1)), (13, (.ldc2_w 300, 3)), (16, (.invokevirtual 254, 3)), (19, (.ifCond .eq 57, 3)), (22, (.aload_n 0, 1)), (23, (.iload_n 1, 1)), (24, (.ifCond .eq 7, 3)), (27, (.iconst 2, 1)), (28, (.goto 4, 3)), (31, (.iconst 1, 1)), (32, (.invokevirtual 288, 3)), (35, (.aload_n 0, 1)), (36, (.iload_n 1, 1)), (37, (.ifCond .eq 8, 3)), (40, (.bipush 28, 2)), (42, (.goto 5, 3)), (45, (.bipush 29, 2)), (47, (.aload_n 0, 1)), (48, (.getfield 237, 3)), (51, (.invokevirtual 261, 3)), (54, (.aload_n 0, 1)), (55, (.iload_n 1, 1)), (56, (.ifCond .eq 8, 3)), (59, (.bipush 28, 2)), (61, (.goto 5, 3)), (64, (.bipush 29, 2)), (66, (.iconst 0, 1)), (67, (.invokevirtual 246, 3)), (70, (.aload_n 0, 1)), (71, (.invokevirtual 208, 3)), (74, (.iconst 0, 1)), (75, (.ireturn, 1)), (76, (.aload_n 0, 1)), (77, (.invokevirtual 291, 3))] : List (Nat × (Instr × Nat))), decode cX12_behindTest r.1 = .ok r.2 := by decide +kernel
theorem dX12_behindTest_0 : decode cX12_behindTest 0 = .ok (.aload_n 0, 1) := dgX12_behindTest_0 (0, (.aload_n 0, 1)) (List.mem_of_getElem? (i := 0) rfl)
theorem dX12_behindTest_1 : decode cX12_behindTest 1 = .ok (.ldc2_w 298, 3) := dgX12_behindTest_0 (1, (.ldc2_w 298, 3)) (List.mem_of_getElem? (i := 1) rfl)
theorem dX12_behindTest_4 : decode cX12_behindTest 4 = .ok (.invokevirtual 254, 3) := dgX12_behindTest_0 (4, (.invokevirtual 254, 3)) (List.mem_of_getElem? (i := 2) rfl)
theorem dX12_behindTest_7 : decode cX12_behindTest 7 = .ok (.istore_n 1, 1) := dgX12_behindTest_0 (7, (.istore_n 1, 1)) (List.mem_of_getElem? (i := 3) rfl)
theorem dX12_behindTest_8 : decode cX12_behindTest 8 = .ok (.iload_n 1, 1) := dgX12_behindTest_0 (8, (.iload_n 1, 1)) (List.mem_of_getElem? (i := 4) rfl)
theorem dX12_behindTest_9 : decode cX12_behindTest 9 = .ok (.ifCond .ne 13, 3) := dgX12_behindTest_0 (9, (.ifCond .ne 13, 3)) (List.mem_of_getElem? (i := 5) rfl)
theorem dX12_behindTest_12 : decode cX12_behindTest 12 = .ok (.aload_n 0, 1) := dgX12_behindTest_0 (12, (.aload_n 0, 1)) (List.mem_of_getElem? (i := 6) rfl)
theorem dX12_behindTest_13 : decode cX12_behindTest 13 = .ok (.ldc2_w 300, 3) := dgX12_behindTest_0 (13, (.ldc2_w 300, 3)) (List.mem_of_getElem? (i := 7) rfl)
theorem dX12_behindTest_16 : decode cX12_behindTest 16 = .ok (.invokevirtual 254, 3) := dgX12_behindTest_0 (16, (.invokevirtual 254, 3)) (List.mem_of_getElem? (i := 8) rfl)
theorem dX12_behindTest_19 : decode cX12_behindTest 19 = .ok (.ifCond .eq 57, 3) := dgX12_behindTest_0 (19, (.ifCond .eq 57, 3)) (List.mem_of_getElem? (i := 9) rfl)
theorem dX12_behindTest_22 : decode cX12_behindTest 22 = .ok (.aload_n 0, 1) := dgX12_behindTest_0 (22, (.aload_n 0, 1)) (List.mem_of_getElem? (i := 10) rfl)
theorem dX12_behindTest_23 : decode cX12_behindTest 23 = .ok (.iload_n 1, 1) := dgX12_behindTest_0 (23, (.iload_n 1, 1)) (List.mem_of_getElem? (i := 11) rfl)
theorem dX12_behindTest_24 : decode cX12_behindTest 24 = .ok (.ifCond .eq 7, 3) := dgX12_behindTest_0 (24, (.ifCond .eq 7, 3)) (List.mem_of_getElem? (i := 12) rfl)
theorem dX12_behindTest_27 : decode cX12_behindTest 27 = .ok (.iconst 2, 1) := dgX12_behindTest_0 (27, (.iconst 2, 1)) (List.mem_of_getElem? (i := 13) rfl)
theorem dX12_behindTest_28 : decode cX12_behindTest 28 = .ok (.goto 4, 3) := dgX12_behindTest_0 (28, (.goto 4, 3)) (List.mem_of_getElem? (i := 14) rfl)
theorem dX12_behindTest_31 : decode cX12_behindTest 31 = .ok (.iconst 1, 1) := dgX12_behindTest_0 (31, (.iconst 1, 1)) (List.mem_of_getElem? (i := 15) rfl)
theorem dX12_behindTest_32 : decode cX12_behindTest 32 = .ok (.invokevirtual 288, 3) := dgX12_behindTest_0 (32, (.invokevirtual 288, 3)) (List.mem_of_getElem? (i := 16) rfl)
theorem dX12_behindTest_35 : decode cX12_behindTest 35 = .ok (.aload_n 0, 1) := dgX12_behindTest_0 (35, (.aload_n 0, 1)) (List.mem_of_getElem? (i := 17) rfl)
theorem dX12_behindTest_36 : decode cX12_behindTest 36 = .ok (.iload_n 1, 1) := dgX12_behindTest_0 (36, (.iload_n 1, 1)) (List.mem_of_getElem? (i := 18) rfl)
theorem dX12_behindTest_37 : decode cX12_behindTest 37 = .ok (.ifCond .eq 8, 3) := dgX12_behindTest_0 (37, (.ifCond .eq 8, 3)) (List.mem_of_getElem? (i := 19) rfl)
theorem dX12_behindTest_40 : decode cX12_behindTest 40 = .ok (.bipush 28, 2) := dgX12_behindTest_0 (40, (.bipush 28, 2)) (List.mem_of_getElem? (i := 20) rfl)
theorem dX12_behindTest_42 : decode cX12_behindTest 42 = .ok (.goto 5, 3) := dgX12_behindTest_0 (42, (.goto 5, 3)) (List.mem_of_getElem? (i := 21) rfl)
theorem dX12_behindTest_45 : decode cX12_behindTest 45 = .ok (.bipush 29, 2) := dgX12_behindTest_0 (45, (.bipush 29, 2)) (List.mem_of_getElem? (i := 22) rfl)
theorem dX12_behindTest_47 : decode cX12_behindTest 47 = .ok (.aload_n 0, 1) := dgX12_behindTest_0 (47, (.aload_n 0, 1)) (List.mem_of_getElem? (i := 23) rfl)
theorem dX12_behindTest_48 : decode cX12_behindTest 48 = .ok (.getfield 237, 3) := dgX12_behindTest_0 (48, (.getfield 237, 3)) (List.mem_of_getElem? (i := 24) rfl)
theorem dX12_behindTest_51 : decode cX12_behindTest 51 = .ok (.invokevirtual 261, 3) := dgX12_behindTest_0 (51, (.invokevirtual 261, 3)) (List.mem_of_getElem? (i := 25) rfl)
theorem dX12_behindTest_54 : decode cX12_behindTest 54 = .ok (.aload_n 0, 1) := dgX12_behindTest_0 (54, (.aload_n 0, 1)) (List.mem_of_getElem? (i := 26) rfl)
theorem dX12_behindTest_55 : decode cX12_behindTest 55 = .ok (.iload_n 1, 1) := dgX12_behindTest_0 (55, (.iload_n 1, 1)) (List.mem_of_getElem? (i := 27) rfl)
theorem dX12_behindTest_56 : decode cX12_behindTest 56 = .ok (.ifCond .eq 8, 3) := dgX12_behindTest_0 (56, (.ifCond .eq 8, 3)) (List.mem_of_getElem? (i := 28) rfl)
theorem dX12_behindTest_59 : decode cX12_behindTest 59 = .ok (.bipush 28, 2) := dgX12_behindTest_0 (59, (.bipush 28, 2)) (List.mem_of_getElem? (i := 29) rfl)
theorem dX12_behindTest_61 : decode cX12_behindTest 61 = .ok (.goto 5, 3) := dgX12_behindTest_0 (61, (.goto 5, 3)) (List.mem_of_getElem? (i := 30) rfl)
theorem dX12_behindTest_64 : decode cX12_behindTest 64 = .ok (.bipush 29, 2) := dgX12_behindTest_0 (64, (.bipush 29, 2)) (List.mem_of_getElem? (i := 31) rfl)
theorem dX12_behindTest_66 : decode cX12_behindTest 66 = .ok (.iconst 0, 1) := dgX12_behindTest_0 (66, (.iconst 0, 1)) (List.mem_of_getElem? (i := 32) rfl)
theorem dX12_behindTest_67 : decode cX12_behindTest 67 = .ok (.invokevirtual 246, 3) := dgX12_behindTest_0 (67, (.invokevirtual 246, 3)) (List.mem_of_getElem? (i := 33) rfl)
theorem dX12_behindTest_70 : decode cX12_behindTest 70 = .ok (.aload_n 0, 1) := dgX12_behindTest_0 (70, (.aload_n 0, 1)) (List.mem_of_getElem? (i := 34) rfl)
theorem dX12_behindTest_71 : decode cX12_behindTest 71 = .ok (.invokevirtual 208, 3) := dgX12_behindTest_0 (71, (.invokevirtual 208, 3)) (List.mem_of_getElem? (i := 35) rfl)
theorem dX12_behindTest_74 : decode cX12_behindTest 74 = .ok (.iconst 0, 1) := dgX12_behindTest_0 (74, (.iconst 0, 1)) (List.mem_of_getElem? (i := 36) rfl)
theorem dX12_behindTest_75 : decode cX12_behindTest 75 = .ok (.ireturn, 1) := dgX12_behindTest_0 (75, (.ireturn, 1)) (List.mem_of_getElem? (i := 37) rfl)
theorem dX12_behindTest_76 : decode cX12_behindTest 76 = .ok (.aload_n 0, 1) := dgX12_behindTest_0 (76, (.aload_n 0, 1)) (List.mem_of_getElem? (i := 38) rfl)
theorem dX12_behindTest_77 : decode cX12_behindTest 77 = .ok (.invokevirtual 291, 3) := dgX12_behindTest_0 (77, (.invokevirtual 291, 3)) (List.mem_of_getElem? (i := 39) rfl)
theorem dgX12_behindTest_1 : ∀ r ∈ ([(80, (.iconst (-1), 1)), (81, (.if_icmp .ne 5, 3)), (84, (.iconst 4, 1)), (85, (.ireturn, 1)), (86, (.aload_n 0, 1)), (87, (.aload_n 0, 1)), (88, (.bipush 41, 2)), (90, (.invokevirtual 267, 3)), (93, (.invokevirtual 233, 3)), (96, (.aload_n 0, 1)), (97, (.getfield 205, 3)), (100, (.ifCond .ne 28, 3)), (103, (.aload_n 0, 1)), (104, (.iconst 1, 1)), (105, (.invokevirtual 288, 3)), (108, (.aload_n 0, 1)), (109, (.dup, 1)), (110, (.getfield 240, 3)), (113, (.iconst 1, 1)), (114, (.isub, 1)), (115, (.putfield 240, 3)), (118, (.aload_n 0, 1)), (119, (.dup, 1)), (120, (.getfield 258, 3)), (123, (.iconst 1, 1)), (124, (.isub, 1)), (125, (.putfield 258, 3)), (128, (.iconst 2, 1)), (129, (.ireturn, 1))] : List (Nat × (Instr × Nat))), decode cX12_behindTest r.1 = .ok r.2 := by decide +kernel
theorem dX12_behindTest_80 : decode cX12_behindTest 80 = .ok (.iconst (-1), 1) := dgX12_behindTest_1 (80, (.iconst (-1), 1)) (List.mem_of_getElem? (i := 0) rfl)
theorem dX12_behindTest_81 : decode cX12_behindTest 81 = .ok (.if_icmp .ne 5, 3) := dgX12_behindTest_1 (81, (.if_icmp .ne 5, 3)) (List.mem_of_getElem? (i := 1) rfl)
theorem dX12_behindTest_84 : decode cX12_behindTest 84 = .ok (.iconst 4, 1) := dgX12_behindTest_1 (84, (.iconst 4, 1)) (List.mem_of_getElem? (i := 2) rfl)
theorem dX12_behindTest_85 : decode cX12_behindTest 85 = .ok (.ireturn, 1) := dgX12_behindTest_1 (85, (.ireturn, 1)) (List.mem_of_getElem? (i := 3) rfl)
theorem dX12_behindTest_86 : decode cX12_behindTest 86 = .ok (.aload_n 0, 1) := dgX12_behindTest_1 (86, (.aload_n 0, 1)) (List.mem_of_getElem? (i := 4) rfl)
theorem dX12_behindTest_87 : decode cX12_behindTest 87 = .ok (.aload_n 0, 1) := dgX12_behindTest_1 (87, (.aload_n 0, 1)) (List.mem_of_getElem? (i := 5) rfl)
theorem dX12_behindTest_88 : decode cX12_behindTest 88 = .ok (.bipush 41, 2) := dgX12_behindTest_1 (88, (.bipush 41, 2)) (List.mem_of_getElem? (i := 6) rfl)
theorem dX12_behindTest_90 : decode cX12_behindTest 90 = .ok (.invokevirtual 267, 3) := dgX12_behindTest_1 (90, (.invokevirtual 267, 3)) (List.mem_of_getElem? (i := 7) rfl)
theorem dX12_behindTest_93 : decode cX12_behindTest 93 = .ok (.invokevirtual 233, 3) := dgX12_behindTest_1 (93, (.invokevirtual 233, 3)) (List.mem_of_getElem? (i := 8) rfl)
theorem dX12_behindTest_96 : decode cX12_behindTest 96 = .ok (.aload_n 0, 1) := dgX12_behindTest_1 (96, (.aload_n 0, 1)) (List.mem_of_getElem? (i := 9) rfl)
theorem dX12_behindTest_97 : decode cX12_behindTest 97 = .ok (.getfield 205, 3) := dgX12_behindTest_1 (97, (.getfield 205, 3)) (List.mem_of_getElem? (i := 10) rfl)
theorem dX12_behindTest_100 : decode cX12_behindTest 100 = .ok (.ifCond .ne 28, 3) := dgX12_behindTest_1 (100, (.ifCond .ne 28, 3)) (List.mem_of_getElem? (i := 11) rfl)
theorem dX12_behindTest_103 : decode cX12_behindTest 103 = .ok (.aload_n 0, 1) := dgX12_behindTest_1 (103, (.aload_n 0, 1)) (List.mem_of_getElem? (i := 12) rfl)
theorem dX12_behindTest_104 : decode cX12_behindTest 104 = .ok (.iconst 1, 1) := dgX12_behindTest_1 (104, (.iconst 1, 1)) (List.mem_of_getElem? (i := 13) rfl)
theorem dX12_behindTest_105 : decode cX12_behindTest 105 = .ok (.invokevirtual 288, 3) := dgX12_behindTest_1 (105, (.invokevirtual 288, 3)) (List.mem_of_getElem? (i := 14) rfl)
theorem dX12_behindTest_108 : decode cX12_behindTest 108 = .ok (.aload_n 0, 1) := dgX12_behindTest_1 (108, (.aload_n 0, 1)) (List.mem_of_getElem? (i := 15) rfl)
theorem dX12_behindTest_109 : decode cX12_behindTest 109 = .ok (.dup, 1) := dgX12_behindTest_1 (109, (.dup, 1)) (List.mem_of_getElem? (i := 16) rfl)
theorem dX12_behindTest_110 : decode cX12_behindTest 110 = .ok (.getfield 240, 3) := dgX12_behindTest_1 (110, (.getfield 240, 3)) (List.mem_of_getElem? (i := 17) rfl)
theorem dX12_behindTest_113 : decode cX12_behindTest 113 = .ok (.iconst 1, 1) := dgX12_behindTest_1 (113, (.iconst 1, 1)) (List.mem_of_getElem? (i := 18) rfl)
theorem dX12_behindTest_114 : decode cX12_behindTest 114 = .ok (.isub, 1) := dgX12_behindTest_1 (114, (.isub, 1)) (List.mem_of_getElem? (i := 19) rfl)
theorem dX12_behindTest_115 : decode cX12_behindTest 115 = .ok (.putfield 240, 3) := dgX12_behindTest_1 (115, (.putfield 240, 3)) (List.mem_of_getElem? (i := 20) rfl)
theorem dX12_behindTest_118 : decode cX12_behindTest 118 = .ok (.aload_n 0, 1) := dgX12_behindTest_1 (118, (.aload_n 0, 1)) (List.mem_of_getElem? (i := 21) rfl)
theorem dX12_behindTest_119 : decode cX12_behindTest 119 = .ok (.dup, 1) := dgX12_behindTest_1 (119, (.dup, 1)) (List.mem_of_getElem? (i := 22) rfl)
theorem dX12_behindTest_120 : decode cX12_behindTest 120 = .ok (.getfield 258, 3) := dgX12_behindTest_1 (120, (.getfield 258, 3)) (List.mem_of_getElem? (i := 23) rfl)
theorem dX12_behindTest_123 : decode cX12_behindTest 123 = .ok (.iconst 1, 1) := dgX12_behindTest_1 (123, (.iconst 1, 1)) (List.mem_of_getElem? (i := 24) rfl)
theorem dX12_behindTest_124 : decode cX12_behindTest 124 = .ok (.isub, 1) := dgX12_behindTest_1 (124, (.isub, 1)) (List.mem_of_getElem? (i := 25) rfl)
theorem dX12_behindTest_125 : decode cX12_behindTest 125 = .ok (.putfield 258, 3) := dgX12_behindTest_1 (125, (.putfield 258, 3)) (List.mem_of_getElem? (i := 26) rfl)
theorem dX12_behindTest_128 : decode cX12_behindTest 128 = .ok (.iconst 2, 1) := dgX12_behindTest_1 (128, (.iconst 2, 1)) (List.mem_of_getElem? (i := 27) rfl)
theorem dX12_behindTest_129 : decode cX12_behindTest 129 = .ok (.ireturn, 1) := dgX12_behindTest_1 (129, (.ireturn, 1)) (List.mem_of_getElem? (i := 28) rfl)
theorem kl_X12_298 : Cond.constantLong RX12 298 1476 ∈ tblG := tg 1592 (by decide +kernel) (by decide +kernel)
theorem kl_X12_300 : Cond.constantLong RX12 300 498 ∈ tblG := tg 1593 (by decide +kernel) (by decide +kernel)
theorem dgX12_readExpression_0 : ∀ r ∈ ([(0, (.aload_n 0, 1)), (1, (.iconst 0, 1)), (2, (.putfield 240, 3)), (5, (.aload_n 0, 1)), (6, (.iconst 0, 1)), (7, (.putfield 258, 3)), (10, (.iload_n 1, 1)), (11, (.ifCond .eq 7, 3)), (14, (.iconst 0, 1)), (15, (.goto 4, 3)), (18, (.iconst 1, 1)), (19, (.istore_n 2, 1)), (20, (.aload_n 0, 1)), (21, (.getfield 205, 3)), (24, (.ifCond .ne 52, 3)), (27, (.iload_n 2, 1)), (28, (.iconst 4, 1)), (29, (.if_icmp .eq 47, 3)), (32, (.iload_n 2, 1)), (33, (.ifCond .ne 10, 3)), (36, (.aload_n 0, 1)), (37, (.invokevirtual 302, 3)), (40, (.goto 32, 3)), (43, (.iload_n 2, 1)), (44, (.iconst 1, 1)), (45, (.if_icmp .ne 10, 3)), (48, (.aload_n 0, 1)), (49, (.invokevirtual 285, 3)), (52, (.goto 20, 3)), (55, (.iload_n 2, 1)), (56, (.iconst 3, 1)), (57, (.if_icmp .ne 11, 3)), (60, (.aload_n 0, 1)), (61, (.iload_n 1, 1)), (62, (.invokevirtual 305, 3)), (65, (.goto 7, 3)), (68, (.aload_n 0, 1)), (69, (.invokevirtual 309, 3)), (72, (.istore_n 2, 1)), (73, (.goto (-53), 3))] : List (Nat × (Instr × Nat))), decode cX12_readExpression r.1 = .ok r.2 := by decide +kernel
theorem dX12_readExpression_0 : decode cX12_readExpression 0 = .ok (.aload_n 0, 1) := dgX12_readExpression_0 (0, (.aload_n 0, 1)) (List.mem_of_getElem? (i := 0) rfl)
theorem dX12_readExpression_1 : decode cX12_readExpression 1 = .ok (.iconst 0, 1) := dgX12_readExpression_0 (1, (.iconst 0, 1)) (List.mem_of_getElem? (i := 1) rfl)
theorem dX12_readExpression_2 : decode cX12_readExpression 2 = .ok (.putfield 240, 3) := dgX12_readExpression_0 (2, (.putfield 240, 3)) (List.mem_of_getElem? (i := 2) rfl)
theorem dX12_readExpression_5 : decode cX12_readExpression 5 = .ok (.aload_n 0, 1) := dgX12_readExpression_0 (5, (.aload_n 0, 1)) (List.mem_of_getElem? (i := 3) rfl)
theorem dX12_readExpression_6 : decode cX12_readExpression 6 = .ok (.iconst 0, 1) := dgX12_readExpression_0 (6, (.iconst 0, 1)) (List.mem_of_getElem? (i := 4) rfl)
theorem dX12_readExpression_7 : decode cX12_readExpression 7 = .ok (.putfield 258, 3) := dgX12_readExpression_0 (7, (.putfield 258, 3)) (List.mem_of_getElem? (i := 5) rfl)
theorem dX12_readExpression_10 : decode cX12_readExpression 10 = .ok (.iload_n 1, 1) := dgX12_readExpression_0 (10, (.iload_n 1, 1)) (List.mem_of_getElem? (i := 6) rfl)
theorem dX12_readExpression_11 : decode cX12_readExpression 11 = .ok (.ifCond .eq 7, 3) := dgX12_readExpression_0 (11, (.ifCond .eq 7, 3)) (List.mem_of_getElem? (i := 7) rfl)
theorem dX12_readExpression_14 : decode cX12_readExpression 14 = .ok (.iconst 0, 1) := dgX12_readExpression_0 (14, (.iconst 0, 1)) (List.mem_of_getElem? (i := 8) rfl)
theorem dX12_readExpression_15 : decode cX12_readExpression 15 = .ok (.goto 4, 3) := dgX12_readExpression_0 (15, (.goto 4, 3)) (List.mem_of_getElem? (i := 9) rfl)
theorem dX12_readExpression_18 : decode cX12_readExpression 18 = .ok (.iconst 1, 1) := dgX12_readExpression_0 (18, (.iconst 1, 1)) (List.mem_of_getElem? (i := 10) rfl)
theorem dX12_readExpression_19 : decode cX12_readExpression 19 = .ok (.istore_n 2, 1) := dgX12_readExpression_0 (19, (.istore_n 2, 1)) (List.mem_of_getElem? (i := 11) rfl)
theorem dX12_readExpression_20 : decode cX12_readExpression 20 = .ok (.aload_n 0, 1) := dgX12_readExpression_0 (20, (.aload_n 0, 1)) (List.mem_of_getElem? (i := 12) rfl)
theorem dX12_readExpression_21 : decode cX12_readExpression 21 = .ok (.getfield 205, 3) := dgX12_readExpression_0 (21, (.getfield 205, 3)) (List.mem_of_getElem? (i := 13) rfl)
theorem dX12_readExpression_24 : decode cX12_readExpression 24 = .ok (.ifCond .ne 52, 3) := dgX12_readExpression_0 (24, (.ifCond .ne 52, 3)) (List.mem_of_getElem? (i := 14) rfl)
theorem dX12_readExpression_27 : decode cX12_readExpression 27 = .ok (.iload_n 2, 1) := dgX12_readExpression_0 (27, (.iload_n 2, 1)) (List.mem_of_getElem? (i := 15) rfl)
theorem dX12_readExpression_28 : decode cX12_readExpression 28 = .ok (.iconst 4, 1) := dgX12_readExpression_0 (28, (.iconst 4, 1)) (List.mem_of_getElem? (i := 16) rfl)
theorem dX12_readExpression_29 : decode cX12_readExpression 29 = .ok (.if_icmp .eq 47, 3) := dgX12_readExpression_0 (29, (.if_icmp .eq 47, 3)) (List.mem_of_getElem? (i := 17) rfl)
theorem dX12_readExpression_32 : decode cX12_readExpression 32 = .ok (.iload_n 2, 1) := dgX12_readExpression_0 (32, (.iload_n 2, 1)) (List.mem_of_getElem? (i := 18) rfl)
theorem dX12_readExpression_33 : decode cX12_readExpression 33 = .ok (.ifCond .ne 10, 3) := dgX12_readExpression_0 (33, (.ifCond .ne 10, 3)) (List.mem_of_getElem? (i := 19) rfl)
theorem dX12_readExpression_36 : decode cX12_readExpression 36 = .ok (.aload_n 0, 1) := dgX12_readExpression_0 (36, (.aload_n 0, 1)) (List.mem_of_getElem? (i := 20) rfl)
theorem dX12_readExpression_37 : decode cX12_readExpression 37 = .ok (.invokevirtual 302, 3) := dgX12_readExpression_0 (37, (.invokevirtual 302, 3)) (List.mem_of_getElem? (i := 21) rfl)
theorem dX12_readExpression_40 : decode cX12_readExpression 40 = .ok (.goto 32, 3) := dgX12_readExpression_0 (40, (.goto 32, 3)) (List.mem_of_getElem? (i := 22) rfl)
theorem dX12_readExpression_43 : decode cX12_readExpression 43 = .ok (.iload_n 2, 1) := dgX12_readExpression_0 (43, (.iload_n 2, 1)) (List.mem_of_getElem? (i := 23) rfl)
theorem dX12_readExpression_44 : decode cX12_readExpression 44 = .ok (.iconst 1, 1) := dgX12_readExpression_0 (44, (.iconst 1, 1)) (List.mem_of_getElem? (i := 24) rfl)
theorem dX12_readExpression_45 : decode cX12_readExpression 45 = .ok (.if_icmp .ne 10, 3) := dgX12_readExpression_0 (45, (.if_icmp .ne 10, 3)) (List.mem_of_getElem? (i := 25) rfl)
theorem dX12_readExpression_48 : decode cX12_readExpression 48 = .ok (.aload_n 0, 1) := dgX12_readExpression_0 (48, (.aload_n 0, 1)) (List.mem_of_getElem? (i := 26) rfl)
theorem dX12_readExpression_49 : decode cX12_readExpression 49 = .ok (.invokevirtual 285, 3) := dgX12_readExpression_0 (49, (.invokevirtual 285, 3)) (List.mem_of_getElem? (i := 27) rfl)
theorem dX12_readExpression_52 : decode cX12_readExpression 52 = .ok (.goto 20, 3) := dgX12_readExpression_0 (52, (.goto 20, 3)) (List.mem_of_getElem? (i := 28) rfl)
theorem dX12_readExpression_55 : decode cX12_readExpression 55 = .ok (.iload_n 2, 1) := dgX12_readExpression_0 (55, (.iload_n 2, 1)) (List.mem_of_getElem? (i := 29) rfl)
theorem dX12_readExpression_56 : decode cX12_readExpression 56 = .ok (.iconst 3, 1) := dgX12_readExpression_0 (56, (.iconst 3, 1)) (List.mem_of_getElem? (i := 30) rfl)
theorem dX12_readExpression_57 : decode cX12_readExpression 57 = .ok (.if_icmp .ne 11, 3) := dgX12_readExpression_0 (57, (.if_icmp .ne 11, 3)) (List.mem_of_getElem? (i := 31) rfl)
theorem dX12_readExpression_60 : decode cX12_readExpression 60 = .ok (.aload_n 0, 1) := dgX12_readExpression_0 (60, (.aload_n 0, 1)) (List.mem_of_getElem? (i := 32) rfl)
theorem dX12_readExpression_61 : decode cX12_readExpression 61 = .ok (.iload_n 1, 1) := dgX12_readExpression_0 (61, (.iload_n 1, 1)) (List.mem_of_getElem? (i := 33) rfl)
theorem dX12_readExpression_62 : decode cX12_readExpression 62 = .ok (.invokevirtual 305, 3) := dgX12_readExpression_0 (62, (.invokevirtual 305, 3)) (List.mem_of_getElem? (i := 34) rfl)
theorem dX12_readExpression_65 : decode cX12_readExpression 65 = .ok (.goto 7, 3) := dgX12_readExpression_0 (65, (.goto 7, 3)) (List.mem_of_getElem? (i := 35) rfl)
theorem dX12_readExpression_68 : decode cX12_readExpression 68 = .ok (.aload_n 0, 1) := dgX12_readExpression_0 (68, (.aload_n 0, 1)) (List.mem_of_getElem? (i := 36) rfl)
theorem dX12_readExpression_69 : decode cX12_readExpression 69 = .ok (.invokevirtual 309, 3) := dgX12_readExpression_0 (69, (.invokevirtual 309, 3)) (List.mem_of_getElem? (i := 37) rfl)
theorem dX12_readExpression_72 : decode cX12_readExpression 72 = .ok (.istore_n 2, 1) := dgX12_readExpression_0 (72, (.istore_n 2, 1)) (List.mem_of_getElem? (i := 38) rfl)
theorem dX12_readExpression_73 : decode cX12_readExpression 73 = .ok (.goto (-53), 3) := dgX12_readExpression_0 (73, (.goto (-53), 3)) (List.mem_of_getElem? (i := 39) rfl)
theorem dgX12_readExpression_1 : ∀ r ∈ ([(76, (.aload_n 0, 1)), (77, (.iconst 1, 1)), (78, (.invokevirtual 288, 3)), (81, (.return_, 1))] : List (Nat × (Instr × Nat))), decode cX12_readExpression r.1 = .ok r.2 := by decide +kernel
theorem dX12_readExpression_76 : decode cX12_readExpression 76 = .ok (.aload_n 0, 1) := dgX12_readExpression_1 (76, (.aload_n 0, 1)) (List.mem_of_getElem? (i := 0) rfl)
theorem dX12_readExpression_77 : decode cX12_readExpression 77 = .ok (.iconst 1, 1) := dgX12_readExpression_1 (77, (.iconst 1, 1)) (List.mem_of_getElem? (i := 1) rfl)
theorem dX12_readExpression_78 : decode cX12_readExpression 78 = .ok (.invokevirtual 288, 3) := dgX12_readExpression_1 (78, (.invokevirtual 288, 3)) (List.mem_of_getElem? (i := 2) rfl)
theorem dX12_readExpression_81 : decode cX12_readExpression 81 = .ok (.return_, 1) := dgX12_readExpression_1 (81, (.return_, 1)) (List.mem_of_getElem? (i := 3) rfl)
theorem ml_X12_309 : Cond.methodLink RX12 309 yX12_behindTest ∈ tblG := tg 1588 (by decide +kernel) (by decide +kernel)
theorem im_X12_behindTest : Cond.instanceMethod yX12_behindTest ∈ tblG := tg 1590 (by decide +kernel) (by decide +kernel)
theorem se_X12_behindTest : Cond.selects RX12 yX12_behindTest yX12_behindTest ∈ tblG := tg 61 (by decide +kernel) (by decide +kernel)
theorem cd_X12_behindTest : Cond.code yX12_behindTest cX12_behindTest 2 (some .int) ∈ tblG := tg 1591 (by decide +kernel) (by decide +kernel)
theorem gW_X12_behindTest : GoodIn tblG (wsG yX12_behindTest cX12_behindTest 2 (some .int)) := tgi cd_X12_behindTest
theorem gV_X12_309 : GoodIn tblG (wsV RX12 309 RX12 yX12_behindTest (wsG yX12_behindTest cX12_behindTest 2 (some .int))) := tgV ml_X12_309 im_X12_behindTest se_X12_behindTest ini_X12 gW_X12_behindTest
theorem hv_X12_behindTest : yX12_behindTest.cls = RX12 ∧ yX12_behindTest.cls ≠ "java/lang/invoke/MethodHandle" ∧ yX12_behindTest.cls ≠ "java/lang/invoke/VarHandle" ∧ (parseMethodDescriptor yX12_behindTest.desc).map (fun d => d.parameters.length) = some 0 := by decide +kernel
theorem ml_X12_305 : Cond.methodLink RX12 305 yX12_behindSum ∈ tblG := tg 1567 (by decide +kernel) (by decide +kernel)
theorem im_X12_behindSum : Cond.instanceMethod yX12_behindSum ∈ tblG := tg 1569 (by decide +kernel) (by decide +kernel)
theorem se_X12_behindSum : Cond.selects RX12 yX12_behindSum yX12_behindSum ∈ tblG := tg 57 (by decide +kernel) (by decide +kernel)
theorem cd_X12_behindSum : Cond.code yX12_behindSum cX12_behindSum 4 (some .int) ∈ tblG := tg 1570 (by decide +kernel) (by decide +kernel)
theorem gW_X12_behindSum : GoodIn tblG (wsG yX12_behindSum cX12_behindSum 4 (some .int)) := tgi cd_X12_behindSum
theorem gV_X12_305 : GoodIn tblG (wsV RX12 305 RX12 yX12_behindSum (wsG yX12_behindSum cX12_behindSum 4 (some .int))) := tgV ml_X12_305 im_X12_behindSum se_X12_behindSum ini_X12 gW_X12_behindSum
theorem hv_X12_behindSum : yX12_behindSum.cls = RX12 ∧ yX12_behindSum.cls ≠ "java/lang/invoke/MethodHandle" ∧ yX12_behindSum.cls ≠ "java/lang/invoke/VarHandle" ∧ (parseMethodDescriptor yX12_behindSum.desc).map (fun d => d.parameters.length) = some 1 := by decide +kernel
theorem ml_X12_302 : Cond.methodLink RX12 302 yX12_readPlain ∈ tblG := tg 1533 (by decide +kernel) (by decide +kernel)
theorem im_X12_readPlain : Cond.instanceMethod yX12_readPlain ∈ tblG := tg 1535 (by decide +kernel) (by decide +kernel)
theorem se_X12_readPlain : Cond.selects RX12 yX12_readPlain yX12_readPlain ∈ tblG := tg 49 (by decide +kernel) (by decide +kernel)
theorem cd_X12_readPlain : Cond.code yX12_readPlain cX12_readPlain 1 (some .int) ∈ tblG := tg 1536 (by decide +kernel) (by decide +kernel)
theorem gW_X12_readPlain : GoodIn tblG (wsG yX12_readPlain cX12_readPlain 1 (some .int)) := tgi cd_X12_readPlain
theorem gV_X12_302 : GoodIn tblG (wsV RX12 302 RX12 yX12_readPlain (wsG yX12_readPlain cX12_readPlain 1 (some .int))) := tgV ml_X12_302 im_X12_readPlain se_X12_readPlain ini_X12 gW_X12_readPlain
theorem hv_X12_readPlain : yX12_readPlain.cls = RX12 ∧ yX12_readPlain.cls ≠ "java/lang/invoke/MethodHandle" ∧ yX12_readPlain.cls ≠ "java/lang/invoke/VarHandle" ∧ (parseMethodDescriptor yX12_readPlain.desc).map (fun d => d.parameters.length) = some 0 := by decide +kernel
theorem dgX12_readClause_0 : ∀ r ∈ ([(0, (.iconst (-1), 1)), (1, (.istore_n 1, 1)), (2, (.iconst 0, 1)), (3, (.istore_n 2, 1)), (4, (.iload_n 2, 1)), (5, (.iconst 4, 1)), (6, (.if_icmp .ge 28, 3)), (9, (.aload_n 0, 1)), (10, (.aload_n 0, 1)), (11, (.getfield 73, 3)), (14, (.iload_n 2, 1)), (15, (.laload, 1)), (16, (.invokevirtual 254, 3)), (19, (.ifCond .eq 7, 3)), (22, (.iload_n 2, 1)), (23, (.goto 4, 3)), (26, (.iload_n 1, 1)), (27, (.istore_n 1, 1)), (28, (.iinc 2 1, 3)), (31, (.goto (-27), 3)), (34, (.aload_n 0, 1)), (35, (.iload_n 1, 1)), (36, (.iconst (-1), 1)), (37, (.if_icmp .eq 16, 3)), (40, (.aload_n 0, 1)), (41, (.getfield 312, 3)), (44, (.bipush 12, 2)), (46, (.if_icmp .ge 7, 3)), (49, (.iconst 1, 1)), (50, (.goto 4, 3)), (53, (.iconst 0, 1)), (54, (.invokevirtual 233, 3)), (57, (.aload_n 0, 1)), (58, (.getfield 205, 3)), (61, (.ifCond .eq 4, 3)), (64, (.return_, 1)), (65, (.bipush 8, 2)), (67, (.aload_n 0, 1)), (68, (.getfield 312, 3)), (71, (.imul, 1))] : List (Nat × (Instr × Nat))), decode cX12_readClause r.1 = .ok r.2 := by decide +kernel
theorem dX12_readClause_0 : decode cX12_readClause 0 = .ok (.iconst (-1), 1) := dgX12_readClause_0 (0, (.iconst (-1), 1)) (List.mem_of_getElem? (i := 0) rfl)
theorem dX12_readClause_1 : decode cX12_readClause 1 = .ok (.istore_n 1, 1) := dgX12_readClause_0 (1, (.istore_n 1, 1)) (List.mem_of_getElem? (i := 1) rfl)
theorem dX12_readClause_2 : decode cX12_readClause 2 = .ok (.iconst 0, 1) := dgX12_readClause_0 (2, (.iconst 0, 1)) (List.mem_of_getElem? (i := 2) rfl)
theorem dX12_readClause_3 : decode cX12_readClause 3 = .ok (.istore_n 2, 1) := dgX12_readClause_0 (3, (.istore_n 2, 1)) (List.mem_of_getElem? (i := 3) rfl)
theorem dX12_readClause_4 : decode cX12_readClause 4 = .ok (.iload_n 2, 1) := dgX12_readClause_0 (4, (.iload_n 2, 1)) (List.mem_of_getElem? (i := 4) rfl)
theorem dX12_readClause_5 : decode cX12_readClause 5 = .ok (.iconst 4, 1) := dgX12_readClause_0 (5, (.iconst 4, 1)) (List.mem_of_getElem? (i := 5) rfl)
theorem dX12_readClause_6 : decode cX12_readClause 6 = .ok (.if_icmp .ge 28, 3) := dgX12_readClause_0 (6, (.if_icmp .ge 28, 3)) (List.mem_of_getElem? (i := 6) rfl)
theorem dX12_readClause_9 : decode cX12_readClause 9 = .ok (.aload_n 0, 1) := dgX12_readClause_0 (9, (.aload_n 0, 1)) (List.mem_of_getElem? (i := 7) rfl)
theorem dX12_readClause_10 : decode cX12_readClause 10 = .ok (.aload_n 0, 1) := dgX12_readClause_0 (10, (.aload_n 0, 1)) (List.mem_of_getElem? (i := 8) rfl)
theorem dX12_readClause_11 : decode cX12_readClause 11 = .ok (.getfield 73, 3) := dgX12_readClause_0 (11, (.getfield 73, 3)) (List.mem_of_getElem? (i := 9) rfl)
theorem dX12_readClause_14 : decode cX12_readClause 14 = .ok (.iload_n 2, 1) := dgX12_readClause_0 (14, (.iload_n 2, 1)) (List.mem_of_getElem? (i := 10) rfl)
theorem dX12_readClause_15 : decode cX12_readClause 15 = .ok (.laload, 1) := dgX12_readClause_0 (15, (.laload, 1)) (List.mem_of_getElem? (i := 11) rfl)
theorem dX12_readClause_16 : decode cX12_readClause 16 = .ok (.invokevirtual 254, 3) := dgX12_readClause_0 (16, (.invokevirtual 254, 3)) (List.mem_of_getElem? (i := 12) rfl)
theorem dX12_readClause_19 : decode cX12_readClause 19 = .ok (.ifCond .eq 7, 3) := dgX12_readClause_0 (19, (.ifCond .eq 7, 3)) (List.mem_of_getElem? (i := 13) rfl)
theorem dX12_readClause_22 : decode cX12_readClause 22 = .ok (.iload_n 2, 1) := dgX12_readClause_0 (22, (.iload_n 2, 1)) (List.mem_of_getElem? (i := 14) rfl)
theorem dX12_readClause_23 : decode cX12_readClause 23 = .ok (.goto 4, 3) := dgX12_readClause_0 (23, (.goto 4, 3)) (List.mem_of_getElem? (i := 15) rfl)
theorem dX12_readClause_26 : decode cX12_readClause 26 = .ok (.iload_n 1, 1) := dgX12_readClause_0 (26, (.iload_n 1, 1)) (List.mem_of_getElem? (i := 16) rfl)
theorem dX12_readClause_27 : decode cX12_readClause 27 = .ok (.istore_n 1, 1) := dgX12_readClause_0 (27, (.istore_n 1, 1)) (List.mem_of_getElem? (i := 17) rfl)
theorem dX12_readClause_28 : decode cX12_readClause 28 = .ok (.iinc 2 1, 3) := dgX12_readClause_0 (28, (.iinc 2 1, 3)) (List.mem_of_getElem? (i := 18) rfl)
theorem dX12_readClause_31 : decode cX12_readClause 31 = .ok (.goto (-27), 3) := dgX12_readClause_0 (31, (.goto (-27), 3)) (List.mem_of_getElem? (i := 19) rfl)
theorem dX12_readClause_34 : decode cX12_readClause 34 = .ok (.aload_n 0, 1) := dgX12_readClause_0 (34, (.aload_n 0, 1)) (List.mem_of_getElem? (i := 20) rfl)
theorem dX12_readClause_35 : decode cX12_readClause 35 = .ok (.iload_n 1, 1) := dgX12_readClause_0 (35, (.iload_n 1, 1)) (List.mem_of_getElem? (i := 21) rfl)
theorem dX12_readClause_36 : decode cX12_readClause 36 = .ok (.iconst (-1), 1) := dgX12_readClause_0 (36, (.iconst (-1), 1)) (List.mem_of_getElem? (i := 22) rfl)
theorem dX12_readClause_37 : decode cX12_readClause 37 = .ok (.if_icmp .eq 16, 3) := dgX12_readClause_0 (37, (.if_icmp .eq 16, 3)) (List.mem_of_getElem? (i := 23) rfl)
theorem dX12_readClause_40 : decode cX12_readClause 40 = .ok (.aload_n 0, 1) := dgX12_readClause_0 (40, (.aload_n 0, 1)) (List.mem_of_getElem? (i := 24) rfl)
theorem dX12_readClause_41 : decode cX12_readClause 41 = .ok (.getfield 312, 3) := dgX12_readClause_0 (41, (.getfield 312, 3)) (List.mem_of_getElem? (i := 25) rfl)
theorem dX12_readClause_44 : decode cX12_readClause 44 = .ok (.bipush 12, 2) := dgX12_readClause_0 (44, (.bipush 12, 2)) (List.mem_of_getElem? (i := 26) rfl)
theorem dX12_readClause_46 : decode cX12_readClause 46 = .ok (.if_icmp .ge 7, 3) := dgX12_readClause_0 (46, (.if_icmp .ge 7, 3)) (List.mem_of_getElem? (i := 27) rfl)
theorem dX12_readClause_49 : decode cX12_readClause 49 = .ok (.iconst 1, 1) := dgX12_readClause_0 (49, (.iconst 1, 1)) (List.mem_of_getElem? (i := 28) rfl)
theorem dX12_readClause_50 : decode cX12_readClause 50 = .ok (.goto 4, 3) := dgX12_readClause_0 (50, (.goto 4, 3)) (List.mem_of_getElem? (i := 29) rfl)
theorem dX12_readClause_53 : decode cX12_readClause 53 = .ok (.iconst 0, 1) := dgX12_readClause_0 (53, (.iconst 0, 1)) (List.mem_of_getElem? (i := 30) rfl)
theorem dX12_readClause_54 : decode cX12_readClause 54 = .ok (.invokevirtual 233, 3) := dgX12_readClause_0 (54, (.invokevirtual 233, 3)) (List.mem_of_getElem? (i := 31) rfl)
theorem dX12_readClause_57 : decode cX12_readClause 57 = .ok (.aload_n 0, 1) := dgX12_readClause_0 (57, (.aload_n 0, 1)) (List.mem_of_getElem? (i := 32) rfl)
theorem dX12_readClause_58 : decode cX12_readClause 58 = .ok (.getfield 205, 3) := dgX12_readClause_0 (58, (.getfield 205, 3)) (List.mem_of_getElem? (i := 33) rfl)
theorem dX12_readClause_61 : decode cX12_readClause 61 = .ok (.ifCond .eq 4, 3) := dgX12_readClause_0 (61, (.ifCond .eq 4, 3)) (List.mem_of_getElem? (i := 34) rfl)
theorem dX12_readClause_64 : decode cX12_readClause 64 = .ok (.return_, 1) := dgX12_readClause_0 (64, (.return_, 1)) (List.mem_of_getElem? (i := 35) rfl)
theorem dX12_readClause_65 : decode cX12_readClause 65 = .ok (.bipush 8, 2) := dgX12_readClause_0 (65, (.bipush 8, 2)) (List.mem_of_getElem? (i := 36) rfl)
theorem dX12_readClause_67 : decode cX12_readClause 67 = .ok (.aload_n 0, 1) := dgX12_readClause_0 (67, (.aload_n 0, 1)) (List.mem_of_getElem? (i := 37) rfl)
theorem dX12_readClause_68 : decode cX12_readClause 68 = .ok (.getfield 312, 3) := dgX12_readClause_0 (68, (.getfield 312, 3)) (List.mem_of_getElem? (i := 38) rfl)
theorem dX12_readClause_71 : decode cX12_readClause 71 = .ok (.imul, 1) := dgX12_readClause_0 (71, (.imul, 1)) (List.mem_of_getElem? (i := 39) rfl)
theorem dgX12_readClause_1 : ∀ r ∈ ([(72, (.istore_n 2, 1)), (73, (.iconst 0, 1)), (74, (.istore_n 3, 1)), (75, (.iload_n 3, 1)), (76, (.bipush 8, 2)), (78, (.if_icmp .ge 18, 3)), (81, (.aload_n 0, 1)), (82, (.getfield 30, 3)), (85, (.iload_n 2, 1)), (86, (.iload_n 3, 1)), (87, (.iadd, 1)), (88, (.iconst 0, 1)), (89, (.iastore, 1)), (90, (.iinc 3 1, 3)), (93, (.goto (-18), 3)), (96, (.aload_n 0, 1)), (97, (.getfield 30, 3)), (100, (.iload_n 2, 1)), (101, (.iload_n 1, 1)), (102, (.iastore, 1)), (103, (.aload_n 0, 1)), (104, (.dup, 1)), (105, (.getfield 312, 3)), (108, (.iconst 1, 1)), (109, (.iadd, 1)), (110, (.putfield 312, 3)), (113, (.aload_n 0, 1)), (114, (.getfield 30, 3)), (117, (.iload_n 2, 1)), (118, (.iconst 3, 1)), (119, (.iadd, 1)), (120, (.aload_n 0, 1)), (121, (.getfield 237, 3)), (124, (.iastore, 1)), (125, (.iload_n 1, 1)), (126, (.iconst 2, 1)), (127, (.if_icmp .ge 8, 3)), (130, (.aload_n 0, 1)), (131, (.iconst 0, 1)), (132, (.invokevirtual 315, 3))] : List (Nat × (Instr × Nat))), decode cX12_readClause r.1 = .ok r.2 := by decide +kernel
theorem dX12_readClause_72 : decode cX12_readClause 72 = .ok (.istore_n 2, 1) := dgX12_readClause_1 (72, (.istore_n 2, 1)) (List.mem_of_getElem? (i := 0) rfl)
theorem dX12_readClause_73 : decode cX12_readClause 73 = .ok (.iconst 0, 1) := dgX12_readClause_1 (73, (.iconst 0, 1)) (List.mem_of_getElem? (i := 1) rfl)
theorem dX12_readClause_74 : decode cX12_readClause 74 = .ok (.istore_n 3, 1) := dgX12_readClause_1 (74, (.istore_n 3, 1)) (List.mem_of_getElem? (i := 2) rfl)
theorem dX12_readClause_75 : decode cX12_readClause 75 = .ok (.iload_n 3, 1) := dgX12_readClause_1 (75, (.iload_n 3, 1)) (List.mem_of_getElem? (i := 3) rfl)
theorem dX12_readClause_76 : decode cX12_readClause 76 = .ok (.bipush 8, 2) := dgX12_readClause_1 (76, (.bipush 8, 2)) (List.mem_of_getElem? (i := 4) rfl)
theorem dX12_readClause_78 : decode cX12_readClause 78 = .ok (.if_icmp .ge 18, 3) := dgX12_readClause_1 (78, (.if_icmp .ge 18, 3)) (List.mem_of_getElem? (i := 5) rfl)
theorem dX12_readClause_81 : decode cX12_readClause 81 = .ok (.aload_n 0, 1) := dgX12_readClause_1 (81, (.aload_n 0, 1)) (List.mem_of_getElem? (i := 6) rfl)
theorem dX12_readClause_82 : decode cX12_readClause 82 = .ok (.getfield 30, 3) := dgX12_readClause_1 (82, (.getfield 30, 3)) (List.mem_of_getElem? (i := 7) rfl)
theorem dX12_readClause_85 : decode cX12_readClause 85 = .ok (.iload_n 2, 1) := dgX12_readClause_1 (85, (.iload_n 2, 1)) (List.mem_of_getElem? (i := 8) rfl)
theorem dX12_readClause_86 : decode cX12_readClause 86 = .ok (.iload_n 3, 1) := dgX12_readClause_1 (86, (.iload_n 3, 1)) (List.mem_of_getElem? (i := 9) rfl)
theorem dX12_readClause_87 : decode cX12_readClause 87 = .ok (.iadd, 1) := dgX12_readClause_1 (87, (.iadd, 1)) (List.mem_of_getElem? (i := 10) rfl)
theorem dX12_readClause_88 : decode cX12_readClause 88 = .ok (.iconst 0, 1) := dgX12_readClause_1 (88, (.iconst 0, 1)) (List.mem_of_getElem? (i := 11) rfl)
theorem dX12_readClause_89 : decode cX12_readClause 89 = .ok (.iastore, 1) := dgX12_readClause_1 (89, (.iastore, 1)) (List.mem_of_getElem? (i := 12) rfl)
theorem dX12_readClause_90 : decode cX12_readClause 90 = .ok (.iinc 3 1, 3) := dgX12_readClause_1 (90, (.iinc 3 1, 3)) (List.mem_of_getElem? (i := 13) rfl)
theorem dX12_readClause_93 : decode cX12_readClause 93 = .ok (.goto (-18), 3) := dgX12_readClause_1 (93, (.goto (-18), 3)) (List.mem_of_getElem? (i := 14) rfl)
theorem dX12_readClause_96 : decode cX12_readClause 96 = .ok (.aload_n 0, 1) := dgX12_readClause_1 (96, (.aload_n 0, 1)) (List.mem_of_getElem? (i := 15) rfl)
theorem dX12_readClause_97 : decode cX12_readClause 97 = .ok (.getfield 30, 3) := dgX12_readClause_1 (97, (.getfield 30, 3)) (List.mem_of_getElem? (i := 16) rfl)
theorem dX12_readClause_100 : decode cX12_readClause 100 = .ok (.iload_n 2, 1) := dgX12_readClause_1 (100, (.iload_n 2, 1)) (List.mem_of_getElem? (i := 17) rfl)
theorem dX12_readClause_101 : decode cX12_readClause 101 = .ok (.iload_n 1, 1) := dgX12_readClause_1 (101, (.iload_n 1, 1)) (List.mem_of_getElem? (i := 18) rfl)
theorem dX12_readClause_102 : decode cX12_readClause 102 = .ok (.iastore, 1) := dgX12_readClause_1 (102, (.iastore, 1)) (List.mem_of_getElem? (i := 19) rfl)
theorem dX12_readClause_103 : decode cX12_readClause 103 = .ok (.aload_n 0, 1) := dgX12_readClause_1 (103, (.aload_n 0, 1)) (List.mem_of_getElem? (i := 20) rfl)
theorem dX12_readClause_104 : decode cX12_readClause 104 = .ok (.dup, 1) := dgX12_readClause_1 (104, (.dup, 1)) (List.mem_of_getElem? (i := 21) rfl)
theorem dX12_readClause_105 : decode cX12_readClause 105 = .ok (.getfield 312, 3) := dgX12_readClause_1 (105, (.getfield 312, 3)) (List.mem_of_getElem? (i := 22) rfl)
theorem dX12_readClause_108 : decode cX12_readClause 108 = .ok (.iconst 1, 1) := dgX12_readClause_1 (108, (.iconst 1, 1)) (List.mem_of_getElem? (i := 23) rfl)
theorem dX12_readClause_109 : decode cX12_readClause 109 = .ok (.iadd, 1) := dgX12_readClause_1 (109, (.iadd, 1)) (List.mem_of_getElem? (i := 24) rfl)
theorem dX12_readClause_110 : decode cX12_readClause 110 = .ok (.putfield 312, 3) := dgX12_readClause_1 (110, (.putfield 312, 3)) (List.mem_of_getElem? (i := 25) rfl)
theorem dX12_readClause_113 : decode cX12_readClause 113 = .ok (.aload_n 0, 1) := dgX12_readClause_1 (113, (.aload_n 0, 1)) (List.mem_of_getElem? (i := 26) rfl)
theorem dX12_readClause_114 : decode cX12_readClause 114 = .ok (.getfield 30, 3) := dgX12_readClause_1 (114, (.getfield 30, 3)) (List.mem_of_getElem? (i := 27) rfl)
theorem dX12_readClause_117 : decode cX12_readClause 117 = .ok (.iload_n 2, 1) := dgX12_readClause_1 (117, (.iload_n 2, 1)) (List.mem_of_getElem? (i := 28) rfl)
theorem dX12_readClause_118 : decode cX12_readClause 118 = .ok (.iconst 3, 1) := dgX12_readClause_1 (118, (.iconst 3, 1)) (List.mem_of_getElem? (i := 29) rfl)
theorem dX12_readClause_119 : decode cX12_readClause 119 = .ok (.iadd, 1) := dgX12_readClause_1 (119, (.iadd, 1)) (List.mem_of_getElem? (i := 30) rfl)
theorem dX12_readClause_120 : decode cX12_readClause 120 = .ok (.aload_n 0, 1) := dgX12_readClause_1 (120, (.aload_n 0, 1)) (List.mem_of_getElem? (i := 31) rfl)
theorem dX12_readClause_121 : decode cX12_readClause 121 = .ok (.getfield 237, 3) := dgX12_readClause_1 (121, (.getfield 237, 3)) (List.mem_of_getElem? (i := 32) rfl)
theorem dX12_readClause_124 : decode cX12_readClause 124 = .ok (.iastore, 1) := dgX12_readClause_1 (124, (.iastore, 1)) (List.mem_of_getElem? (i := 33) rfl)
theorem dX12_readClause_125 : decode cX12_readClause 125 = .ok (.iload_n 1, 1) := dgX12_readClause_1 (125, (.iload_n 1, 1)) (List.mem_of_getElem? (i := 34) rfl)
theorem dX12_readClause_126 : decode cX12_readClause 126 = .ok (.iconst 2, 1) := dgX12_readClause_1 (126, (.iconst 2, 1)) (List.mem_of_getElem? (i := 35) rfl)
theorem dX12_readClause_127 : decode cX12_readClause 127 = .ok (.if_icmp .ge 8, 3) := dgX12_readClause_1 (127, (.if_icmp .ge 8, 3)) (List.mem_of_getElem? (i := 36) rfl)
theorem dX12_readClause_130 : decode cX12_readClause 130 = .ok (.aload_n 0, 1) := dgX12_readClause_1 (130, (.aload_n 0, 1)) (List.mem_of_getElem? (i := 37) rfl)
theorem dX12_readClause_131 : decode cX12_readClause 131 = .ok (.iconst 0, 1) := dgX12_readClause_1 (131, (.iconst 0, 1)) (List.mem_of_getElem? (i := 38) rfl)
theorem dX12_readClause_132 : decode cX12_readClause 132 = .ok (.invokevirtual 315, 3) := dgX12_readClause_1 (132, (.invokevirtual 315, 3)) (List.mem_of_getElem? (i := 39) rfl)
theorem dgX12_readClause_2 : ∀ r ∈ ([(135, (.aload_n 0, 1)), (136, (.getfield 30, 3)), (139, (.iload_n 2, 1)), (140, (.iconst 4, 1)), (141, (.iadd, 1)), (142, (.aload_n 0, 1)), (143, (.getfield 237, 3)), (146, (.iastore, 1)), (147, (.aload_n 0, 1)), (148, (.getfield 30, 3)), (151, (.iload_n 2, 1)), (152, (.iconst 5, 1)), (153, (.iadd, 1)), (154, (.aload_n 0, 1)), (155, (.getfield 237, 3)), (158, (.iastore, 1)), (159, (.aload_n 0, 1)), (160, (.getfield 205, 3)), (163, (.ifCond .ne 22, 3)), (166, (.aload_n 0, 1)), (167, (.ldc2_w 318, 3)), (170, (.invokevirtual 254, 3)), (173, (.ifCond .eq 12, 3)), (176, (.aload_n 0, 1)), (177, (.invokevirtual 208, 3)), (180, (.aload_n 0, 1)), (181, (.iconst 1, 1)), (182, (.invokevirtual 315, 3)), (185, (.aload_n 0, 1)), (186, (.getfield 30, 3)), (189, (.iload_n 2, 1)), (190, (.bipush 6, 2)), (192, (.iadd, 1)), (193, (.aload_n 0, 1)), (194, (.getfield 237, 3)), (197, (.iastore, 1)), (198, (.return_, 1))] : List (Nat × (Instr × Nat))), decode cX12_readClause r.1 = .ok r.2 := by decide +kernel
theorem dX12_readClause_135 : decode cX12_readClause 135 = .ok (.aload_n 0, 1) := dgX12_readClause_2 (135, (.aload_n 0, 1)) (List.mem_of_getElem? (i := 0) rfl)
theorem dX12_readClause_136 : decode cX12_readClause 136 = .ok (.getfield 30, 3) := dgX12_readClause_2 (136, (.getfield 30, 3)) (List.mem_of_getElem? (i := 1) rfl)
theorem dX12_readClause_139 : decode cX12_readClause 139 = .ok (.iload_n 2, 1) := dgX12_readClause_2 (139, (.iload_n 2, 1)) (List.mem_of_getElem? (i := 2) rfl)
theorem dX12_readClause_140 : decode cX12_readClause 140 = .ok (.iconst 4, 1) := dgX12_readClause_2 (140, (.iconst 4, 1)) (List.mem_of_getElem? (i := 3) rfl)
theorem dX12_readClause_141 : decode cX12_readClause 141 = .ok (.iadd, 1) := dgX12_readClause_2 (141, (.iadd, 1)) (List.mem_of_getElem? (i := 4) rfl)
theorem dX12_readClause_142 : decode cX12_readClause 142 = .ok (.aload_n 0, 1) := dgX12_readClause_2 (142, (.aload_n 0, 1)) (List.mem_of_getElem? (i := 5) rfl)
theorem dX12_readClause_143 : decode cX12_readClause 143 = .ok (.getfield 237, 3) := dgX12_readClause_2 (143, (.getfield 237, 3)) (List.mem_of_getElem? (i := 6) rfl)
theorem dX12_readClause_146 : decode cX12_readClause 146 = .ok (.iastore, 1) := dgX12_readClause_2 (146, (.iastore, 1)) (List.mem_of_getElem? (i := 7) rfl)
theorem dX12_readClause_147 : decode cX12_readClause 147 = .ok (.aload_n 0, 1) := dgX12_readClause_2 (147, (.aload_n 0, 1)) (List.mem_of_getElem? (i := 8) rfl)
theorem dX12_readClause_148 : decode cX12_readClause 148 = .ok (.getfield 30, 3) := dgX12_readClause_2 (148, (.getfield 30, 3)) (List.mem_of_getElem? (i := 9) rfl)
theorem dX12_readClause_151 : decode cX12_readClause 151 = .ok (.iload_n 2, 1) := dgX12_readClause_2 (151, (.iload_n 2, 1)) (List.mem_of_getElem? (i := 10) rfl)
theorem dX12_readClause_152 : decode cX12_readClause 152 = .ok (.iconst 5, 1) := dgX12_readClause_2 (152, (.iconst 5, 1)) (List.mem_of_getElem? (i := 11) rfl)
theorem dX12_readClause_153 : decode cX12_readClause 153 = .ok (.iadd, 1) := dgX12_readClause_2 (153, (.iadd, 1)) (List.mem_of_getElem? (i := 12) rfl)
theorem dX12_readClause_154 : decode cX12_readClause 154 = .ok (.aload_n 0, 1) := dgX12_readClause_2 (154, (.aload_n 0, 1)) (List.mem_of_getElem? (i := 13) rfl)
theorem dX12_readClause_155 : decode cX12_readClause 155 = .ok (.getfield 237, 3) := dgX12_readClause_2 (155, (.getfield 237, 3)) (List.mem_of_getElem? (i := 14) rfl)
theorem dX12_readClause_158 : decode cX12_readClause 158 = .ok (.iastore, 1) := dgX12_readClause_2 (158, (.iastore, 1)) (List.mem_of_getElem? (i := 15) rfl)
theorem dX12_readClause_159 : decode cX12_readClause 159 = .ok (.aload_n 0, 1) := dgX12_readClause_2 (159, (.aload_n 0, 1)) (List.mem_of_getElem? (i := 16) rfl)
theorem dX12_readClause_160 : decode cX12_readClause 160 = .ok (.getfield 205, 3) := dgX12_readClause_2 (160, (.getfield 205, 3)) (List.mem_of_getElem? (i := 17) rfl)
theorem dX12_readClause_163 : decode cX12_readClause 163 = .ok (.ifCond .ne 22, 3) := dgX12_readClause_2 (163, (.ifCond .ne 22, 3)) (List.mem_of_getElem? (i := 18) rfl)
theorem dX12_readClause_166 : decode cX12_readClause 166 = .ok (.aload_n 0, 1) := dgX12_readClause_2 (166, (.aload_n 0, 1)) (List.mem_of_getElem? (i := 19) rfl)
theorem dX12_readClause_167 : decode cX12_readClause 167 = .ok (.ldc2_w 318, 3) := dgX12_readClause_2 (167, (.ldc2_w 318, 3)) (List.mem_of_getElem? (i := 20) rfl)
theorem dX12_readClause_170 : decode cX12_readClause 170 = .ok (.invokevirtual 254, 3) := dgX12_readClause_2 (170, (.invokevirtual 254, 3)) (List.mem_of_getElem? (i := 21) rfl)
theorem dX12_readClause_173 : decode cX12_readClause 173 = .ok (.ifCond .eq 12, 3) := dgX12_readClause_2 (173, (.ifCond .eq 12, 3)) (List.mem_of_getElem? (i := 22) rfl)
theorem dX12_readClause_176 : decode cX12_readClause 176 = .ok (.aload_n 0, 1) := dgX12_readClause_2 (176, (.aload_n 0, 1)) (List.mem_of_getElem? (i := 23) rfl)
theorem dX12_readClause_177 : decode cX12_readClause 177 = .ok (.invokevirtual 208, 3) := dgX12_readClause_2 (177, (.invokevirtual 208, 3)) (List.mem_of_getElem? (i := 24) rfl)
theorem dX12_readClause_180 : decode cX12_readClause 180 = .ok (.aload_n 0, 1) := dgX12_readClause_2 (180, (.aload_n 0, 1)) (List.mem_of_getElem? (i := 25) rfl)
theorem dX12_readClause_181 : decode cX12_readClause 181 = .ok (.iconst 1, 1) := dgX12_readClause_2 (181, (.iconst 1, 1)) (List.mem_of_getElem? (i := 26) rfl)
theorem dX12_readClause_182 : decode cX12_readClause 182 = .ok (.invokevirtual 315, 3) := dgX12_readClause_2 (182, (.invokevirtual 315, 3)) (List.mem_of_getElem? (i := 27) rfl)
theorem dX12_readClause_185 : decode cX12_readClause 185 = .ok (.aload_n 0, 1) := dgX12_readClause_2 (185, (.aload_n 0, 1)) (List.mem_of_getElem? (i := 28) rfl)
theorem dX12_readClause_186 : decode cX12_readClause 186 = .ok (.getfield 30, 3) := dgX12_readClause_2 (186, (.getfield 30, 3)) (List.mem_of_getElem? (i := 29) rfl)
theorem dX12_readClause_189 : decode cX12_readClause 189 = .ok (.iload_n 2, 1) := dgX12_readClause_2 (189, (.iload_n 2, 1)) (List.mem_of_getElem? (i := 30) rfl)
theorem dX12_readClause_190 : decode cX12_readClause 190 = .ok (.bipush 6, 2) := dgX12_readClause_2 (190, (.bipush 6, 2)) (List.mem_of_getElem? (i := 31) rfl)
theorem dX12_readClause_192 : decode cX12_readClause 192 = .ok (.iadd, 1) := dgX12_readClause_2 (192, (.iadd, 1)) (List.mem_of_getElem? (i := 32) rfl)
theorem dX12_readClause_193 : decode cX12_readClause 193 = .ok (.aload_n 0, 1) := dgX12_readClause_2 (193, (.aload_n 0, 1)) (List.mem_of_getElem? (i := 33) rfl)
theorem dX12_readClause_194 : decode cX12_readClause 194 = .ok (.getfield 237, 3) := dgX12_readClause_2 (194, (.getfield 237, 3)) (List.mem_of_getElem? (i := 34) rfl)
theorem dX12_readClause_197 : decode cX12_readClause 197 = .ok (.iastore, 1) := dgX12_readClause_2 (197, (.iastore, 1)) (List.mem_of_getElem? (i := 35) rfl)
theorem dX12_readClause_198 : decode cX12_readClause 198 = .ok (.return_, 1) := dgX12_readClause_2 (198, (.return_, 1)) (List.mem_of_getElem? (i := 36) rfl)
theorem fl_X12_312 : Cond.fieldLink RX12 312 "LateGlassModel" "nClauses" "I" ∈ tblG := tg 1218 (by decide +kernel) (by decide +kernel)
theorem fl_X12_30 : Cond.fieldLink RX12 30 "LateGlassModel" "nClause" "[I" ∈ tblG := tg 1219 (by decide +kernel) (by decide +kernel)
theorem kl_X12_318 : Cond.constantLong RX12 318 294 ∈ tblG := tg 1594 (by decide +kernel) (by decide +kernel)
theorem ml_X12_315 : Cond.methodLink RX12 315 yX12_readExpression ∈ tblG := tg 1529 (by decide +kernel) (by decide +kernel)
theorem im_X12_readExpression : Cond.instanceMethod yX12_readExpression ∈ tblG := tg 1531 (by decide +kernel) (by decide +kernel)
theorem se_X12_readExpression : Cond.selects RX12 yX12_readExpression yX12_readExpression ∈ tblG := tg 48 (by decide +kernel) (by decide +kernel)
theorem cd_X12_readExpression : Cond.code yX12_readExpression cX12_readExpression 3 none ∈ tblG := tg 1532 (by decide +kernel) (by decide +kernel)
theorem gW_X12_readExpression : GoodIn tblG (wsG yX12_readExpression cX12_readExpression 3 none) := tgi cd_X12_readExpression
theorem gV_X12_315 : GoodIn tblG (wsV RX12 315 RX12 yX12_readExpression (wsG yX12_readExpression cX12_readExpression 3 none)) := tgV ml_X12_315 im_X12_readExpression se_X12_readExpression ini_X12 gW_X12_readExpression
theorem hv_X12_readExpression : yX12_readExpression.cls = RX12 ∧ yX12_readExpression.cls ≠ "java/lang/invoke/MethodHandle" ∧ yX12_readExpression.cls ≠ "java/lang/invoke/VarHandle" ∧ (parseMethodDescriptor yX12_readExpression.desc).map (fun d => d.parameters.length) = some 1 := by decide +kernel
theorem fl_X12_73 : Cond.fieldLink RX12 73 "LateGlassModel" "headWords" "[J" ∈ tblG := tg 1229 (by decide +kernel) (by decide +kernel)
theorem dgX12_begin_0 : ∀ r ∈ ([(0, (.aload_n 0, 1)), (1, (.iconst 0, 1)), (2, (.putfield 202, 3)), (5, (.aload_n 0, 1)), (6, (.iconst 0, 1)), (7, (.putfield 205, 3)), (10, (.aload_n 0, 1)), (11, (.iconst (-1), 1)), (12, (.putfield 26, 3)), (15, (.aload_n 0, 1)), (16, (.invokevirtual 208, 3)), (19, (.return_, 1))] : List (Nat × (Instr × Nat))), decode cX12_begin r.1 = .ok r.2 := by decide +kernel
theorem dX12_begin_0 : decode cX12_begin 0 = .ok (.aload_n 0, 1) := dgX12_begin_0 (0, (.aload_n 0, 1)) (List.mem_of_getElem? (i := 0) rfl)
theorem dX12_begin_1 : decode cX12_begin 1 = .ok (.iconst 0, 1) := dgX12_begin_0 (1, (.iconst 0, 1)) (List.mem_of_getElem? (i := 1) rfl)
theorem dX12_begin_2 : decode cX12_begin 2 = .ok (.putfield 202, 3) := dgX12_begin_0 (2, (.putfield 202, 3)) (List.mem_of_getElem? (i := 2) rfl)
theorem dX12_begin_5 : decode cX12_begin 5 = .ok (.aload_n 0, 1) := dgX12_begin_0 (5, (.aload_n 0, 1)) (List.mem_of_getElem? (i := 3) rfl)
theorem dX12_begin_6 : decode cX12_begin 6 = .ok (.iconst 0, 1) := dgX12_begin_0 (6, (.iconst 0, 1)) (List.mem_of_getElem? (i := 4) rfl)
theorem dX12_begin_7 : decode cX12_begin 7 = .ok (.putfield 205, 3) := dgX12_begin_0 (7, (.putfield 205, 3)) (List.mem_of_getElem? (i := 5) rfl)
theorem dX12_begin_10 : decode cX12_begin 10 = .ok (.aload_n 0, 1) := dgX12_begin_0 (10, (.aload_n 0, 1)) (List.mem_of_getElem? (i := 6) rfl)
theorem dX12_begin_11 : decode cX12_begin 11 = .ok (.iconst (-1), 1) := dgX12_begin_0 (11, (.iconst (-1), 1)) (List.mem_of_getElem? (i := 7) rfl)
theorem dX12_begin_12 : decode cX12_begin 12 = .ok (.putfield 26, 3) := dgX12_begin_0 (12, (.putfield 26, 3)) (List.mem_of_getElem? (i := 8) rfl)
theorem dX12_begin_15 : decode cX12_begin 15 = .ok (.aload_n 0, 1) := dgX12_begin_0 (15, (.aload_n 0, 1)) (List.mem_of_getElem? (i := 9) rfl)
theorem dX12_begin_16 : decode cX12_begin 16 = .ok (.invokevirtual 208, 3) := dgX12_begin_0 (16, (.invokevirtual 208, 3)) (List.mem_of_getElem? (i := 10) rfl)
theorem dX12_begin_19 : decode cX12_begin 19 = .ok (.return_, 1) := dgX12_begin_0 (19, (.return_, 1)) (List.mem_of_getElem? (i := 11) rfl)
theorem dgX12_law_0 : ∀ r ∈ ([(0, (.aload_n 0, 1)), (1, (.iconst 0, 1)), (2, (.putfield 107, 3)), (5, (.aload_n 0, 1)), (6, (.getfield 13, 3)), (9, (.iconst 2, 1)), (10, (.iaload, 1)), (11, (.bipush 6, 2)), (13, (.if_icmp .ne 15, 3)), (16, (.aload_n 0, 1)), (17, (.iconst 0, 1)), (18, (.putfield 192, 3)), (21, (.aload_n 0, 1)), (22, (.bipush (-5), 2)), (24, (.invokevirtual 125, 3)), (27, (.ireturn, 1)), (28, (.aload_n 0, 1)), (29, (.invokevirtual 320, 3)), (32, (.aload_n 0, 1)), (33, (.iconst 0, 1)), (34, (.putfield 312, 3)), (37, (.aload_n 0, 1)), (38, (.iconst 0, 1)), (39, (.putfield 237, 3)), (42, (.aload_n 0, 1)), (43, (.iconst 0, 1)), (44, (.putfield 264, 3)), (47, (.aload_n 0, 1)), (48, (.invokevirtual 323, 3)), (51, (.aload_n 0, 1)), (52, (.getfield 205, 3)), (55, (.ifCond .ne 23, 3)), (58, (.aload_n 0, 1)), (59, (.bipush 59, 2)), (61, (.invokevirtual 267, 3)), (64, (.ifCond .eq 14, 3)), (67, (.aload_n 0, 1)), (68, (.invokevirtual 208, 3)), (71, (.aload_n 0, 1)), (72, (.invokevirtual 323, 3))] : List (Nat × (Instr × Nat))), decode cX12_law r.1 = .ok r.2 := by decide +kernel
theorem dX12_law_0 : decode cX12_law 0 = .ok (.aload_n 0, 1) := dgX12_law_0 (0, (.aload_n 0, 1)) (List.mem_of_getElem? (i := 0) rfl)
theorem dX12_law_1 : decode cX12_law 1 = .ok (.iconst 0, 1) := dgX12_law_0 (1, (.iconst 0, 1)) (List.mem_of_getElem? (i := 1) rfl)
theorem dX12_law_2 : decode cX12_law 2 = .ok (.putfield 107, 3) := dgX12_law_0 (2, (.putfield 107, 3)) (List.mem_of_getElem? (i := 2) rfl)
theorem dX12_law_5 : decode cX12_law 5 = .ok (.aload_n 0, 1) := dgX12_law_0 (5, (.aload_n 0, 1)) (List.mem_of_getElem? (i := 3) rfl)
theorem dX12_law_6 : decode cX12_law 6 = .ok (.getfield 13, 3) := dgX12_law_0 (6, (.getfield 13, 3)) (List.mem_of_getElem? (i := 4) rfl)
theorem dX12_law_9 : decode cX12_law 9 = .ok (.iconst 2, 1) := dgX12_law_0 (9, (.iconst 2, 1)) (List.mem_of_getElem? (i := 5) rfl)
theorem dX12_law_10 : decode cX12_law 10 = .ok (.iaload, 1) := dgX12_law_0 (10, (.iaload, 1)) (List.mem_of_getElem? (i := 6) rfl)
theorem dX12_law_11 : decode cX12_law 11 = .ok (.bipush 6, 2) := dgX12_law_0 (11, (.bipush 6, 2)) (List.mem_of_getElem? (i := 7) rfl)
theorem dX12_law_13 : decode cX12_law 13 = .ok (.if_icmp .ne 15, 3) := dgX12_law_0 (13, (.if_icmp .ne 15, 3)) (List.mem_of_getElem? (i := 8) rfl)
theorem dX12_law_16 : decode cX12_law 16 = .ok (.aload_n 0, 1) := dgX12_law_0 (16, (.aload_n 0, 1)) (List.mem_of_getElem? (i := 9) rfl)
theorem dX12_law_17 : decode cX12_law 17 = .ok (.iconst 0, 1) := dgX12_law_0 (17, (.iconst 0, 1)) (List.mem_of_getElem? (i := 10) rfl)
theorem dX12_law_18 : decode cX12_law 18 = .ok (.putfield 192, 3) := dgX12_law_0 (18, (.putfield 192, 3)) (List.mem_of_getElem? (i := 11) rfl)
theorem dX12_law_21 : decode cX12_law 21 = .ok (.aload_n 0, 1) := dgX12_law_0 (21, (.aload_n 0, 1)) (List.mem_of_getElem? (i := 12) rfl)
theorem dX12_law_22 : decode cX12_law 22 = .ok (.bipush (-5), 2) := dgX12_law_0 (22, (.bipush (-5), 2)) (List.mem_of_getElem? (i := 13) rfl)
theorem dX12_law_24 : decode cX12_law 24 = .ok (.invokevirtual 125, 3) := dgX12_law_0 (24, (.invokevirtual 125, 3)) (List.mem_of_getElem? (i := 14) rfl)
theorem dX12_law_27 : decode cX12_law 27 = .ok (.ireturn, 1) := dgX12_law_0 (27, (.ireturn, 1)) (List.mem_of_getElem? (i := 15) rfl)
theorem dX12_law_28 : decode cX12_law 28 = .ok (.aload_n 0, 1) := dgX12_law_0 (28, (.aload_n 0, 1)) (List.mem_of_getElem? (i := 16) rfl)
theorem dX12_law_29 : decode cX12_law 29 = .ok (.invokevirtual 320, 3) := dgX12_law_0 (29, (.invokevirtual 320, 3)) (List.mem_of_getElem? (i := 17) rfl)
theorem dX12_law_32 : decode cX12_law 32 = .ok (.aload_n 0, 1) := dgX12_law_0 (32, (.aload_n 0, 1)) (List.mem_of_getElem? (i := 18) rfl)
theorem dX12_law_33 : decode cX12_law 33 = .ok (.iconst 0, 1) := dgX12_law_0 (33, (.iconst 0, 1)) (List.mem_of_getElem? (i := 19) rfl)
theorem dX12_law_34 : decode cX12_law 34 = .ok (.putfield 312, 3) := dgX12_law_0 (34, (.putfield 312, 3)) (List.mem_of_getElem? (i := 20) rfl)
theorem dX12_law_37 : decode cX12_law 37 = .ok (.aload_n 0, 1) := dgX12_law_0 (37, (.aload_n 0, 1)) (List.mem_of_getElem? (i := 21) rfl)
theorem dX12_law_38 : decode cX12_law 38 = .ok (.iconst 0, 1) := dgX12_law_0 (38, (.iconst 0, 1)) (List.mem_of_getElem? (i := 22) rfl)
theorem dX12_law_39 : decode cX12_law 39 = .ok (.putfield 237, 3) := dgX12_law_0 (39, (.putfield 237, 3)) (List.mem_of_getElem? (i := 23) rfl)
theorem dX12_law_42 : decode cX12_law 42 = .ok (.aload_n 0, 1) := dgX12_law_0 (42, (.aload_n 0, 1)) (List.mem_of_getElem? (i := 24) rfl)
theorem dX12_law_43 : decode cX12_law 43 = .ok (.iconst 0, 1) := dgX12_law_0 (43, (.iconst 0, 1)) (List.mem_of_getElem? (i := 25) rfl)
theorem dX12_law_44 : decode cX12_law 44 = .ok (.putfield 264, 3) := dgX12_law_0 (44, (.putfield 264, 3)) (List.mem_of_getElem? (i := 26) rfl)
theorem dX12_law_47 : decode cX12_law 47 = .ok (.aload_n 0, 1) := dgX12_law_0 (47, (.aload_n 0, 1)) (List.mem_of_getElem? (i := 27) rfl)
theorem dX12_law_48 : decode cX12_law 48 = .ok (.invokevirtual 323, 3) := dgX12_law_0 (48, (.invokevirtual 323, 3)) (List.mem_of_getElem? (i := 28) rfl)
theorem dX12_law_51 : decode cX12_law 51 = .ok (.aload_n 0, 1) := dgX12_law_0 (51, (.aload_n 0, 1)) (List.mem_of_getElem? (i := 29) rfl)
theorem dX12_law_52 : decode cX12_law 52 = .ok (.getfield 205, 3) := dgX12_law_0 (52, (.getfield 205, 3)) (List.mem_of_getElem? (i := 30) rfl)
theorem dX12_law_55 : decode cX12_law 55 = .ok (.ifCond .ne 23, 3) := dgX12_law_0 (55, (.ifCond .ne 23, 3)) (List.mem_of_getElem? (i := 31) rfl)
theorem dX12_law_58 : decode cX12_law 58 = .ok (.aload_n 0, 1) := dgX12_law_0 (58, (.aload_n 0, 1)) (List.mem_of_getElem? (i := 32) rfl)
theorem dX12_law_59 : decode cX12_law 59 = .ok (.bipush 59, 2) := dgX12_law_0 (59, (.bipush 59, 2)) (List.mem_of_getElem? (i := 33) rfl)
theorem dX12_law_61 : decode cX12_law 61 = .ok (.invokevirtual 267, 3) := dgX12_law_0 (61, (.invokevirtual 267, 3)) (List.mem_of_getElem? (i := 34) rfl)
theorem dX12_law_64 : decode cX12_law 64 = .ok (.ifCond .eq 14, 3) := dgX12_law_0 (64, (.ifCond .eq 14, 3)) (List.mem_of_getElem? (i := 35) rfl)
theorem dX12_law_67 : decode cX12_law 67 = .ok (.aload_n 0, 1) := dgX12_law_0 (67, (.aload_n 0, 1)) (List.mem_of_getElem? (i := 36) rfl)
theorem dX12_law_68 : decode cX12_law 68 = .ok (.invokevirtual 208, 3) := dgX12_law_0 (68, (.invokevirtual 208, 3)) (List.mem_of_getElem? (i := 37) rfl)
theorem dX12_law_71 : decode cX12_law 71 = .ok (.aload_n 0, 1) := dgX12_law_0 (71, (.aload_n 0, 1)) (List.mem_of_getElem? (i := 38) rfl)
theorem dX12_law_72 : decode cX12_law 72 = .ok (.invokevirtual 323, 3) := dgX12_law_0 (72, (.invokevirtual 323, 3)) (List.mem_of_getElem? (i := 39) rfl)
theorem dgX12_law_1 : ∀ r ∈ ([(75, (.goto (-24), 3)), (78, (.aload_n 0, 1)), (79, (.getfield 205, 3)), (82, (.ifCond .ne 15, 3)), (85, (.aload_n 0, 1)), (86, (.getfield 224, 3)), (89, (.ifCond .eq 8, 3)), (92, (.aload_n 0, 1)), (93, (.iconst 0, 1)), (94, (.invokevirtual 233, 3)), (97, (.aload_n 0, 1)), (98, (.iconst 0, 1)), (99, (.putfield 192, 3)), (102, (.aload_n 0, 1)), (103, (.getfield 205, 3)), (106, (.ifCond .eq 10, 3)), (109, (.aload_n 0, 1)), (110, (.bipush (-6), 2)), (112, (.invokevirtual 125, 3)), (115, (.ireturn, 1)), (116, (.sipush 340, 3)), (119, (.sipush 900, 3)), (122, (.aload_n 0, 1)), (123, (.getfield 13, 3)), (126, (.iconst 2, 1)), (127, (.iaload, 1)), (128, (.imul, 1)), (129, (.iadd, 1)), (130, (.istore_n 1, 1)), (131, (.aload_n 0, 1)), (132, (.getfield 13, 3)), (135, (.iload_n 1, 1)), (136, (.iconst 1, 1)), (137, (.iadd, 1)), (138, (.aload_n 0, 1)), (139, (.getfield 312, 3)), (142, (.iastore, 1)), (143, (.iconst 0, 1)), (144, (.istore_n 2, 1)), (145, (.iload_n 2, 1))] : List (Nat × (Instr × Nat))), decode cX12_law r.1 = .ok r.2 := by decide +kernel
theorem dX12_law_75 : decode cX12_law 75 = .ok (.goto (-24), 3) := dgX12_law_1 (75, (.goto (-24), 3)) (List.mem_of_getElem? (i := 0) rfl)
theorem dX12_law_78 : decode cX12_law 78 = .ok (.aload_n 0, 1) := dgX12_law_1 (78, (.aload_n 0, 1)) (List.mem_of_getElem? (i := 1) rfl)
theorem dX12_law_79 : decode cX12_law 79 = .ok (.getfield 205, 3) := dgX12_law_1 (79, (.getfield 205, 3)) (List.mem_of_getElem? (i := 2) rfl)
theorem dX12_law_82 : decode cX12_law 82 = .ok (.ifCond .ne 15, 3) := dgX12_law_1 (82, (.ifCond .ne 15, 3)) (List.mem_of_getElem? (i := 3) rfl)
theorem dX12_law_85 : decode cX12_law 85 = .ok (.aload_n 0, 1) := dgX12_law_1 (85, (.aload_n 0, 1)) (List.mem_of_getElem? (i := 4) rfl)
theorem dX12_law_86 : decode cX12_law 86 = .ok (.getfield 224, 3) := dgX12_law_1 (86, (.getfield 224, 3)) (List.mem_of_getElem? (i := 5) rfl)
theorem dX12_law_89 : decode cX12_law 89 = .ok (.ifCond .eq 8, 3) := dgX12_law_1 (89, (.ifCond .eq 8, 3)) (List.mem_of_getElem? (i := 6) rfl)
theorem dX12_law_92 : decode cX12_law 92 = .ok (.aload_n 0, 1) := dgX12_law_1 (92, (.aload_n 0, 1)) (List.mem_of_getElem? (i := 7) rfl)
theorem dX12_law_93 : decode cX12_law 93 = .ok (.iconst 0, 1) := dgX12_law_1 (93, (.iconst 0, 1)) (List.mem_of_getElem? (i := 8) rfl)
theorem dX12_law_94 : decode cX12_law 94 = .ok (.invokevirtual 233, 3) := dgX12_law_1 (94, (.invokevirtual 233, 3)) (List.mem_of_getElem? (i := 9) rfl)
theorem dX12_law_97 : decode cX12_law 97 = .ok (.aload_n 0, 1) := dgX12_law_1 (97, (.aload_n 0, 1)) (List.mem_of_getElem? (i := 10) rfl)
theorem dX12_law_98 : decode cX12_law 98 = .ok (.iconst 0, 1) := dgX12_law_1 (98, (.iconst 0, 1)) (List.mem_of_getElem? (i := 11) rfl)
theorem dX12_law_99 : decode cX12_law 99 = .ok (.putfield 192, 3) := dgX12_law_1 (99, (.putfield 192, 3)) (List.mem_of_getElem? (i := 12) rfl)
theorem dX12_law_102 : decode cX12_law 102 = .ok (.aload_n 0, 1) := dgX12_law_1 (102, (.aload_n 0, 1)) (List.mem_of_getElem? (i := 13) rfl)
theorem dX12_law_103 : decode cX12_law 103 = .ok (.getfield 205, 3) := dgX12_law_1 (103, (.getfield 205, 3)) (List.mem_of_getElem? (i := 14) rfl)
theorem dX12_law_106 : decode cX12_law 106 = .ok (.ifCond .eq 10, 3) := dgX12_law_1 (106, (.ifCond .eq 10, 3)) (List.mem_of_getElem? (i := 15) rfl)
theorem dX12_law_109 : decode cX12_law 109 = .ok (.aload_n 0, 1) := dgX12_law_1 (109, (.aload_n 0, 1)) (List.mem_of_getElem? (i := 16) rfl)
theorem dX12_law_110 : decode cX12_law 110 = .ok (.bipush (-6), 2) := dgX12_law_1 (110, (.bipush (-6), 2)) (List.mem_of_getElem? (i := 17) rfl)
theorem dX12_law_112 : decode cX12_law 112 = .ok (.invokevirtual 125, 3) := dgX12_law_1 (112, (.invokevirtual 125, 3)) (List.mem_of_getElem? (i := 18) rfl)
theorem dX12_law_115 : decode cX12_law 115 = .ok (.ireturn, 1) := dgX12_law_1 (115, (.ireturn, 1)) (List.mem_of_getElem? (i := 19) rfl)
theorem dX12_law_116 : decode cX12_law 116 = .ok (.sipush 340, 3) := dgX12_law_1 (116, (.sipush 340, 3)) (List.mem_of_getElem? (i := 20) rfl)
theorem dX12_law_119 : decode cX12_law 119 = .ok (.sipush 900, 3) := dgX12_law_1 (119, (.sipush 900, 3)) (List.mem_of_getElem? (i := 21) rfl)
theorem dX12_law_122 : decode cX12_law 122 = .ok (.aload_n 0, 1) := dgX12_law_1 (122, (.aload_n 0, 1)) (List.mem_of_getElem? (i := 22) rfl)
theorem dX12_law_123 : decode cX12_law 123 = .ok (.getfield 13, 3) := dgX12_law_1 (123, (.getfield 13, 3)) (List.mem_of_getElem? (i := 23) rfl)
theorem dX12_law_126 : decode cX12_law 126 = .ok (.iconst 2, 1) := dgX12_law_1 (126, (.iconst 2, 1)) (List.mem_of_getElem? (i := 24) rfl)
theorem dX12_law_127 : decode cX12_law 127 = .ok (.iaload, 1) := dgX12_law_1 (127, (.iaload, 1)) (List.mem_of_getElem? (i := 25) rfl)
theorem dX12_law_128 : decode cX12_law 128 = .ok (.imul, 1) := dgX12_law_1 (128, (.imul, 1)) (List.mem_of_getElem? (i := 26) rfl)
theorem dX12_law_129 : decode cX12_law 129 = .ok (.iadd, 1) := dgX12_law_1 (129, (.iadd, 1)) (List.mem_of_getElem? (i := 27) rfl)
theorem dX12_law_130 : decode cX12_law 130 = .ok (.istore_n 1, 1) := dgX12_law_1 (130, (.istore_n 1, 1)) (List.mem_of_getElem? (i := 28) rfl)
theorem dX12_law_131 : decode cX12_law 131 = .ok (.aload_n 0, 1) := dgX12_law_1 (131, (.aload_n 0, 1)) (List.mem_of_getElem? (i := 29) rfl)
theorem dX12_law_132 : decode cX12_law 132 = .ok (.getfield 13, 3) := dgX12_law_1 (132, (.getfield 13, 3)) (List.mem_of_getElem? (i := 30) rfl)
theorem dX12_law_135 : decode cX12_law 135 = .ok (.iload_n 1, 1) := dgX12_law_1 (135, (.iload_n 1, 1)) (List.mem_of_getElem? (i := 31) rfl)
theorem dX12_law_136 : decode cX12_law 136 = .ok (.iconst 1, 1) := dgX12_law_1 (136, (.iconst 1, 1)) (List.mem_of_getElem? (i := 32) rfl)
theorem dX12_law_137 : decode cX12_law 137 = .ok (.iadd, 1) := dgX12_law_1 (137, (.iadd, 1)) (List.mem_of_getElem? (i := 33) rfl)
theorem dX12_law_138 : decode cX12_law 138 = .ok (.aload_n 0, 1) := dgX12_law_1 (138, (.aload_n 0, 1)) (List.mem_of_getElem? (i := 34) rfl)
theorem dX12_law_139 : decode cX12_law 139 = .ok (.getfield 312, 3) := dgX12_law_1 (139, (.getfield 312, 3)) (List.mem_of_getElem? (i := 35) rfl)
theorem dX12_law_142 : decode cX12_law 142 = .ok (.iastore, 1) := dgX12_law_1 (142, (.iastore, 1)) (List.mem_of_getElem? (i := 36) rfl)
theorem dX12_law_143 : decode cX12_law 143 = .ok (.iconst 0, 1) := dgX12_law_1 (143, (.iconst 0, 1)) (List.mem_of_getElem? (i := 37) rfl)
theorem dX12_law_144 : decode cX12_law 144 = .ok (.istore_n 2, 1) := dgX12_law_1 (144, (.istore_n 2, 1)) (List.mem_of_getElem? (i := 38) rfl)
theorem dX12_law_145 : decode cX12_law 145 = .ok (.iload_n 2, 1) := dgX12_law_1 (145, (.iload_n 2, 1)) (List.mem_of_getElem? (i := 39) rfl)
theorem dgX12_law_2 : ∀ r ∈ ([(146, (.bipush 8, 2)), (148, (.aload_n 0, 1)), (149, (.getfield 312, 3)), (152, (.imul, 1)), (153, (.if_icmp .ge 25, 3)), (156, (.aload_n 0, 1)), (157, (.getfield 13, 3)), (160, (.iload_n 1, 1)), (161, (.iconst 2, 1)), (162, (.iadd, 1)), (163, (.iload_n 2, 1)), (164, (.iadd, 1)), (165, (.aload_n 0, 1)), (166, (.getfield 30, 3)), (169, (.iload_n 2, 1)), (170, (.iaload, 1)), (171, (.iastore, 1)), (172, (.iinc 2 1, 3)), (175, (.goto (-30), 3)), (178, (.iconst 0, 1)), (179, (.istore_n 2, 1)), (180, (.iload_n 2, 1)), (181, (.aload_n 0, 1)), (182, (.getfield 237, 3)), (185, (.if_icmp .ge 49, 3)), (188, (.aload_n 0, 1)), (189, (.getfield 13, 3)), (192, (.iload_n 1, 1)), (193, (.bipush 98, 2)), (195, (.iadd, 1)), (196, (.iconst 2, 1)), (197, (.iload_n 2, 1)), (198, (.imul, 1)), (199, (.iadd, 1)), (200, (.aload_n 0, 1)), (201, (.getfield 33, 3)), (204, (.iload_n 2, 1)), (205, (.iaload, 1)), (206, (.iastore, 1)), (207, (.aload_n 0, 1))] : List (Nat × (Instr × Nat))), decode cX12_law r.1 = .ok r.2 := by decide +kernel
theorem dX12_law_146 : decode cX12_law 146 = .ok (.bipush 8, 2) := dgX12_law_2 (146, (.bipush 8, 2)) (List.mem_of_getElem? (i := 0) rfl)
theorem dX12_law_148 : decode cX12_law 148 = .ok (.aload_n 0, 1) := dgX12_law_2 (148, (.aload_n 0, 1)) (List.mem_of_getElem? (i := 1) rfl)
theorem dX12_law_149 : decode cX12_law 149 = .ok (.getfield 312, 3) := dgX12_law_2 (149, (.getfield 312, 3)) (List.mem_of_getElem? (i := 2) rfl)
theorem dX12_law_152 : decode cX12_law 152 = .ok (.imul, 1) := dgX12_law_2 (152, (.imul, 1)) (List.mem_of_getElem? (i := 3) rfl)
theorem dX12_law_153 : decode cX12_law 153 = .ok (.if_icmp .ge 25, 3) := dgX12_law_2 (153, (.if_icmp .ge 25, 3)) (List.mem_of_getElem? (i := 4) rfl)
theorem dX12_law_156 : decode cX12_law 156 = .ok (.aload_n 0, 1) := dgX12_law_2 (156, (.aload_n 0, 1)) (List.mem_of_getElem? (i := 5) rfl)
theorem dX12_law_157 : decode cX12_law 157 = .ok (.getfield 13, 3) := dgX12_law_2 (157, (.getfield 13, 3)) (List.mem_of_getElem? (i := 6) rfl)
theorem dX12_law_160 : decode cX12_law 160 = .ok (.iload_n 1, 1) := dgX12_law_2 (160, (.iload_n 1, 1)) (List.mem_of_getElem? (i := 7) rfl)
theorem dX12_law_161 : decode cX12_law 161 = .ok (.iconst 2, 1) := dgX12_law_2 (161, (.iconst 2, 1)) (List.mem_of_getElem? (i := 8) rfl)
theorem dX12_law_162 : decode cX12_law 162 = .ok (.iadd, 1) := dgX12_law_2 (162, (.iadd, 1)) (List.mem_of_getElem? (i := 9) rfl)
theorem dX12_law_163 : decode cX12_law 163 = .ok (.iload_n 2, 1) := dgX12_law_2 (163, (.iload_n 2, 1)) (List.mem_of_getElem? (i := 10) rfl)
theorem dX12_law_164 : decode cX12_law 164 = .ok (.iadd, 1) := dgX12_law_2 (164, (.iadd, 1)) (List.mem_of_getElem? (i := 11) rfl)
theorem dX12_law_165 : decode cX12_law 165 = .ok (.aload_n 0, 1) := dgX12_law_2 (165, (.aload_n 0, 1)) (List.mem_of_getElem? (i := 12) rfl)
theorem dX12_law_166 : decode cX12_law 166 = .ok (.getfield 30, 3) := dgX12_law_2 (166, (.getfield 30, 3)) (List.mem_of_getElem? (i := 13) rfl)
theorem dX12_law_169 : decode cX12_law 169 = .ok (.iload_n 2, 1) := dgX12_law_2 (169, (.iload_n 2, 1)) (List.mem_of_getElem? (i := 14) rfl)
theorem dX12_law_170 : decode cX12_law 170 = .ok (.iaload, 1) := dgX12_law_2 (170, (.iaload, 1)) (List.mem_of_getElem? (i := 15) rfl)
theorem dX12_law_171 : decode cX12_law 171 = .ok (.iastore, 1) := dgX12_law_2 (171, (.iastore, 1)) (List.mem_of_getElem? (i := 16) rfl)
theorem dX12_law_172 : decode cX12_law 172 = .ok (.iinc 2 1, 3) := dgX12_law_2 (172, (.iinc 2 1, 3)) (List.mem_of_getElem? (i := 17) rfl)
theorem dX12_law_175 : decode cX12_law 175 = .ok (.goto (-30), 3) := dgX12_law_2 (175, (.goto (-30), 3)) (List.mem_of_getElem? (i := 18) rfl)
theorem dX12_law_178 : decode cX12_law 178 = .ok (.iconst 0, 1) := dgX12_law_2 (178, (.iconst 0, 1)) (List.mem_of_getElem? (i := 19) rfl)
theorem dX12_law_179 : decode cX12_law 179 = .ok (.istore_n 2, 1) := dgX12_law_2 (179, (.istore_n 2, 1)) (List.mem_of_getElem? (i := 20) rfl)
theorem dX12_law_180 : decode cX12_law 180 = .ok (.iload_n 2, 1) := dgX12_law_2 (180, (.iload_n 2, 1)) (List.mem_of_getElem? (i := 21) rfl)
theorem dX12_law_181 : decode cX12_law 181 = .ok (.aload_n 0, 1) := dgX12_law_2 (181, (.aload_n 0, 1)) (List.mem_of_getElem? (i := 22) rfl)
theorem dX12_law_182 : decode cX12_law 182 = .ok (.getfield 237, 3) := dgX12_law_2 (182, (.getfield 237, 3)) (List.mem_of_getElem? (i := 23) rfl)
theorem dX12_law_185 : decode cX12_law 185 = .ok (.if_icmp .ge 49, 3) := dgX12_law_2 (185, (.if_icmp .ge 49, 3)) (List.mem_of_getElem? (i := 24) rfl)
theorem dX12_law_188 : decode cX12_law 188 = .ok (.aload_n 0, 1) := dgX12_law_2 (188, (.aload_n 0, 1)) (List.mem_of_getElem? (i := 25) rfl)
theorem dX12_law_189 : decode cX12_law 189 = .ok (.getfield 13, 3) := dgX12_law_2 (189, (.getfield 13, 3)) (List.mem_of_getElem? (i := 26) rfl)
theorem dX12_law_192 : decode cX12_law 192 = .ok (.iload_n 1, 1) := dgX12_law_2 (192, (.iload_n 1, 1)) (List.mem_of_getElem? (i := 27) rfl)
theorem dX12_law_193 : decode cX12_law 193 = .ok (.bipush 98, 2) := dgX12_law_2 (193, (.bipush 98, 2)) (List.mem_of_getElem? (i := 28) rfl)
theorem dX12_law_195 : decode cX12_law 195 = .ok (.iadd, 1) := dgX12_law_2 (195, (.iadd, 1)) (List.mem_of_getElem? (i := 29) rfl)
theorem dX12_law_196 : decode cX12_law 196 = .ok (.iconst 2, 1) := dgX12_law_2 (196, (.iconst 2, 1)) (List.mem_of_getElem? (i := 30) rfl)
theorem dX12_law_197 : decode cX12_law 197 = .ok (.iload_n 2, 1) := dgX12_law_2 (197, (.iload_n 2, 1)) (List.mem_of_getElem? (i := 31) rfl)
theorem dX12_law_198 : decode cX12_law 198 = .ok (.imul, 1) := dgX12_law_2 (198, (.imul, 1)) (List.mem_of_getElem? (i := 32) rfl)
theorem dX12_law_199 : decode cX12_law 199 = .ok (.iadd, 1) := dgX12_law_2 (199, (.iadd, 1)) (List.mem_of_getElem? (i := 33) rfl)
theorem dX12_law_200 : decode cX12_law 200 = .ok (.aload_n 0, 1) := dgX12_law_2 (200, (.aload_n 0, 1)) (List.mem_of_getElem? (i := 34) rfl)
theorem dX12_law_201 : decode cX12_law 201 = .ok (.getfield 33, 3) := dgX12_law_2 (201, (.getfield 33, 3)) (List.mem_of_getElem? (i := 35) rfl)
theorem dX12_law_204 : decode cX12_law 204 = .ok (.iload_n 2, 1) := dgX12_law_2 (204, (.iload_n 2, 1)) (List.mem_of_getElem? (i := 36) rfl)
theorem dX12_law_205 : decode cX12_law 205 = .ok (.iaload, 1) := dgX12_law_2 (205, (.iaload, 1)) (List.mem_of_getElem? (i := 37) rfl)
theorem dX12_law_206 : decode cX12_law 206 = .ok (.iastore, 1) := dgX12_law_2 (206, (.iastore, 1)) (List.mem_of_getElem? (i := 38) rfl)
theorem dX12_law_207 : decode cX12_law 207 = .ok (.aload_n 0, 1) := dgX12_law_2 (207, (.aload_n 0, 1)) (List.mem_of_getElem? (i := 39) rfl)
theorem dgX12_law_3 : ∀ r ∈ ([(208, (.getfield 13, 3)), (211, (.iload_n 1, 1)), (212, (.bipush 98, 2)), (214, (.iadd, 1)), (215, (.iconst 2, 1)), (216, (.iload_n 2, 1)), (217, (.imul, 1)), (218, (.iadd, 1)), (219, (.iconst 1, 1)), (220, (.iadd, 1)), (221, (.aload_n 0, 1)), (222, (.getfield 36, 3)), (225, (.iload_n 2, 1)), (226, (.iaload, 1)), (227, (.iastore, 1)), (228, (.iinc 2 1, 3)), (231, (.goto (-51), 3)), (234, (.aload_n 0, 1)), (235, (.getfield 13, 3)), (238, (.iconst 2, 1)), (239, (.dup2, 1)), (240, (.iaload, 1)), (241, (.iconst 1, 1)), (242, (.iadd, 1)), (243, (.iastore, 1)), (244, (.aload_n 0, 1)), (245, (.aload_n 0, 1)), (246, (.getfield 13, 3)), (249, (.iconst 2, 1)), (250, (.iaload, 1)), (251, (.iconst 1, 1)), (252, (.isub, 1)), (253, (.invokevirtual 125, 3)), (256, (.ireturn, 1))] : List (Nat × (Instr × Nat))), decode cX12_law r.1 = .ok r.2 := by decide +kernel
theorem dX12_law_208 : decode cX12_law 208 = .ok (.getfield 13, 3) := dgX12_law_3 (208, (.getfield 13, 3)) (List.mem_of_getElem? (i := 0) rfl)
theorem dX12_law_211 : decode cX12_law 211 = .ok (.iload_n 1, 1) := dgX12_law_3 (211, (.iload_n 1, 1)) (List.mem_of_getElem? (i := 1) rfl)
theorem dX12_law_212 : decode cX12_law 212 = .ok (.bipush 98, 2) := dgX12_law_3 (212, (.bipush 98, 2)) (List.mem_of_getElem? (i := 2) rfl)
theorem dX12_law_214 : decode cX12_law 214 = .ok (.iadd, 1) := dgX12_law_3 (214, (.iadd, 1)) (List.mem_of_getElem? (i := 3) rfl)
theorem dX12_law_215 : decode cX12_law 215 = .ok (.iconst 2, 1) := dgX12_law_3 (215, (.iconst 2, 1)) (List.mem_of_getElem? (i := 4) rfl)
theorem dX12_law_216 : decode cX12_law 216 = .ok (.iload_n 2, 1) := dgX12_law_3 (216, (.iload_n 2, 1)) (List.mem_of_getElem? (i := 5) rfl)
theorem dX12_law_217 : decode cX12_law 217 = .ok (.imul, 1) := dgX12_law_3 (217, (.imul, 1)) (List.mem_of_getElem? (i := 6) rfl)
theorem dX12_law_218 : decode cX12_law 218 = .ok (.iadd, 1) := dgX12_law_3 (218, (.iadd, 1)) (List.mem_of_getElem? (i := 7) rfl)
theorem dX12_law_219 : decode cX12_law 219 = .ok (.iconst 1, 1) := dgX12_law_3 (219, (.iconst 1, 1)) (List.mem_of_getElem? (i := 8) rfl)
theorem dX12_law_220 : decode cX12_law 220 = .ok (.iadd, 1) := dgX12_law_3 (220, (.iadd, 1)) (List.mem_of_getElem? (i := 9) rfl)
theorem dX12_law_221 : decode cX12_law 221 = .ok (.aload_n 0, 1) := dgX12_law_3 (221, (.aload_n 0, 1)) (List.mem_of_getElem? (i := 10) rfl)
theorem dX12_law_222 : decode cX12_law 222 = .ok (.getfield 36, 3) := dgX12_law_3 (222, (.getfield 36, 3)) (List.mem_of_getElem? (i := 11) rfl)
theorem dX12_law_225 : decode cX12_law 225 = .ok (.iload_n 2, 1) := dgX12_law_3 (225, (.iload_n 2, 1)) (List.mem_of_getElem? (i := 12) rfl)
theorem dX12_law_226 : decode cX12_law 226 = .ok (.iaload, 1) := dgX12_law_3 (226, (.iaload, 1)) (List.mem_of_getElem? (i := 13) rfl)
theorem dX12_law_227 : decode cX12_law 227 = .ok (.iastore, 1) := dgX12_law_3 (227, (.iastore, 1)) (List.mem_of_getElem? (i := 14) rfl)
theorem dX12_law_228 : decode cX12_law 228 = .ok (.iinc 2 1, 3) := dgX12_law_3 (228, (.iinc 2 1, 3)) (List.mem_of_getElem? (i := 15) rfl)
theorem dX12_law_231 : decode cX12_law 231 = .ok (.goto (-51), 3) := dgX12_law_3 (231, (.goto (-51), 3)) (List.mem_of_getElem? (i := 16) rfl)
theorem dX12_law_234 : decode cX12_law 234 = .ok (.aload_n 0, 1) := dgX12_law_3 (234, (.aload_n 0, 1)) (List.mem_of_getElem? (i := 17) rfl)
theorem dX12_law_235 : decode cX12_law 235 = .ok (.getfield 13, 3) := dgX12_law_3 (235, (.getfield 13, 3)) (List.mem_of_getElem? (i := 18) rfl)
theorem dX12_law_238 : decode cX12_law 238 = .ok (.iconst 2, 1) := dgX12_law_3 (238, (.iconst 2, 1)) (List.mem_of_getElem? (i := 19) rfl)
theorem dX12_law_239 : decode cX12_law 239 = .ok (.dup2, 1) := dgX12_law_3 (239, (.dup2, 1)) (List.mem_of_getElem? (i := 20) rfl)
theorem dX12_law_240 : decode cX12_law 240 = .ok (.iaload, 1) := dgX12_law_3 (240, (.iaload, 1)) (List.mem_of_getElem? (i := 21) rfl)
theorem dX12_law_241 : decode cX12_law 241 = .ok (.iconst 1, 1) := dgX12_law_3 (241, (.iconst 1, 1)) (List.mem_of_getElem? (i := 22) rfl)
theorem dX12_law_242 : decode cX12_law 242 = .ok (.iadd, 1) := dgX12_law_3 (242, (.iadd, 1)) (List.mem_of_getElem? (i := 23) rfl)
theorem dX12_law_243 : decode cX12_law 243 = .ok (.iastore, 1) := dgX12_law_3 (243, (.iastore, 1)) (List.mem_of_getElem? (i := 24) rfl)
theorem dX12_law_244 : decode cX12_law 244 = .ok (.aload_n 0, 1) := dgX12_law_3 (244, (.aload_n 0, 1)) (List.mem_of_getElem? (i := 25) rfl)
theorem dX12_law_245 : decode cX12_law 245 = .ok (.aload_n 0, 1) := dgX12_law_3 (245, (.aload_n 0, 1)) (List.mem_of_getElem? (i := 26) rfl)
theorem dX12_law_246 : decode cX12_law 246 = .ok (.getfield 13, 3) := dgX12_law_3 (246, (.getfield 13, 3)) (List.mem_of_getElem? (i := 27) rfl)
theorem dX12_law_249 : decode cX12_law 249 = .ok (.iconst 2, 1) := dgX12_law_3 (249, (.iconst 2, 1)) (List.mem_of_getElem? (i := 28) rfl)
theorem dX12_law_250 : decode cX12_law 250 = .ok (.iaload, 1) := dgX12_law_3 (250, (.iaload, 1)) (List.mem_of_getElem? (i := 29) rfl)
theorem dX12_law_251 : decode cX12_law 251 = .ok (.iconst 1, 1) := dgX12_law_3 (251, (.iconst 1, 1)) (List.mem_of_getElem? (i := 30) rfl)
theorem dX12_law_252 : decode cX12_law 252 = .ok (.isub, 1) := dgX12_law_3 (252, (.isub, 1)) (List.mem_of_getElem? (i := 31) rfl)
theorem dX12_law_253 : decode cX12_law 253 = .ok (.invokevirtual 125, 3) := dgX12_law_3 (253, (.invokevirtual 125, 3)) (List.mem_of_getElem? (i := 32) rfl)
theorem dX12_law_256 : decode cX12_law 256 = .ok (.ireturn, 1) := dgX12_law_3 (256, (.ireturn, 1)) (List.mem_of_getElem? (i := 33) rfl)
theorem ml_X12_320 : Cond.methodLink RX12 320 yX12_begin ∈ tblG := tg 1500 (by decide +kernel) (by decide +kernel)
theorem im_X12_begin : Cond.instanceMethod yX12_begin ∈ tblG := tg 1502 (by decide +kernel) (by decide +kernel)
theorem se_X12_begin : Cond.selects RX12 yX12_begin yX12_begin ∈ tblG := tg 43 (by decide +kernel) (by decide +kernel)
theorem cd_X12_begin : Cond.code yX12_begin cX12_begin 1 none ∈ tblG := tg 1503 (by decide +kernel) (by decide +kernel)
theorem gW_X12_begin : GoodIn tblG (wsG yX12_begin cX12_begin 1 none) := tgi cd_X12_begin
theorem gV_X12_320 : GoodIn tblG (wsV RX12 320 RX12 yX12_begin (wsG yX12_begin cX12_begin 1 none)) := tgV ml_X12_320 im_X12_begin se_X12_begin ini_X12 gW_X12_begin
theorem hv_X12_begin : yX12_begin.cls = RX12 ∧ yX12_begin.cls ≠ "java/lang/invoke/MethodHandle" ∧ yX12_begin.cls ≠ "java/lang/invoke/VarHandle" ∧ (parseMethodDescriptor yX12_begin.desc).map (fun d => d.parameters.length) = some 0 := by decide +kernel
theorem ml_X12_323 : Cond.methodLink RX12 323 yX12_readClause ∈ tblG := tg 1517 (by decide +kernel) (by decide +kernel)
theorem im_X12_readClause : Cond.instanceMethod yX12_readClause ∈ tblG := tg 1519 (by decide +kernel) (by decide +kernel)
theorem se_X12_readClause : Cond.selects RX12 yX12_readClause yX12_readClause ∈ tblG := tg 45 (by decide +kernel) (by decide +kernel)
theorem cd_X12_readClause : Cond.code yX12_readClause cX12_readClause 4 none ∈ tblG := tg 1520 (by decide +kernel) (by decide +kernel)
theorem gW_X12_readClause : GoodIn tblG (wsG yX12_readClause cX12_readClause 4 none) := tgi cd_X12_readClause
theorem gV_X12_323 : GoodIn tblG (wsV RX12 323 RX12 yX12_readClause (wsG yX12_readClause cX12_readClause 4 none)) := tgV ml_X12_323 im_X12_readClause se_X12_readClause ini_X12 gW_X12_readClause
theorem hv_X12_readClause : yX12_readClause.cls = RX12 ∧ yX12_readClause.cls ≠ "java/lang/invoke/MethodHandle" ∧ yX12_readClause.cls ≠ "java/lang/invoke/VarHandle" ∧ (parseMethodDescriptor yX12_readClause.desc).map (fun d => d.parameters.length) = some 0 := by decide +kernel
set_option maxHeartbeats 4000000 in
set_option maxRecDepth 100000 in
theorem n_goesOnP (l : Launch) (G : g5_G) (b_o b_ah b_me b_rf b_ro b_im b_ke b_tp b_nl b_op b_ar b_pi b_pa b_ws b_hw b_se b_re b_pt b_ip b_be b_tr b_ld b_wn : Nat) (sz : Nat) (u_th : Int32) (u_sa : Int32) (u_fd : Int32) (u_td : Int32) (u_fr : Int32) (u_to : Int32) (u_so : Int32) (u_fa : Int32) (u_bd : Int32) (u_nc : Int32) (u_co : Int32) (u_le : Int32) (u_pd : Int32) (u_od : Int32) (u_la : Int32) (u_bk : Int32) (u_ce : Int32) (u_ho : Int32) (u_wy : Int32) (u_bt : Int32) (u_ps : Int32) (u_tg : Int32) (u_sn : Int32) (u_ic : Int32) (u_wd : Int32) (u_id : Int32) (p_1 : Int32) (p_2 : Int32) (u_wo : Int64) (u_va : Int64) (u_su : Int64) (u_st : Int64) (v_ah : Nat → Int64) (v_me : Nat → Int32) (h_u_td : 0 ≤ u_td.toInt ∧ u_td.toInt ≤ 400) (h_u_fr : 0 ≤ u_fr.toInt ∧ u_fr.toInt ≤ 400) (h_u_to : 0 ≤ u_to.toInt ∧ u_to.toInt ≤ 400) (h_u_bd : 0 ≤ u_bd.toInt ∧ u_bd.toInt ≤ 1) (h_u_nc : 0 ≤ u_nc.toInt ∧ u_nc.toInt ≤ 12) (h_u_co : 0 ≤ u_co.toInt ∧ u_co.toInt ≤ 400) (h_u_pd : 0 ≤ u_pd.toInt ∧ u_pd.toInt ≤ 400) (h_u_la : 0 ≤ u_la.toInt ∧ u_la.toInt ≤ 4840) (h_u_bk : 0 ≤ u_bk.toInt ∧ u_bk.toInt ≤ 1) (h_u_ce : 0 ≤ u_ce.toInt ∧ u_ce.toInt ≤ 63) (h_u_ho : 0 ≤ u_ho.toInt ∧ u_ho.toInt ≤ 23) (h_u_wy : 0 ≤ u_wy.toInt ∧ u_wy.toInt ≤ 3) (h_u_bt : 0 ≤ u_bt.toInt ∧ u_bt.toInt ≤ 1000000) (h_u_ps : 0 ≤ u_ps.toInt ∧ u_ps.toInt ≤ 200) (h_u_ic : 0 ≤ u_ic.toInt ∧ u_ic.toInt ≤ 1) (h_u_id : 0 ≤ u_id.toInt ∧ u_id.toInt ≤ 1) (h_p_1 : 0 ≤ p_1.toInt ∧ p_1.toInt ≤ 22) (h_p_2 : 0 ≤ p_2.toInt ∧ p_2.toInt ≤ 63) (r_me : MEI v_me) : Met l yX12_goesOn (wsG yX12_goesOn cX12_goesOn 6 none) ({ frames := 2, cells := 0, slots := 0, locals := 45 }) (va_Pc [.ref b_o, .int p_1, .int p_2] (g5_P G [(b_o, (oc12 u_th u_sa b_rf b_ro b_im b_ke u_fd b_tp u_td u_fr u_to u_so u_wo u_fa u_bd u_nc b_nl u_co b_op b_ar u_le b_pi b_pa u_pd u_od b_ws b_hw u_la b_se b_re u_bk u_va u_su u_ce u_ho u_wy u_bt u_ps b_pt u_tg u_sn b_ip u_ic b_ah b_be b_me u_wd b_tr b_ld u_st b_wn u_id)), (b_ah, (arJ G 49152 v_ah)), (b_me, (arI G 1536 v_me))] sz)) (va_Qv (fun (u : va_W) => (∃ (o_ah : Nat → Int64), (AHK o_ah v_ah) ∧ (u = [(b_o, (oc12 u_th u_sa b_rf b_ro b_im b_ke u_fd b_tp u_td u_fr u_to u_so u_wo u_fa u_bd u_nc b_nl u_co b_op b_ar u_le b_pi b_pa u_pd u_od b_ws b_hw u_la b_se b_re u_bk u_va u_su u_ce u_ho u_wy u_bt u_ps b_pt u_tg u_sn b_ip u_ic b_ah b_be b_me u_wd b_tr b_ld u_st b_wn u_id)), (b_ah, (arJ G 49152 o_ah)), (b_me, (arI G 1536 v_me))]))) (g5_B G (va_A [(b_o, (oc12 u_th u_sa b_rf b_ro b_im b_ke u_fd b_tp u_td u_fr u_to u_so u_wo u_fa u_bd u_nc b_nl u_co b_op b_ar u_le b_pi b_pa u_pd u_od b_ws b_hw u_la b_se b_re u_bk u_va u_su u_ce u_ho u_wy u_bt u_ps b_pt u_tg u_sn b_ip u_ic b_ah b_be b_me u_wd b_tr b_ld u_st b_wn u_id)), (b_ah, (arJ G 49152 v_ah)), (b_me, (arI G 1536 v_me))] sz)) (va_A [(b_o, (oc12 u_th u_sa b_rf b_ro b_im b_ke u_fd b_tp u_td u_fr u_to u_so u_wo u_fa u_bd u_nc b_nl u_co b_op b_ar u_le b_pi b_pa u_pd u_od b_ws b_hw u_la b_se b_re u_bk u_va u_su u_ce u_ho u_wy u_bt u_ps b_pt u_tg u_sn b_ip u_ic b_ah b_be b_me u_wd b_tr b_ld u_st b_wn u_id)), (b_ah, (arJ G 49152 v_ah)), (b_me, (arI G 1536 v_me))] sz)) 0 0 (va_A [(b_o, (oc12 u_th u_sa b_rf b_ro b_im b_ke u_fd b_tp u_td u_fr u_to u_so u_wo u_fa u_bd u_nc b_nl u_co b_op b_ar u_le b_pi b_pa u_pd u_od b_ws b_hw u_la b_se b_re u_bk u_va u_su u_ce u_ho u_wy u_bt u_ps b_pt u_tg u_sn b_ip u_ic b_ah b_be b_me u_wd b_tr b_ld u_st b_wn u_id)), (b_ah, (arJ G 49152 v_ah)), (b_me, (arI G 1536 v_me))] sz) := by
  refine Met.ofW (cc := cX12_goesOn) (maxL := 6) (ret := none) (by decide +kernel) rfl ?_
  intro p e s m args below meth c s₁ B hml hv
  obtain ⟨rfl, hsz, hP, hK, hD0, hN, hT⟩ := hv
  have hx := B.exec
  have hb := B.bytes
  have hr := B.returns
  have hts : ∀ w ∈ tblG, w.before _ s = true := fun w h => atoms_spec (ws := (wsG yX12_goesOn cX12_goesOn 6 none)) B.pre w (List.mem_cons_of_mem _ h)
  have hown : s.vm.findClass RX12 = some m.cls := findClass_of_methodNamed B.named
  have hlocks := B.notSynchronized
  subst hsz
  have hD := hD0.self (sz := s.heap.size)
  generalize hAe : va_A [(b_o, (oc12 u_th u_sa b_rf b_ro b_im b_ke u_fd b_tp u_td u_fr u_to u_so u_wo u_fa u_bd u_nc b_nl u_co b_op b_ar u_le b_pi b_pa u_pd u_od b_ws b_hw u_la b_se b_re u_bk u_va u_su u_ce u_ho u_wy u_bt u_ps b_pt u_tg u_sn b_ip u_ic b_ah b_be b_me u_wd b_tr b_ld u_st b_wn u_id)), (b_ah, (arJ G 49152 v_ah)), (b_me, (arI G 1536 v_me))] s.heap.size = A at hD hT ⊢
  have hA : ∀ q : Nat, s.heap.size ≤ q → A q := fun q h => by rw [← hAe]; exact Or.inr h
  have hS : va_S A s.heap s.heap [] := va_S.rf
  replace hP : va_P G.1 vwCl [(b_o, (oc12 u_th u_sa b_rf b_ro b_im b_ke u_fd b_tp u_td u_fr u_to u_so u_wo u_fa u_bd u_nc b_nl u_co b_op b_ar u_le b_pi b_pa u_pd u_od b_ws b_hw u_la b_se b_re u_bk u_va u_su u_ce u_ho u_wy u_bt u_ps b_pt u_tg u_sn b_ip u_ic b_ah b_be b_me u_wd b_tr b_ld u_st b_wn u_id)), (b_ah, (arJ G 49152 v_ah)), (b_me, (arI G 1536 v_me))] s.heap := hP
  have hl := lv_entry ([.ref b_o, .int p_1, .int p_2]) (n := 6) (Nat.le_of_ble_eq_true rfl)
  rw [lg_entry_eq]
  generalize (lg_sl ([.ref b_o, .int p_1, .int p_2]) ++ List.replicate (6 - (lg_sl ([.ref b_o, .int p_1, .int p_2])).length) Slot.unset).toArray = ls at hl ⊢
  replace hl : lv_has ls 6 [(0, .ref b_o), (1, .int p_1), (2, .int p_2)] := hl
  refine lv_iconst (v := 0) hx hb dX12_goesOn_0 (by decide +kernel) ?_
  refine lv_istore_n (lv' := [(3, .int 0), (0, .ref b_o), (1, .int p_1), (2, .int p_2)]) hx hb dX12_goesOn_1 rfl hl (by decide +kernel) rfl ?_
  clear hl
  intro ls hl
  refine g5_loop (α := (Int32) × (Nat → Int64)) (fun (q : (Int32) × (Nat → Int64)) (ls : Array Slot) (H : Heap) (locs : List Loc) => match q with | (k2_3, k2_ah) => lv_has ls 6 [(3, .int k2_3), (0, .ref b_o), (1, .int p_1), (2, .int p_2)] ∧ va_P G.1 vwCl [(b_o, (oc12 u_th u_sa b_rf b_ro b_im b_ke u_fd b_tp u_td u_fr u_to u_so u_wo u_fa u_bd u_nc b_nl u_co b_op b_ar u_le b_pi b_pa u_pd u_od b_ws b_hw u_la b_se b_re u_bk u_va u_su u_ce u_ho u_wy u_bt u_ps b_pt u_tg u_sn b_ip u_ic b_ah b_be b_me u_wd b_tr b_ld u_st b_wn u_id)), (b_ah, (arJ G 49152 k2_ah)), (b_me, (arI G 1536 v_me))] H ∧ va_D A [(b_o, (oc12 u_th u_sa b_rf b_ro b_im b_ke u_fd b_tp u_td u_fr u_to u_so u_wo u_fa u_bd u_nc b_nl u_co b_op b_ar u_le b_pi b_pa u_pd u_od b_ws b_hw u_la b_se b_re u_bk u_va u_su u_ce u_ho u_wy u_bt u_ps b_pt u_tg u_sn b_ip u_ic b_ah b_be b_me u_wd b_tr b_ld u_st b_wn u_id)), (b_ah, (arJ G 49152 k2_ah)), (b_me, (arI G 1536 v_me))] ∧ va_S A s.heap H locs ∧ (0 ≤ k2_3.toInt ∧ k2_3.toInt ≤ 5) ∧ (AHK k2_ah v_ah)) (fun (q : (Int32) × (Nat → Int64)) => match q with | (k2_3, k2_ah) => Int.toNat (5 - k2_3.toInt)) (0, v_ah) ⟨lv_sub hl [0, 1, 2, 3] rfl, hP, hD, hS, ⟨by decide, by decide⟩, ahk_rf⟩ ?_
  rintro ⟨k2_3, k2_ah⟩ ls H locs ⟨hl, hP, hD, hS, (i_1 : 0 ≤ k2_3.toInt ∧ k2_3.toInt ≤ 5), (i_2 : AHK k2_ah v_ah)⟩ ih_2_3
  replace hl : lv_has ls 6 [(3, .int k2_3), (0, .ref b_o), (1, .int p_1), (2, .int p_2)] := hl
  refine g5_rs [(b_o, (oc12 u_th u_sa b_rf b_ro b_im b_ke u_fd b_tp u_td u_fr u_to u_so u_wo u_fa u_bd u_nc b_nl u_co b_op b_ar u_le b_pi b_pa u_pd u_od b_ws b_hw u_la b_se b_re u_bk u_va u_su u_ce u_ho u_wy u_bt u_ps b_pt u_tg u_sn b_ip u_ic b_ah b_be b_me u_wd b_tr b_ld u_st b_wn u_id)), (b_ah, (arJ G 49152 k2_ah)), (b_me, (arI G 1536 v_me))] hP hD ?_
  clear hP hD
  intro hP hD
  refine lv_iload_n hx hb dX12_goesOn_2 rfl (lv_at hl 0 rfl) ?_
  refine lv_iconst (v := 5) hx hb dX12_goesOn_3 (by decide +kernel) ?_
  refine lv_icmp_ge (tgt := 101) hx hb dX12_goesOn_4 (by decide +kernel) (fun c_4 => ?_) (fun c_4 => ?_)
  ·
    have i_4 : k2_3.toInt ≥ 5 := g5_ge (a := k2_3.toInt) (b := 5) rfl (by decide +kernel) c_4
    exact W.vret hx hb hr (fun t ht hW => ⟨⟨[(b_o, (oc12 u_th u_sa b_rf b_ro b_im b_ke u_fd b_tp u_td u_fr u_to u_so u_wo u_fa u_bd u_nc b_nl u_co b_op b_ar u_le b_pi b_pa u_pd u_od b_ws b_hw u_la b_se b_re u_bk u_va u_su u_ce u_ho u_wy u_bt u_ps b_pt u_tg u_sn b_ip u_ic b_ah b_be b_me u_wd b_tr b_ld u_st b_wn u_id)), (b_ah, (arJ G 49152 k2_ah)), (b_me, (arI G 1536 v_me))], rfl, ⟨k2_ah, i_2, rfl⟩, by rw [ht]; exact hP.sub [0, 1, 2] rfl, hD.sub [0, 1, 2] (by decide +kernel) rfl⟩, hS.F ht⟩) hS.2.2 dX12_goesOn_101
  ·
    have i_4 : k2_3.toInt < 5 := g5_geN (a := k2_3.toInt) (b := 5) rfl (by decide +kernel) c_4
    refine lv_aload_n hx hb dX12_goesOn_7 rfl (lv_at hl 1 rfl) ?_
    refine lv_iload_n hx hb dX12_goesOn_8 rfl (lv_at hl 3 rfl) ?_
    refine lv_iload_n hx hb dX12_goesOn_9 rfl (lv_at hl 0 rfl) ?_
    refine lv_iload_n hx hb dX12_goesOn_10 rfl (lv_at hl 2 rfl) ?_
    refine W.eq (g2 := F0 m 11 ls [.int p_1, .int k2_3, .int p_2, .ref b_o]) rfl ?_
    refine lv_iconst (v := 1) hx hb dX12_goesOn_11 (by decide +kernel) ?_
    refine lv_iadd hx hb dX12_goesOn_12 ?_
    have t_5 : (p_1 + 1).toInt = p_1.toInt + 1 := g5_iadd (a := p_1.toInt) (b := 1) (by rfl) (by decide +kernel) (by omega) (by omega)
    obtain ⟨hPc, hDc, hFc⟩ := g5_sub3 (wc := [(b_o, (oc12 u_th u_sa b_rf b_ro b_im b_ke u_fd b_tp u_td u_fr u_to u_so u_wo u_fa u_bd u_nc b_nl u_co b_op b_ar u_le b_pi b_pa u_pd u_od b_ws b_hw u_la b_se b_re u_bk u_va u_su u_ce u_ho u_wy u_bt u_ps b_pt u_tg u_sn b_ip u_ic b_ah b_be b_me u_wd b_tr b_ld u_st b_wn u_id)), (b_me, (arI G 1536 v_me))]) hP hD hS hA [0, 2] (by decide +kernel) rfl
    refine va_calli (va_runV (As := [.int p_2, .int k2_3, .int (p_1 + 1)]) (rest := []) ⟨hx, hb, hml, hown, hts⟩ (n_step l G b_o b_me b_rf b_ro b_im b_ke b_tp b_nl b_op b_ar b_pi b_pa b_ws b_hw b_se b_re b_pt b_ip b_ah b_be b_tr b_ld b_wn H.size u_th u_sa u_fd u_td u_fr u_to u_so u_fa u_bd u_nc u_co u_le u_pd u_od u_la u_bk u_ce u_ho u_wy u_bt u_ps u_tg u_sn u_ic u_wd u_id p_2 k2_3 (p_1 + 1) u_wo u_va u_su u_st v_me h_u_td h_u_fr h_u_to h_u_bd h_u_nc h_u_co h_u_pd h_u_la h_u_bk h_u_ce h_u_ho h_u_wy h_u_bt h_u_ps h_u_ic h_u_id h_p_2 ⟨by omega, by omega⟩ ⟨by omega, by omega⟩ (r_me)) (cwV 3 hts gV_X12_437 rfl rfl rfl hv_X12_step ⟨Nat.le_of_ble_eq_true rfl, Nat.le_of_ble_eq_true rfl⟩) (g5_preV hPc hK hDc hN hT hS hFc (ci := 12) (q0 := 0) rfl rfl) rfl rfl hl.1 rfl (lv_room (Nat.le_of_ble_eq_true rfl)) dX12_goesOn_13 ⟨Nat.le_of_ble_eq_true rfl, Nat.le_of_ble_eq_true rfl⟩) hS (fun q _ h => hFc q h) hFc (fun r u t H locs ht hvm hw hB hz1 hk1 hS => ?_)
    obtain ⟨hP1, hD1⟩ := hB
    have hP1 := g5_ht ht hP1
    obtain ⟨z8, (i_6 : (-1) ≤ z8.toInt ∧ z8.toInt ≤ 63), (i_7 : z8.toInt = -1 ∨ (v_me (64 * (p_1 + 1).toInt + z8.toInt).toNat).toInt < 64), y9, rfl⟩ := hw
    have hJ9 := va_join (wr := [(b_ah, (arJ G 49152 k2_ah))]) hP hD [0, 2] [1] rfl rfl (by decide +kernel) (by decide +kernel) hk1 hFc hP1 hD1
    clear hP hD hPc hDc hFc ht hvm hz1 hk1 hP1 hD1
    obtain ⟨hP, hD⟩ := hJ9
    refine g5_rs [(b_ah, (arJ G 49152 k2_ah)), (b_o, (oc12 u_th u_sa b_rf b_ro b_im b_ke u_fd b_tp u_td u_fr u_to u_so u_wo u_fa u_bd u_nc b_nl u_co b_op b_ar u_le b_pi b_pa u_pd u_od b_ws b_hw u_la b_se b_re u_bk u_va u_su u_ce u_ho u_wy u_bt u_ps b_pt u_tg u_sn b_ip u_ic b_ah b_be b_me u_wd b_tr b_ld u_st b_wn u_id)), (b_me, (arI G 1536 v_me))] hP hD ?_
    clear hP hD
    intro hP hD
    refine g5_ti (v := z8) y9 ?_
    refine lv_istore (lv' := [(4, .int z8), (3, .int k2_3), (0, .ref b_o), (1, .int p_1), (2, .int p_2)]) hx hb dX12_goesOn_16 hl (by decide +kernel) rfl ?_
    clear hl
    intro ls hl
    refine lv_iconst (v := 0) hx hb dX12_goesOn_18 (by decide +kernel) ?_
    refine W.eq (g2 := F0 m 19 ls [.int 0]) rfl ?_
    refine lv_istore (lv' := [(5, .int 0), (4, .int z8), (3, .int k2_3), (0, .ref b_o), (1, .int p_1), (2, .int p_2)]) hx hb dX12_goesOn_19 hl (by decide +kernel) rfl ?_
    clear hl
    intro ls hl
    refine g5_loop (α := (Int32) × (Nat → Int64)) (fun (q : (Int32) × (Nat → Int64)) (ls : Array Slot) (H : Heap) (locs : List Loc) => match q with | (k21_5, k21_ah) => lv_has ls 6 [(5, .int k21_5), (4, .int z8), (3, .int k2_3), (0, .ref b_o), (1, .int p_1), (2, .int p_2)] ∧ va_P G.1 vwCl [(b_ah, (arJ G 49152 k21_ah)), (b_o, (oc12 u_th u_sa b_rf b_ro b_im b_ke u_fd b_tp u_td u_fr u_to u_so u_wo u_fa u_bd u_nc b_nl u_co b_op b_ar u_le b_pi b_pa u_pd u_od b_ws b_hw u_la b_se b_re u_bk u_va u_su u_ce u_ho u_wy u_bt u_ps b_pt u_tg u_sn b_ip u_ic b_ah b_be b_me u_wd b_tr b_ld u_st b_wn u_id)), (b_me, (arI G 1536 v_me))] H ∧ va_D A [(b_ah, (arJ G 49152 k21_ah)), (b_o, (oc12 u_th u_sa b_rf b_ro b_im b_ke u_fd b_tp u_td u_fr u_to u_so u_wo u_fa u_bd u_nc b_nl u_co b_op b_ar u_le b_pi b_pa u_pd u_od b_ws b_hw u_la b_se b_re u_bk u_va u_su u_ce u_ho u_wy u_bt u_ps b_pt u_tg u_sn b_ip u_ic b_ah b_be b_me u_wd b_tr b_ld u_st b_wn u_id)), (b_me, (arI G 1536 v_me))] ∧ va_S A s.heap H locs ∧ (0 ≤ k21_5.toInt ∧ k21_5.toInt ≤ 32) ∧ (AHK k21_ah v_ah)) (fun (q : (Int32) × (Nat → Int64)) => match q with | (k21_5, k21_ah) => Int.toNat (32 - k21_5.toInt)) (0, k2_ah) ⟨lv_sub hl [0, 1, 2, 3, 4, 5] rfl, hP, hD, hS, ⟨by decide, by decide⟩, i_2⟩ ?_
    rintro ⟨k21_5, k21_ah⟩ ls H locs ⟨hl, hP, hD, hS, (i_10 : 0 ≤ k21_5.toInt ∧ k21_5.toInt ≤ 32), (i_11 : AHK k21_ah v_ah)⟩ ih_21_12
    replace hl : lv_has ls 6 [(5, .int k21_5), (4, .int z8), (3, .int k2_3), (0, .ref b_o), (1, .int p_1), (2, .int p_2)] := hl
    refine g5_rs [(b_ah, (arJ G 49152 k21_ah)), (b_o, (oc12 u_th u_sa b_rf b_ro b_im b_ke u_fd b_tp u_td u_fr u_to u_so u_wo u_fa u_bd u_nc b_nl u_co b_op b_ar u_le b_pi b_pa u_pd u_od b_ws b_hw u_la b_se b_re u_bk u_va u_su u_ce u_ho u_wy u_bt u_ps b_pt u_tg u_sn b_ip u_ic b_ah b_be b_me u_wd b_tr b_ld u_st b_wn u_id)), (b_me, (arI G 1536 v_me))] hP hD ?_
    clear hP hD
    intro hP hD
    refine lv_iload hx hb dX12_goesOn_21 (lv_at hl 0 rfl) ?_
    refine lv_bipush (v := 32) hx hb dX12_goesOn_23 (by decide +kernel) ?_
    refine lv_icmp_ge (tgt := 95) hx hb dX12_goesOn_25 (by decide +kernel) (fun c_13 => ?_) (fun c_13 => ?_)
    ·
      have i_13 : k21_5.toInt ≥ 32 := g5_ge (a := k21_5.toInt) (b := 32) rfl (by decide +kernel) c_13
      refine lv_iinc (v := (k2_3 + 1)) (lv' := [(3, .int (k2_3 + 1)), (5, .int k21_5), (4, .int z8), (0, .ref b_o), (1, .int p_1), (2, .int p_2)]) hx hb dX12_goesOn_95 hl (k := 2) rfl rfl (by decide +kernel) rfl ?_
      clear hl
      intro ls hl
      have t_14 : (k2_3 + 1).toInt = k2_3.toInt + 1 := g5_iadd (a := k2_3.toInt) (b := 1) rfl (by decide +kernel) (by omega) (by omega)
      refine lv_goto (tgt := 2) hx hb dX12_goesOn_98 (by decide +kernel) ?_
      exact ih_2_3 ((k2_3 + 1), k21_ah) ls H locs (show Int.toNat (5 - (k2_3 + 1).toInt) < Int.toNat (5 - k2_3.toInt) from g_up (show k2_3.toInt < (k2_3 + 1).toInt by omega) (show k2_3.toInt < 5 by omega)) ⟨lv_sub hl [0, 3, 4, 5] rfl, hP.sub [1, 0, 2] rfl, hD.sub [1, 0, 2] (by decide +kernel) rfl, hS, ⟨by omega, by omega⟩, i_11⟩
    ·
      have i_13 : k21_5.toInt < 32 := g5_geN (a := k21_5.toInt) (b := 32) rfl (by decide +kernel) c_13
      refine lv_iload hx hb dX12_goesOn_28 (lv_at hl 1 rfl) ?_
      refine lv_iconst (v := (-1)) hx hb dX12_goesOn_30 (by decide +kernel) ?_
      refine lv_icmp_eq (tgt := 95) hx hb dX12_goesOn_31 (by decide +kernel) (fun c_15 => ?_) (fun c_15 => ?_)
      ·
        have i_15 : z8.toInt = (-1) := g5_eq (a := z8.toInt) (b := (-1)) rfl (by decide +kernel) c_15
        refine lv_iinc (v := (k2_3 + 1)) (lv' := [(3, .int (k2_3 + 1)), (5, .int k21_5), (4, .int z8), (0, .ref b_o), (1, .int p_1), (2, .int p_2)]) hx hb dX12_goesOn_95 hl (k := 2) rfl rfl (by decide +kernel) rfl ?_
        clear hl
        intro ls hl
        have t_16 : (k2_3 + 1).toInt = k2_3.toInt + 1 := g5_iadd (a := k2_3.toInt) (b := 1) rfl (by decide +kernel) (by omega) (by omega)
        refine lv_goto (tgt := 2) hx hb dX12_goesOn_98 (by decide +kernel) ?_
        exact ih_2_3 ((k2_3 + 1), k21_ah) ls H locs (show Int.toNat (5 - (k2_3 + 1).toInt) < Int.toNat (5 - k2_3.toInt) from g_up (show k2_3.toInt < (k2_3 + 1).toInt by omega) (show k2_3.toInt < 5 by omega)) ⟨lv_sub hl [0, 3, 4, 5] rfl, hP.sub [1, 0, 2] rfl, hD.sub [1, 0, 2] (by decide +kernel) rfl, hS, ⟨by omega, by omega⟩, i_11⟩
      ·
        have n_15 : gNe (z8.toInt) ((-1)) := g5_eqN (a := z8.toInt) (b := (-1)) rfl (by decide +kernel) c_15
        have i_15 : z8.toInt ≥ 0 := by have z := g5_eqN (a := z8.toInt) (b := (-1)) (by rfl) (by decide +kernel) c_15; omega
        refine lv_aload_n hx hb dX12_goesOn_34 rfl (lv_at hl 3 rfl) ?_
        refine va_get (D := G.1) (ci := 12) (v := .ref b_ah) (C := RX12) (T := TX12) (N := 52) hx hb hts inG_X12 hown hK hP 1 rfl rfl 43 (by decide +kernel) (hts _ fl_X12_89) (fun _ h9 => h9) rfl dX12_goesOn_35 ?_
        refine lv_bipush (v := 32) hx hb dX12_goesOn_38 (by decide +kernel) ?_
        refine lv_bipush (v := 64) hx hb dX12_goesOn_40 (by decide +kernel) ?_
        refine W.eq (g2 := F0 m 42 ls [.int 64, .int 32, .ref b_ah]) rfl ?_
        refine lv_iload_n hx hb dX12_goesOn_42 rfl (lv_at hl 4 rfl) ?_
        refine lv_iconst (v := 1) hx hb dX12_goesOn_43 (by decide +kernel) ?_
        refine lv_iadd hx hb dX12_goesOn_44 ?_
        have t_17 : (p_1 + 1).toInt = p_1.toInt + 1 := g5_iadd (a := p_1.toInt) (b := 1) (by rfl) (by decide +kernel) (by omega) (by omega)
        refine lv_imul hx hb dX12_goesOn_45 ?_
        have t_18 : (64 * (p_1 + 1)).toInt = 64 * (p_1 + 1).toInt := g5_imul (a := 64) (b := (p_1 + 1).toInt) (by decide +kernel) (by rfl) (by omega) (by omega)
        refine lv_iload hx hb dX12_goesOn_46 (lv_at hl 1 rfl) ?_
        refine W.eq (g2 := F0 m 48 ls [.int z8, .int (64 * (p_1 + 1)), .int 32, .ref b_ah]) rfl ?_
        refine lv_iadd hx hb dX12_goesOn_48 ?_
        have t_19 : ((64 * (p_1 + 1)) + z8).toInt = (64 * (p_1 + 1)).toInt + z8.toInt := g5_iadd (a := (64 * (p_1 + 1)).toInt) (b := z8.toInt) (by rfl) (by rfl) (by omega) (by omega)
        refine lv_imul hx hb dX12_goesOn_49 ?_
        have t_20 : (32 * ((64 * (p_1 + 1)) + z8)).toInt = 32 * ((64 * (p_1 + 1)) + z8).toInt := g5_imul (a := 32) (b := ((64 * (p_1 + 1)) + z8).toInt) (by decide +kernel) (by rfl) (by omega) (by omega)
        refine lv_iload hx hb dX12_goesOn_50 (lv_at hl 0 rfl) ?_
        refine lv_aload_n hx hb dX12_goesOn_52 rfl (lv_at hl 3 rfl) ?_
        refine va_get (D := G.1) (ci := 12) (v := .ref b_me) (C := RX12) (T := TX12) (N := 52) hx hb hts inG_X12 hown hK hP 1 rfl rfl 45 (by decide +kernel) (hts _ fl_X12_95) (fun _ h9 => h9) rfl dX12_goesOn_53 ?_
        refine W.eq (g2 := F0 m 56 ls [.ref b_me, .int k21_5, .int (32 * ((64 * (p_1 + 1)) + z8)), .ref b_ah]) rfl ?_
        refine lv_bipush (v := 64) hx hb dX12_goesOn_56 (by decide +kernel) ?_
        refine lv_iload_n hx hb dX12_goesOn_58 rfl (lv_at hl 4 rfl) ?_
        refine lv_iconst (v := 1) hx hb dX12_goesOn_59 (by decide +kernel) ?_
        refine lv_iadd hx hb dX12_goesOn_60 ?_
        have t_21 : (p_1 + 1).toInt = p_1.toInt + 1 := g5_iadd (a := p_1.toInt) (b := 1) (by rfl) (by decide +kernel) (by omega) (by omega)
        refine lv_imul hx hb dX12_goesOn_61 ?_
        have t_22 : (64 * (p_1 + 1)).toInt = 64 * (p_1 + 1).toInt := g5_imul (a := 64) (b := (p_1 + 1).toInt) (by decide +kernel) (by rfl) (by omega) (by omega)
        refine W.eq (g2 := F0 m 62 ls [.int (64 * (p_1 + 1)), .ref b_me, .int k21_5, .int (32 * ((64 * (p_1 + 1)) + z8)), .ref b_ah]) rfl ?_
        refine lv_iload hx hb dX12_goesOn_62 (lv_at hl 1 rfl) ?_
        refine lv_iadd hx hb dX12_goesOn_64 ?_
        have t_23 : ((64 * (p_1 + 1)) + z8).toInt = (64 * (p_1 + 1)).toInt + z8.toInt := g5_iadd (a := (64 * (p_1 + 1)).toInt) (b := z8.toInt) (by rfl) (by rfl) (by omega) (by omega)
        refine va_iald hx hb hK hP 2 0 rfl rfl (i := ((64 * (p_1 + 1)) + z8)) (vp_in_iff.mpr ⟨by omega, by omega⟩) dX12_goesOn_65 ?_
        have hr_24 : 0 ≤ (v_me ((64 * (p_1 + 1)) + z8).toNatClampNeg).toInt ∧ ((v_me ((64 * (p_1 + 1)) + z8).toNatClampNeg).toInt < 32 ∨ 64 ≤ (v_me ((64 * (p_1 + 1)) + z8).toNatClampNeg).toInt) ∧ (v_me ((64 * (p_1 + 1)) + z8).toNatClampNeg).toInt ≤ 127 := r_me (((64 * (p_1 + 1)) + z8).toNatClampNeg)
        have h64_25 : (v_me ((64 * (p_1 + 1)) + z8).toNatClampNeg).toInt < 64 := by have e9 : ((64 * (p_1 + 1)) + z8).toNatClampNeg = (64 * (p_1 + 1).toInt + z8.toInt).toNat := (by have zz := g5_clamp ((64 * (p_1 + 1)) + z8); omega); rw [e9]; rcases i_7 with q | q; omega; exact q
        refine lv_ior hx hb dX12_goesOn_66 ?_
        have ho_26 : 0 ≤ (k21_5 ||| (v_me ((64 * (p_1 + 1)) + z8).toNatClampNeg)).toInt ∧ (k21_5 ||| (v_me ((64 * (p_1 + 1)) + z8).toNatClampNeg)).toInt < 32 := me_low ⟨by omega, by omega⟩ ⟨by omega, by omega⟩
        refine lv_iadd hx hb dX12_goesOn_67 ?_
        have t_27 : ((32 * ((64 * (p_1 + 1)) + z8)) + (k21_5 ||| (v_me ((64 * (p_1 + 1)) + z8).toNatClampNeg))).toInt = (32 * ((64 * (p_1 + 1)) + z8)).toInt + (k21_5 ||| (v_me ((64 * (p_1 + 1)) + z8).toNatClampNeg)).toInt := g5_iadd (a := (32 * ((64 * (p_1 + 1)) + z8)).toInt) (b := (k21_5 ||| (v_me ((64 * (p_1 + 1)) + z8).toNatClampNeg)).toInt) (by rfl) (by rfl) (by omega) (by omega)
        refine W.eq (g2 := F0 m 68 ls [.int ((32 * ((64 * (p_1 + 1)) + z8)) + (k21_5 ||| (v_me ((64 * (p_1 + 1)) + z8).toNatClampNeg))), .ref b_ah]) rfl ?_
        refine lv_dup2_11 hx hb dX12_goesOn_68 rfl rfl ?_
        refine va_lald hx hb hK hP 0 1 rfl rfl (i := ((32 * ((64 * (p_1 + 1)) + z8)) + (k21_5 ||| (v_me ((64 * (p_1 + 1)) + z8).toNatClampNeg)))) (vp_in_iff.mpr ⟨by omega, by omega⟩) dX12_goesOn_69 ?_
        refine lv_aload_n hx hb dX12_goesOn_70 rfl (lv_at hl 3 rfl) ?_
        refine va_get (D := G.1) (ci := 12) (v := .ref b_ah) (C := RX12) (T := TX12) (N := 52) hx hb hts inG_X12 hown hK hP 1 rfl rfl 43 (by decide +kernel) (hts _ fl_X12_89) (fun _ h9 => h9) rfl dX12_goesOn_71 ?_
        refine lv_bipush (v := 32) hx hb dX12_goesOn_74 (by decide +kernel) ?_
        refine W.eq (g2 := F0 m 76 ls [.int 32, .ref b_ah, .long (k21_ah ((32 * ((64 * (p_1 + 1)) + z8)) + (k21_5 ||| (v_me ((64 * (p_1 + 1)) + z8).toNatClampNeg))).toNatClampNeg), .int ((32 * ((64 * (p_1 + 1)) + z8)) + (k21_5 ||| (v_me ((64 * (p_1 + 1)) + z8).toNatClampNeg))), .ref b_ah]) rfl ?_
        refine lv_bipush (v := 64) hx hb dX12_goesOn_76 (by decide +kernel) ?_
        refine lv_iload_n hx hb dX12_goesOn_78 rfl (lv_at hl 4 rfl) ?_
        refine lv_imul hx hb dX12_goesOn_79 ?_
        have t_28 : (64 * p_1).toInt = 64 * p_1.toInt := g5_imul (a := 64) (b := p_1.toInt) (by decide +kernel) (by rfl) (by omega) (by omega)
        refine lv_iload_n hx hb dX12_goesOn_80 rfl (lv_at hl 5 rfl) ?_
        refine lv_iadd hx hb dX12_goesOn_81 ?_
        have t_29 : ((64 * p_1) + p_2).toInt = (64 * p_1).toInt + p_2.toInt := g5_iadd (a := (64 * p_1).toInt) (b := p_2.toInt) (by rfl) (by rfl) (by omega) (by omega)
        refine W.eq (g2 := F0 m 82 ls [.int ((64 * p_1) + p_2), .int 32, .ref b_ah, .long (k21_ah ((32 * ((64 * (p_1 + 1)) + z8)) + (k21_5 ||| (v_me ((64 * (p_1 + 1)) + z8).toNatClampNeg))).toNatClampNeg), .int ((32 * ((64 * (p_1 + 1)) + z8)) + (k21_5 ||| (v_me ((64 * (p_1 + 1)) + z8).toNatClampNeg))), .ref b_ah]) rfl ?_
        refine lv_imul hx hb dX12_goesOn_82 ?_
        have t_30 : (32 * ((64 * p_1) + p_2)).toInt = 32 * ((64 * p_1) + p_2).toInt := g5_imul (a := 32) (b := ((64 * p_1) + p_2).toInt) (by decide +kernel) (by rfl) (by omega) (by omega)
        refine lv_iload hx hb dX12_goesOn_83 (lv_at hl 0 rfl) ?_
        refine lv_iadd hx hb dX12_goesOn_85 ?_
        have t_31 : ((32 * ((64 * p_1) + p_2)) + k21_5).toInt = (32 * ((64 * p_1) + p_2)).toInt + k21_5.toInt := g5_iadd (a := (32 * ((64 * p_1) + p_2)).toInt) (b := k21_5.toInt) (by rfl) (by rfl) (by omega) (by omega)
        refine va_lald hx hb hK hP 0 1 rfl rfl (i := ((32 * ((64 * p_1) + p_2)) + k21_5)) (vp_in_iff.mpr ⟨by omega, by omega⟩) dX12_goesOn_86 ?_
        refine lv_ladd hx hb dX12_goesOn_87 ?_
        refine W.eq (g2 := F0 m 88 ls [.long ((k21_ah ((32 * ((64 * (p_1 + 1)) + z8)) + (k21_5 ||| (v_me ((64 * (p_1 + 1)) + z8).toNatClampNeg))).toNatClampNeg) + (k21_ah ((32 * ((64 * p_1) + p_2)) + k21_5).toNatClampNeg)), .int ((32 * ((64 * (p_1 + 1)) + z8)) + (k21_5 ||| (v_me ((64 * (p_1 + 1)) + z8).toNatClampNeg))), .ref b_ah]) rfl ?_
        refine va_last hx hb hK hP hD hS 0 1 rfl rfl (i := ((32 * ((64 * (p_1 + 1)) + z8)) + (k21_5 ||| (v_me ((64 * (p_1 + 1)) + z8).toNatClampNeg)))) (x := ((k21_ah ((32 * ((64 * (p_1 + 1)) + z8)) + (k21_5 ||| (v_me ((64 * (p_1 + 1)) + z8).toNatClampNeg))).toNatClampNeg) + (k21_ah ((32 * ((64 * p_1) + p_2)) + k21_5).toNatClampNeg))) (vp_in_iff.mpr ⟨by omega, by omega⟩) dX12_goesOn_88 ?_
        clear hP hD hS
        intro H locs hP hD hS
        refine g5_rs [(b_ah, (arJ G 49152 (vp_updL k21_ah ((32 * ((64 * (p_1 + 1)) + z8)) + (k21_5 ||| (v_me ((64 * (p_1 + 1)) + z8).toNatClampNeg))).toNatClampNeg ((k21_ah ((32 * ((64 * (p_1 + 1)) + z8)) + (k21_5 ||| (v_me ((64 * (p_1 + 1)) + z8).toNatClampNeg))).toNatClampNeg) + (k21_ah ((32 * ((64 * p_1) + p_2)) + k21_5).toNatClampNeg))))), (b_o, (oc12 u_th u_sa b_rf b_ro b_im b_ke u_fd b_tp u_td u_fr u_to u_so u_wo u_fa u_bd u_nc b_nl u_co b_op b_ar u_le b_pi b_pa u_pd u_od b_ws b_hw u_la b_se b_re u_bk u_va u_su u_ce u_ho u_wy u_bt u_ps b_pt u_tg u_sn b_ip u_ic b_ah b_be b_me u_wd b_tr b_ld u_st b_wn u_id)), (b_me, (arI G 1536 v_me))] hP hD ?_
        clear hP hD
        intro hP hD
        refine lv_iinc (v := (k21_5 + 1)) (lv' := [(5, .int (k21_5 + 1)), (4, .int z8), (3, .int k2_3), (0, .ref b_o), (1, .int p_1), (2, .int p_2)]) hx hb dX12_goesOn_89 hl (k := 0) rfl rfl (by decide +kernel) rfl ?_
        clear hl
        intro ls hl
        have t_32 : (k21_5 + 1).toInt = k21_5.toInt + 1 := g5_iadd (a := k21_5.toInt) (b := 1) rfl (by decide +kernel) (by omega) (by omega)
        refine lv_goto (tgt := 21) hx hb dX12_goesOn_92 (by decide +kernel) ?_
        exact ih_21_12 ((k21_5 + 1), (vp_updL k21_ah ((32 * ((64 * (p_1 + 1)) + z8)) + (k21_5 ||| (v_me ((64 * (p_1 + 1)) + z8).toNatClampNeg))).toNatClampNeg ((k21_ah ((32 * ((64 * (p_1 + 1)) + z8)) + (k21_5 ||| (v_me ((64 * (p_1 + 1)) + z8).toNatClampNeg))).toNatClampNeg) + (k21_ah ((32 * ((64 * p_1) + p_2)) + k21_5).toNatClampNeg)))) ls H locs (show Int.toNat (32 - (k21_5 + 1).toInt) < Int.toNat (32 - k21_5.toInt) from g_up (show k21_5.toInt < (k21_5 + 1).toInt by omega) (show k21_5.toInt < 32 by omega)) ⟨lv_sub hl [0, 1, 2, 3, 4, 5] rfl, hP, hD, hS, ⟨by omega, by omega⟩, ahk_upd i_11 (by omega)⟩
