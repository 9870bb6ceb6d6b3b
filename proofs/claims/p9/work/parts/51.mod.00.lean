set_option maxHeartbeats 4000000 in
set_option maxRecDepth 100000 in
theorem n_isSmallX (l : Launch) (G : g5_G) (sz : Nat) (p_0 : Int32) : Met l yX12_isSmall (wsG yX12_isSmall cX12_isSmall 1 (some .boolean)) ({ frames := 0, cells := 0, slots := 0, locals := 0 }) (va_Pc [.int p_0] (g5_P G [] sz)) (va_Qi (fun (r : Int32) (u : va_W) => ((97 ≤ p_0.toInt ∧ p_0.toInt ≤ 122) ∧ (r = 1) ∧ (u = [])) ∨ ((p_0.toInt < 97 ∨ 122 < p_0.toInt) ∧ (r = 0) ∧ (u = []))) (g5_B G (va_A [] sz)) (va_A [] sz)) 0 0 (va_A [] sz) := by
  refine Met.ofW (cc := cX12_isSmall) (maxL := 1) (ret := (some .boolean)) (by decide) rfl ?_
  intro p e s m args below meth c s₁ B hml hv
  obtain ⟨rfl, hsz, hP, hK, hD0, hN, hT⟩ := hv
  have hx := B.exec
  have hb := B.bytes
  have hr := B.returns
  have hts : ∀ w ∈ tblG, w.before _ s = true := fun w h => atoms_spec (ws := (wsG yX12_isSmall cX12_isSmall 1 (some .boolean))) B.pre w (List.mem_cons_of_mem _ h)
  have hown : s.vm.findClass RX12 = some m.cls := findClass_of_methodNamed B.named
  have hlocks := B.notSynchronized
  subst hsz
  have hD := hD0.self (sz := s.heap.size)
  generalize hAe : va_A [] s.heap.size = A at hD hT ⊢
  have hA : ∀ q : Nat, s.heap.size ≤ q → A q := fun q h => by rw [← hAe]; exact Or.inr h
  have hS : va_S A s.heap s.heap [] := va_S.rf
  have hP : va_P G.1 vwCl [] s.heap := hP
  have hl := lv_entry ([.int p_0]) (n := 1) (Nat.le_of_ble_eq_true rfl)
  rw [lg_entry_eq]
  generalize (lg_sl ([.int p_0]) ++ List.replicate (1 - (lg_sl ([.int p_0])).length) Slot.unset).toArray = ls at hl ⊢
  have hl : lv_has ls 1 [(0, .int p_0)] := hl
  refine lv_iload_n hx hb dX12_isSmall_0 rfl (lv_at hl 0 rfl) ?_
  refine lv_bipush (v := 97) hx hb dX12_isSmall_1 (by decide) ?_
  refine lv_icmp_lt (tgt := 16) hx hb dX12_isSmall_3 (by decide) (fun c_1 => ?_) (fun c_1 => ?_)
  ·
    have i_1 : p_0.toInt < 97 := by have z := g5_lt (a := p_0.toInt) (b := 97) (by rfl) (by decide) c_1; omega
    refine lv_iconst (v := 0) hx hb dX12_isSmall_16 (by decide) ?_
    exact W.zret (v := 0) hx hb hr rfl (fun t ht hW => ⟨⟨0, [], rfl, Or.inr (⟨by omega, rfl, rfl⟩), by rw [ht]; exact hP.sub [] rfl, hD.sub [] (by decide) rfl⟩, hS.F ht⟩) hS.2.2 dX12_isSmall_17
  ·
    have i_1 : p_0.toInt ≥ 97 := by have z := g5_ltN (a := p_0.toInt) (b := 97) (by rfl) (by decide) c_1; omega
    refine lv_iload_n hx hb dX12_isSmall_6 rfl (lv_at hl 0 rfl) ?_
    refine lv_bipush (v := 122) hx hb dX12_isSmall_7 (by decide) ?_
    refine lv_icmp_gt (tgt := 16) hx hb dX12_isSmall_9 (by decide) (fun c_2 => ?_) (fun c_2 => ?_)
    ·
      have i_2 : p_0.toInt > 122 := by have z := g5_gt (a := p_0.toInt) (b := 122) (by rfl) (by decide) c_2; omega
      refine lv_iconst (v := 0) hx hb dX12_isSmall_16 (by decide) ?_
      exact W.zret (v := 0) hx hb hr rfl (fun t ht hW => ⟨⟨0, [], rfl, Or.inr (⟨by omega, rfl, rfl⟩), by rw [ht]; exact hP.sub [] rfl, hD.sub [] (by decide) rfl⟩, hS.F ht⟩) hS.2.2 dX12_isSmall_17
    ·
      have i_2 : p_0.toInt ≤ 122 := by have z := g5_gtN (a := p_0.toInt) (b := 122) (by rfl) (by decide) c_2; omega
      refine lv_iconst (v := 1) hx hb dX12_isSmall_12 (by decide) ?_
      refine lv_goto (tgt := 17) hx hb dX12_isSmall_13 (by decide) ?_
      exact W.zret (v := 1) hx hb hr rfl (fun t ht hW => ⟨⟨1, [], rfl, Or.inl (⟨by omega, rfl, rfl⟩), by rw [ht]; exact hP.sub [] rfl, hD.sub [] (by decide) rfl⟩, hS.F ht⟩) hS.2.2 dX12_isSmall_17
set_option maxHeartbeats 4000000 in
set_option maxRecDepth 100000 in
theorem n_isDigitX (l : Launch) (G : g5_G) (sz : Nat) (p_0 : Int32) : Met l yX12_isDigit (wsG yX12_isDigit cX12_isDigit 1 (some .boolean)) ({ frames := 0, cells := 0, slots := 0, locals := 0 }) (va_Pc [.int p_0] (g5_P G [] sz)) (va_Qi (fun (r : Int32) (u : va_W) => ((48 ≤ p_0.toInt ∧ p_0.toInt ≤ 57) ∧ (r = 1) ∧ (u = [])) ∨ ((p_0.toInt < 48 ∨ 57 < p_0.toInt) ∧ (r = 0) ∧ (u = []))) (g5_B G (va_A [] sz)) (va_A [] sz)) 0 0 (va_A [] sz) := by
  refine Met.ofW (cc := cX12_isDigit) (maxL := 1) (ret := (some .boolean)) (by decide) rfl ?_
  intro p e s m args below meth c s₁ B hml hv
  obtain ⟨rfl, hsz, hP, hK, hD0, hN, hT⟩ := hv
  have hx := B.exec
  have hb := B.bytes
  have hr := B.returns
  have hts : ∀ w ∈ tblG, w.before _ s = true := fun w h => atoms_spec (ws := (wsG yX12_isDigit cX12_isDigit 1 (some .boolean))) B.pre w (List.mem_cons_of_mem _ h)
  have hown : s.vm.findClass RX12 = some m.cls := findClass_of_methodNamed B.named
  have hlocks := B.notSynchronized
  subst hsz
  have hD := hD0.self (sz := s.heap.size)
  generalize hAe : va_A [] s.heap.size = A at hD hT ⊢
  have hA : ∀ q : Nat, s.heap.size ≤ q → A q := fun q h => by rw [← hAe]; exact Or.inr h
  have hS : va_S A s.heap s.heap [] := va_S.rf
  have hP : va_P G.1 vwCl [] s.heap := hP
  have hl := lv_entry ([.int p_0]) (n := 1) (Nat.le_of_ble_eq_true rfl)
  rw [lg_entry_eq]
  generalize (lg_sl ([.int p_0]) ++ List.replicate (1 - (lg_sl ([.int p_0])).length) Slot.unset).toArray = ls at hl ⊢
  have hl : lv_has ls 1 [(0, .int p_0)] := hl
  refine lv_iload_n hx hb dX12_isDigit_0 rfl (lv_at hl 0 rfl) ?_
  refine lv_bipush (v := 48) hx hb dX12_isDigit_1 (by decide) ?_
  refine lv_icmp_lt (tgt := 16) hx hb dX12_isDigit_3 (by decide) (fun c_1 => ?_) (fun c_1 => ?_)
  ·
    have i_1 : p_0.toInt < 48 := by have z := g5_lt (a := p_0.toInt) (b := 48) (by rfl) (by decide) c_1; omega
    refine lv_iconst (v := 0) hx hb dX12_isDigit_16 (by decide) ?_
    exact W.zret (v := 0) hx hb hr rfl (fun t ht hW => ⟨⟨0, [], rfl, Or.inr (⟨by omega, rfl, rfl⟩), by rw [ht]; exact hP.sub [] rfl, hD.sub [] (by decide) rfl⟩, hS.F ht⟩) hS.2.2 dX12_isDigit_17
  ·
    have i_1 : p_0.toInt ≥ 48 := by have z := g5_ltN (a := p_0.toInt) (b := 48) (by rfl) (by decide) c_1; omega
    refine lv_iload_n hx hb dX12_isDigit_6 rfl (lv_at hl 0 rfl) ?_
    refine lv_bipush (v := 57) hx hb dX12_isDigit_7 (by decide) ?_
    refine lv_icmp_gt (tgt := 16) hx hb dX12_isDigit_9 (by decide) (fun c_2 => ?_) (fun c_2 => ?_)
    ·
      have i_2 : p_0.toInt > 57 := by have z := g5_gt (a := p_0.toInt) (b := 57) (by rfl) (by decide) c_2; omega
      refine lv_iconst (v := 0) hx hb dX12_isDigit_16 (by decide) ?_
      exact W.zret (v := 0) hx hb hr rfl (fun t ht hW => ⟨⟨0, [], rfl, Or.inr (⟨by omega, rfl, rfl⟩), by rw [ht]; exact hP.sub [] rfl, hD.sub [] (by decide) rfl⟩, hS.F ht⟩) hS.2.2 dX12_isDigit_17
    ·
      have i_2 : p_0.toInt ≤ 57 := by have z := g5_gtN (a := p_0.toInt) (b := 57) (by rfl) (by decide) c_2; omega
      refine lv_iconst (v := 1) hx hb dX12_isDigit_12 (by decide) ?_
      refine lv_goto (tgt := 17) hx hb dX12_isDigit_13 (by decide) ?_
      exact W.zret (v := 1) hx hb hr rfl (fun t ht hW => ⟨⟨1, [], rfl, Or.inl (⟨by omega, rfl, rfl⟩), by rw [ht]; exact hP.sub [] rfl, hD.sub [] (by decide) rfl⟩, hS.F ht⟩) hS.2.2 dX12_isDigit_17
theorem dgX12_next_0 : ∀ r ∈ ([(0, (.aload_n 0, 1)), (1, (.aload_n 0, 1)), (2, (.getfield 202, 3)), (5, (.putfield 211, 3)), (8, (.aload_n 0, 1)), (9, (.getfield 211, 3)), (12, (.aload_n 0, 1)), (13, (.getfield 192, 3)), (16, (.if_icmp .ge 30, 3)), (19, (.aload_n 0, 1)), (20, (.getfield 23, 3)), (23, (.aload_n 0, 1)), (24, (.getfield 211, 3)), (27, (.iaload, 1)), (28, (.bipush 32, 2)), (30, (.if_icmp .ne 16, 3)), (33, (.aload_n 0, 1)), (34, (.dup, 1)), (35, (.getfield 211, 3)), (38, (.iconst 1, 1)), (39, (.iadd, 1)), (40, (.putfield 211, 3)), (43, (.goto (-35), 3)), (46, (.aload_n 0, 1)), (47, (.aload_n 0, 1)), (48, (.getfield 211, 3)), (51, (.putfield 202, 3)), (54, (.aload_n 0, 1)), (55, (.lconst 0, 1)), (56, (.putfield 214, 3)), (59, (.aload_n 0, 1)), (60, (.aload_n 0, 1)), (61, (.getfield 211, 3)), (64, (.aload_n 0, 1)), (65, (.getfield 192, 3)), (68, (.if_icmp .ne 7, 3)), (71, (.iconst 0, 1)), (72, (.goto 42, 3)), (75, (.aload_n 0, 1)), (76, (.getfield 23, 3))] : List (Nat × (Instr × Nat))), decode cX12_next r.1 = .ok r.2 := by decide +kernel
theorem dX12_next_0 : decode cX12_next 0 = .ok (.aload_n 0, 1) := dgX12_next_0 (0, (.aload_n 0, 1)) (List.mem_of_getElem? (i := 0) rfl)
theorem dX12_next_1 : decode cX12_next 1 = .ok (.aload_n 0, 1) := dgX12_next_0 (1, (.aload_n 0, 1)) (List.mem_of_getElem? (i := 1) rfl)
theorem dX12_next_2 : decode cX12_next 2 = .ok (.getfield 202, 3) := dgX12_next_0 (2, (.getfield 202, 3)) (List.mem_of_getElem? (i := 2) rfl)
theorem dX12_next_5 : decode cX12_next 5 = .ok (.putfield 211, 3) := dgX12_next_0 (5, (.putfield 211, 3)) (List.mem_of_getElem? (i := 3) rfl)
theorem dX12_next_8 : decode cX12_next 8 = .ok (.aload_n 0, 1) := dgX12_next_0 (8, (.aload_n 0, 1)) (List.mem_of_getElem? (i := 4) rfl)
theorem dX12_next_9 : decode cX12_next 9 = .ok (.getfield 211, 3) := dgX12_next_0 (9, (.getfield 211, 3)) (List.mem_of_getElem? (i := 5) rfl)
theorem dX12_next_12 : decode cX12_next 12 = .ok (.aload_n 0, 1) := dgX12_next_0 (12, (.aload_n 0, 1)) (List.mem_of_getElem? (i := 6) rfl)
theorem dX12_next_13 : decode cX12_next 13 = .ok (.getfield 192, 3) := dgX12_next_0 (13, (.getfield 192, 3)) (List.mem_of_getElem? (i := 7) rfl)
theorem dX12_next_16 : decode cX12_next 16 = .ok (.if_icmp .ge 30, 3) := dgX12_next_0 (16, (.if_icmp .ge 30, 3)) (List.mem_of_getElem? (i := 8) rfl)
theorem dX12_next_19 : decode cX12_next 19 = .ok (.aload_n 0, 1) := dgX12_next_0 (19, (.aload_n 0, 1)) (List.mem_of_getElem? (i := 9) rfl)
theorem dX12_next_20 : decode cX12_next 20 = .ok (.getfield 23, 3) := dgX12_next_0 (20, (.getfield 23, 3)) (List.mem_of_getElem? (i := 10) rfl)
theorem dX12_next_23 : decode cX12_next 23 = .ok (.aload_n 0, 1) := dgX12_next_0 (23, (.aload_n 0, 1)) (List.mem_of_getElem? (i := 11) rfl)
theorem dX12_next_24 : decode cX12_next 24 = .ok (.getfield 211, 3) := dgX12_next_0 (24, (.getfield 211, 3)) (List.mem_of_getElem? (i := 12) rfl)
theorem dX12_next_27 : decode cX12_next 27 = .ok (.iaload, 1) := dgX12_next_0 (27, (.iaload, 1)) (List.mem_of_getElem? (i := 13) rfl)
theorem dX12_next_28 : decode cX12_next 28 = .ok (.bipush 32, 2) := dgX12_next_0 (28, (.bipush 32, 2)) (List.mem_of_getElem? (i := 14) rfl)
theorem dX12_next_30 : decode cX12_next 30 = .ok (.if_icmp .ne 16, 3) := dgX12_next_0 (30, (.if_icmp .ne 16, 3)) (List.mem_of_getElem? (i := 15) rfl)
theorem dX12_next_33 : decode cX12_next 33 = .ok (.aload_n 0, 1) := dgX12_next_0 (33, (.aload_n 0, 1)) (List.mem_of_getElem? (i := 16) rfl)
theorem dX12_next_34 : decode cX12_next 34 = .ok (.dup, 1) := dgX12_next_0 (34, (.dup, 1)) (List.mem_of_getElem? (i := 17) rfl)
theorem dX12_next_35 : decode cX12_next 35 = .ok (.getfield 211, 3) := dgX12_next_0 (35, (.getfield 211, 3)) (List.mem_of_getElem? (i := 18) rfl)
theorem dX12_next_38 : decode cX12_next 38 = .ok (.iconst 1, 1) := dgX12_next_0 (38, (.iconst 1, 1)) (List.mem_of_getElem? (i := 19) rfl)
theorem dX12_next_39 : decode cX12_next 39 = .ok (.iadd, 1) := dgX12_next_0 (39, (.iadd, 1)) (List.mem_of_getElem? (i := 20) rfl)
theorem dX12_next_40 : decode cX12_next 40 = .ok (.putfield 211, 3) := dgX12_next_0 (40, (.putfield 211, 3)) (List.mem_of_getElem? (i := 21) rfl)
theorem dX12_next_43 : decode cX12_next 43 = .ok (.goto (-35), 3) := dgX12_next_0 (43, (.goto (-35), 3)) (List.mem_of_getElem? (i := 22) rfl)
theorem dX12_next_46 : decode cX12_next 46 = .ok (.aload_n 0, 1) := dgX12_next_0 (46, (.aload_n 0, 1)) (List.mem_of_getElem? (i := 23) rfl)
theorem dX12_next_47 : decode cX12_next 47 = .ok (.aload_n 0, 1) := dgX12_next_0 (47, (.aload_n 0, 1)) (List.mem_of_getElem? (i := 24) rfl)
theorem dX12_next_48 : decode cX12_next 48 = .ok (.getfield 211, 3) := dgX12_next_0 (48, (.getfield 211, 3)) (List.mem_of_getElem? (i := 25) rfl)
theorem dX12_next_51 : decode cX12_next 51 = .ok (.putfield 202, 3) := dgX12_next_0 (51, (.putfield 202, 3)) (List.mem_of_getElem? (i := 26) rfl)
theorem dX12_next_54 : decode cX12_next 54 = .ok (.aload_n 0, 1) := dgX12_next_0 (54, (.aload_n 0, 1)) (List.mem_of_getElem? (i := 27) rfl)
theorem dX12_next_55 : decode cX12_next 55 = .ok (.lconst 0, 1) := dgX12_next_0 (55, (.lconst 0, 1)) (List.mem_of_getElem? (i := 28) rfl)
theorem dX12_next_56 : decode cX12_next 56 = .ok (.putfield 214, 3) := dgX12_next_0 (56, (.putfield 214, 3)) (List.mem_of_getElem? (i := 29) rfl)
theorem dX12_next_59 : decode cX12_next 59 = .ok (.aload_n 0, 1) := dgX12_next_0 (59, (.aload_n 0, 1)) (List.mem_of_getElem? (i := 30) rfl)
theorem dX12_next_60 : decode cX12_next 60 = .ok (.aload_n 0, 1) := dgX12_next_0 (60, (.aload_n 0, 1)) (List.mem_of_getElem? (i := 31) rfl)
theorem dX12_next_61 : decode cX12_next 61 = .ok (.getfield 211, 3) := dgX12_next_0 (61, (.getfield 211, 3)) (List.mem_of_getElem? (i := 32) rfl)
theorem dX12_next_64 : decode cX12_next 64 = .ok (.aload_n 0, 1) := dgX12_next_0 (64, (.aload_n 0, 1)) (List.mem_of_getElem? (i := 33) rfl)
theorem dX12_next_65 : decode cX12_next 65 = .ok (.getfield 192, 3) := dgX12_next_0 (65, (.getfield 192, 3)) (List.mem_of_getElem? (i := 34) rfl)
theorem dX12_next_68 : decode cX12_next 68 = .ok (.if_icmp .ne 7, 3) := dgX12_next_0 (68, (.if_icmp .ne 7, 3)) (List.mem_of_getElem? (i := 35) rfl)
theorem dX12_next_71 : decode cX12_next 71 = .ok (.iconst 0, 1) := dgX12_next_0 (71, (.iconst 0, 1)) (List.mem_of_getElem? (i := 36) rfl)
theorem dX12_next_72 : decode cX12_next 72 = .ok (.goto 42, 3) := dgX12_next_0 (72, (.goto 42, 3)) (List.mem_of_getElem? (i := 37) rfl)
theorem dX12_next_75 : decode cX12_next 75 = .ok (.aload_n 0, 1) := dgX12_next_0 (75, (.aload_n 0, 1)) (List.mem_of_getElem? (i := 38) rfl)
theorem dX12_next_76 : decode cX12_next 76 = .ok (.getfield 23, 3) := dgX12_next_0 (76, (.getfield 23, 3)) (List.mem_of_getElem? (i := 39) rfl)
theorem dgX12_next_1 : ∀ r ∈ ([(79, (.aload_n 0, 1)), (80, (.getfield 211, 3)), (83, (.iaload, 1)), (84, (.invokestatic 218, 3)), (87, (.ifCond .eq 7, 3)), (90, (.iconst 1, 1)), (91, (.goto 23, 3)), (94, (.aload_n 0, 1)), (95, (.getfield 23, 3)), (98, (.aload_n 0, 1)), (99, (.getfield 211, 3)), (102, (.iaload, 1)), (103, (.invokestatic 221, 3)), (106, (.ifCond .eq 7, 3)), (109, (.iconst 2, 1)), (110, (.goto 4, 3)), (113, (.iconst 3, 1)), (114, (.putfield 224, 3)), (117, (.aload_n 0, 1)), (118, (.getfield 224, 3)), (121, (.iconst 3, 1)), (122, (.if_icmp .ne 27, 3)), (125, (.aload_n 0, 1)), (126, (.aload_n 0, 1)), (127, (.getfield 23, 3)), (130, (.aload_n 0, 1)), (131, (.getfield 211, 3)), (134, (.iaload, 1)), (135, (.i2l, 1)), (136, (.putfield 214, 3)), (139, (.aload_n 0, 1)), (140, (.dup, 1)), (141, (.getfield 202, 3)), (144, (.iconst 1, 1)), (145, (.iadd, 1)), (146, (.putfield 202, 3)), (149, (.aload_n 0, 1)), (150, (.getfield 224, 3)), (153, (.iconst 1, 1)), (154, (.if_icmp .ne 89, 3))] : List (Nat × (Instr × Nat))), decode cX12_next r.1 = .ok r.2 := by decide +kernel
theorem dX12_next_79 : decode cX12_next 79 = .ok (.aload_n 0, 1) := dgX12_next_1 (79, (.aload_n 0, 1)) (List.mem_of_getElem? (i := 0) rfl)
theorem dX12_next_80 : decode cX12_next 80 = .ok (.getfield 211, 3) := dgX12_next_1 (80, (.getfield 211, 3)) (List.mem_of_getElem? (i := 1) rfl)
theorem dX12_next_83 : decode cX12_next 83 = .ok (.iaload, 1) := dgX12_next_1 (83, (.iaload, 1)) (List.mem_of_getElem? (i := 2) rfl)
theorem dX12_next_84 : decode cX12_next 84 = .ok (.invokestatic 218, 3) := dgX12_next_1 (84, (.invokestatic 218, 3)) (List.mem_of_getElem? (i := 3) rfl)
theorem dX12_next_87 : decode cX12_next 87 = .ok (.ifCond .eq 7, 3) := dgX12_next_1 (87, (.ifCond .eq 7, 3)) (List.mem_of_getElem? (i := 4) rfl)
theorem dX12_next_90 : decode cX12_next 90 = .ok (.iconst 1, 1) := dgX12_next_1 (90, (.iconst 1, 1)) (List.mem_of_getElem? (i := 5) rfl)
theorem dX12_next_91 : decode cX12_next 91 = .ok (.goto 23, 3) := dgX12_next_1 (91, (.goto 23, 3)) (List.mem_of_getElem? (i := 6) rfl)
theorem dX12_next_94 : decode cX12_next 94 = .ok (.aload_n 0, 1) := dgX12_next_1 (94, (.aload_n 0, 1)) (List.mem_of_getElem? (i := 7) rfl)
theorem dX12_next_95 : decode cX12_next 95 = .ok (.getfield 23, 3) := dgX12_next_1 (95, (.getfield 23, 3)) (List.mem_of_getElem? (i := 8) rfl)
theorem dX12_next_98 : decode cX12_next 98 = .ok (.aload_n 0, 1) := dgX12_next_1 (98, (.aload_n 0, 1)) (List.mem_of_getElem? (i := 9) rfl)
theorem dX12_next_99 : decode cX12_next 99 = .ok (.getfield 211, 3) := dgX12_next_1 (99, (.getfield 211, 3)) (List.mem_of_getElem? (i := 10) rfl)
theorem dX12_next_102 : decode cX12_next 102 = .ok (.iaload, 1) := dgX12_next_1 (102, (.iaload, 1)) (List.mem_of_getElem? (i := 11) rfl)
theorem dX12_next_103 : decode cX12_next 103 = .ok (.invokestatic 221, 3) := dgX12_next_1 (103, (.invokestatic 221, 3)) (List.mem_of_getElem? (i := 12) rfl)
theorem dX12_next_106 : decode cX12_next 106 = .ok (.ifCond .eq 7, 3) := dgX12_next_1 (106, (.ifCond .eq 7, 3)) (List.mem_of_getElem? (i := 13) rfl)
theorem dX12_next_109 : decode cX12_next 109 = .ok (.iconst 2, 1) := dgX12_next_1 (109, (.iconst 2, 1)) (List.mem_of_getElem? (i := 14) rfl)
theorem dX12_next_110 : decode cX12_next 110 = .ok (.goto 4, 3) := dgX12_next_1 (110, (.goto 4, 3)) (List.mem_of_getElem? (i := 15) rfl)
theorem dX12_next_113 : decode cX12_next 113 = .ok (.iconst 3, 1) := dgX12_next_1 (113, (.iconst 3, 1)) (List.mem_of_getElem? (i := 16) rfl)
theorem dX12_next_114 : decode cX12_next 114 = .ok (.putfield 224, 3) := dgX12_next_1 (114, (.putfield 224, 3)) (List.mem_of_getElem? (i := 17) rfl)
theorem dX12_next_117 : decode cX12_next 117 = .ok (.aload_n 0, 1) := dgX12_next_1 (117, (.aload_n 0, 1)) (List.mem_of_getElem? (i := 18) rfl)
theorem dX12_next_118 : decode cX12_next 118 = .ok (.getfield 224, 3) := dgX12_next_1 (118, (.getfield 224, 3)) (List.mem_of_getElem? (i := 19) rfl)
theorem dX12_next_121 : decode cX12_next 121 = .ok (.iconst 3, 1) := dgX12_next_1 (121, (.iconst 3, 1)) (List.mem_of_getElem? (i := 20) rfl)
theorem dX12_next_122 : decode cX12_next 122 = .ok (.if_icmp .ne 27, 3) := dgX12_next_1 (122, (.if_icmp .ne 27, 3)) (List.mem_of_getElem? (i := 21) rfl)
theorem dX12_next_125 : decode cX12_next 125 = .ok (.aload_n 0, 1) := dgX12_next_1 (125, (.aload_n 0, 1)) (List.mem_of_getElem? (i := 22) rfl)
theorem dX12_next_126 : decode cX12_next 126 = .ok (.aload_n 0, 1) := dgX12_next_1 (126, (.aload_n 0, 1)) (List.mem_of_getElem? (i := 23) rfl)
theorem dX12_next_127 : decode cX12_next 127 = .ok (.getfield 23, 3) := dgX12_next_1 (127, (.getfield 23, 3)) (List.mem_of_getElem? (i := 24) rfl)
theorem dX12_next_130 : decode cX12_next 130 = .ok (.aload_n 0, 1) := dgX12_next_1 (130, (.aload_n 0, 1)) (List.mem_of_getElem? (i := 25) rfl)
theorem dX12_next_131 : decode cX12_next 131 = .ok (.getfield 211, 3) := dgX12_next_1 (131, (.getfield 211, 3)) (List.mem_of_getElem? (i := 26) rfl)
theorem dX12_next_134 : decode cX12_next 134 = .ok (.iaload, 1) := dgX12_next_1 (134, (.iaload, 1)) (List.mem_of_getElem? (i := 27) rfl)
theorem dX12_next_135 : decode cX12_next 135 = .ok (.i2l, 1) := dgX12_next_1 (135, (.i2l, 1)) (List.mem_of_getElem? (i := 28) rfl)
theorem dX12_next_136 : decode cX12_next 136 = .ok (.putfield 214, 3) := dgX12_next_1 (136, (.putfield 214, 3)) (List.mem_of_getElem? (i := 29) rfl)
theorem dX12_next_139 : decode cX12_next 139 = .ok (.aload_n 0, 1) := dgX12_next_1 (139, (.aload_n 0, 1)) (List.mem_of_getElem? (i := 30) rfl)
theorem dX12_next_140 : decode cX12_next 140 = .ok (.dup, 1) := dgX12_next_1 (140, (.dup, 1)) (List.mem_of_getElem? (i := 31) rfl)
theorem dX12_next_141 : decode cX12_next 141 = .ok (.getfield 202, 3) := dgX12_next_1 (141, (.getfield 202, 3)) (List.mem_of_getElem? (i := 32) rfl)
theorem dX12_next_144 : decode cX12_next 144 = .ok (.iconst 1, 1) := dgX12_next_1 (144, (.iconst 1, 1)) (List.mem_of_getElem? (i := 33) rfl)
theorem dX12_next_145 : decode cX12_next 145 = .ok (.iadd, 1) := dgX12_next_1 (145, (.iadd, 1)) (List.mem_of_getElem? (i := 34) rfl)
theorem dX12_next_146 : decode cX12_next 146 = .ok (.putfield 202, 3) := dgX12_next_1 (146, (.putfield 202, 3)) (List.mem_of_getElem? (i := 35) rfl)
theorem dX12_next_149 : decode cX12_next 149 = .ok (.aload_n 0, 1) := dgX12_next_1 (149, (.aload_n 0, 1)) (List.mem_of_getElem? (i := 36) rfl)
theorem dX12_next_150 : decode cX12_next 150 = .ok (.getfield 224, 3) := dgX12_next_1 (150, (.getfield 224, 3)) (List.mem_of_getElem? (i := 37) rfl)
theorem dX12_next_153 : decode cX12_next 153 = .ok (.iconst 1, 1) := dgX12_next_1 (153, (.iconst 1, 1)) (List.mem_of_getElem? (i := 38) rfl)
theorem dX12_next_154 : decode cX12_next 154 = .ok (.if_icmp .ne 89, 3) := dgX12_next_1 (154, (.if_icmp .ne 89, 3)) (List.mem_of_getElem? (i := 39) rfl)
theorem dgX12_next_2 : ∀ r ∈ ([(157, (.aload_n 0, 1)), (158, (.getfield 202, 3)), (161, (.aload_n 0, 1)), (162, (.getfield 192, 3)), (165, (.if_icmp .ge 78, 3)), (168, (.aload_n 0, 1)), (169, (.getfield 23, 3)), (172, (.aload_n 0, 1)), (173, (.getfield 202, 3)), (176, (.iaload, 1)), (177, (.invokestatic 218, 3)), (180, (.ifCond .eq 63, 3)), (183, (.aload_n 0, 1)), (184, (.aload_n 0, 1)), (185, (.getfield 202, 3)), (188, (.aload_n 0, 1)), (189, (.getfield 211, 3)), (192, (.isub, 1)), (193, (.bipush 10, 2)), (195, (.if_icmp .ge 29, 3)), (198, (.aload_n 0, 1)), (199, (.getfield 214, 3)), (202, (.ldc2_w 227, 3)), (205, (.lmul, 1)), (206, (.aload_n 0, 1)), (207, (.getfield 23, 3)), (210, (.aload_n 0, 1)), (211, (.getfield 202, 3)), (214, (.iaload, 1)), (215, (.i2l, 1)), (216, (.ladd, 1)), (217, (.ldc2_w 229, 3)), (220, (.lsub, 1)), (221, (.goto 6, 3)), (224, (.ldc2_w 178, 3)), (227, (.putfield 214, 3)), (230, (.aload_n 0, 1)), (231, (.dup, 1)), (232, (.getfield 202, 3)), (235, (.iconst 1, 1))] : List (Nat × (Instr × Nat))), decode cX12_next r.1 = .ok r.2 := by decide +kernel
theorem dX12_next_157 : decode cX12_next 157 = .ok (.aload_n 0, 1) := dgX12_next_2 (157, (.aload_n 0, 1)) (List.mem_of_getElem? (i := 0) rfl)
theorem dX12_next_158 : decode cX12_next 158 = .ok (.getfield 202, 3) := dgX12_next_2 (158, (.getfield 202, 3)) (List.mem_of_getElem? (i := 1) rfl)
theorem dX12_next_161 : decode cX12_next 161 = .ok (.aload_n 0, 1) := dgX12_next_2 (161, (.aload_n 0, 1)) (List.mem_of_getElem? (i := 2) rfl)
theorem dX12_next_162 : decode cX12_next 162 = .ok (.getfield 192, 3) := dgX12_next_2 (162, (.getfield 192, 3)) (List.mem_of_getElem? (i := 3) rfl)
theorem dX12_next_165 : decode cX12_next 165 = .ok (.if_icmp .ge 78, 3) := dgX12_next_2 (165, (.if_icmp .ge 78, 3)) (List.mem_of_getElem? (i := 4) rfl)
theorem dX12_next_168 : decode cX12_next 168 = .ok (.aload_n 0, 1) := dgX12_next_2 (168, (.aload_n 0, 1)) (List.mem_of_getElem? (i := 5) rfl)
theorem dX12_next_169 : decode cX12_next 169 = .ok (.getfield 23, 3) := dgX12_next_2 (169, (.getfield 23, 3)) (List.mem_of_getElem? (i := 6) rfl)
theorem dX12_next_172 : decode cX12_next 172 = .ok (.aload_n 0, 1) := dgX12_next_2 (172, (.aload_n 0, 1)) (List.mem_of_getElem? (i := 7) rfl)
theorem dX12_next_173 : decode cX12_next 173 = .ok (.getfield 202, 3) := dgX12_next_2 (173, (.getfield 202, 3)) (List.mem_of_getElem? (i := 8) rfl)
theorem dX12_next_176 : decode cX12_next 176 = .ok (.iaload, 1) := dgX12_next_2 (176, (.iaload, 1)) (List.mem_of_getElem? (i := 9) rfl)
theorem dX12_next_177 : decode cX12_next 177 = .ok (.invokestatic 218, 3) := dgX12_next_2 (177, (.invokestatic 218, 3)) (List.mem_of_getElem? (i := 10) rfl)
theorem dX12_next_180 : decode cX12_next 180 = .ok (.ifCond .eq 63, 3) := dgX12_next_2 (180, (.ifCond .eq 63, 3)) (List.mem_of_getElem? (i := 11) rfl)
theorem dX12_next_183 : decode cX12_next 183 = .ok (.aload_n 0, 1) := dgX12_next_2 (183, (.aload_n 0, 1)) (List.mem_of_getElem? (i := 12) rfl)
theorem dX12_next_184 : decode cX12_next 184 = .ok (.aload_n 0, 1) := dgX12_next_2 (184, (.aload_n 0, 1)) (List.mem_of_getElem? (i := 13) rfl)
theorem dX12_next_185 : decode cX12_next 185 = .ok (.getfield 202, 3) := dgX12_next_2 (185, (.getfield 202, 3)) (List.mem_of_getElem? (i := 14) rfl)
theorem dX12_next_188 : decode cX12_next 188 = .ok (.aload_n 0, 1) := dgX12_next_2 (188, (.aload_n 0, 1)) (List.mem_of_getElem? (i := 15) rfl)
theorem dX12_next_189 : decode cX12_next 189 = .ok (.getfield 211, 3) := dgX12_next_2 (189, (.getfield 211, 3)) (List.mem_of_getElem? (i := 16) rfl)
theorem dX12_next_192 : decode cX12_next 192 = .ok (.isub, 1) := dgX12_next_2 (192, (.isub, 1)) (List.mem_of_getElem? (i := 17) rfl)
theorem dX12_next_193 : decode cX12_next 193 = .ok (.bipush 10, 2) := dgX12_next_2 (193, (.bipush 10, 2)) (List.mem_of_getElem? (i := 18) rfl)
theorem dX12_next_195 : decode cX12_next 195 = .ok (.if_icmp .ge 29, 3) := dgX12_next_2 (195, (.if_icmp .ge 29, 3)) (List.mem_of_getElem? (i := 19) rfl)
theorem dX12_next_198 : decode cX12_next 198 = .ok (.aload_n 0, 1) := dgX12_next_2 (198, (.aload_n 0, 1)) (List.mem_of_getElem? (i := 20) rfl)
theorem dX12_next_199 : decode cX12_next 199 = .ok (.getfield 214, 3) := dgX12_next_2 (199, (.getfield 214, 3)) (List.mem_of_getElem? (i := 21) rfl)
theorem dX12_next_202 : decode cX12_next 202 = .ok (.ldc2_w 227, 3) := dgX12_next_2 (202, (.ldc2_w 227, 3)) (List.mem_of_getElem? (i := 22) rfl)
theorem dX12_next_205 : decode cX12_next 205 = .ok (.lmul, 1) := dgX12_next_2 (205, (.lmul, 1)) (List.mem_of_getElem? (i := 23) rfl)
theorem dX12_next_206 : decode cX12_next 206 = .ok (.aload_n 0, 1) := dgX12_next_2 (206, (.aload_n 0, 1)) (List.mem_of_getElem? (i := 24) rfl)
theorem dX12_next_207 : decode cX12_next 207 = .ok (.getfield 23, 3) := dgX12_next_2 (207, (.getfield 23, 3)) (List.mem_of_getElem? (i := 25) rfl)
theorem dX12_next_210 : decode cX12_next 210 = .ok (.aload_n 0, 1) := dgX12_next_2 (210, (.aload_n 0, 1)) (List.mem_of_getElem? (i := 26) rfl)
theorem dX12_next_211 : decode cX12_next 211 = .ok (.getfield 202, 3) := dgX12_next_2 (211, (.getfield 202, 3)) (List.mem_of_getElem? (i := 27) rfl)
theorem dX12_next_214 : decode cX12_next 214 = .ok (.iaload, 1) := dgX12_next_2 (214, (.iaload, 1)) (List.mem_of_getElem? (i := 28) rfl)
theorem dX12_next_215 : decode cX12_next 215 = .ok (.i2l, 1) := dgX12_next_2 (215, (.i2l, 1)) (List.mem_of_getElem? (i := 29) rfl)
theorem dX12_next_216 : decode cX12_next 216 = .ok (.ladd, 1) := dgX12_next_2 (216, (.ladd, 1)) (List.mem_of_getElem? (i := 30) rfl)
theorem dX12_next_217 : decode cX12_next 217 = .ok (.ldc2_w 229, 3) := dgX12_next_2 (217, (.ldc2_w 229, 3)) (List.mem_of_getElem? (i := 31) rfl)
theorem dX12_next_220 : decode cX12_next 220 = .ok (.lsub, 1) := dgX12_next_2 (220, (.lsub, 1)) (List.mem_of_getElem? (i := 32) rfl)
theorem dX12_next_221 : decode cX12_next 221 = .ok (.goto 6, 3) := dgX12_next_2 (221, (.goto 6, 3)) (List.mem_of_getElem? (i := 33) rfl)
theorem dX12_next_224 : decode cX12_next 224 = .ok (.ldc2_w 178, 3) := dgX12_next_2 (224, (.ldc2_w 178, 3)) (List.mem_of_getElem? (i := 34) rfl)
theorem dX12_next_227 : decode cX12_next 227 = .ok (.putfield 214, 3) := dgX12_next_2 (227, (.putfield 214, 3)) (List.mem_of_getElem? (i := 35) rfl)
theorem dX12_next_230 : decode cX12_next 230 = .ok (.aload_n 0, 1) := dgX12_next_2 (230, (.aload_n 0, 1)) (List.mem_of_getElem? (i := 36) rfl)
theorem dX12_next_231 : decode cX12_next 231 = .ok (.dup, 1) := dgX12_next_2 (231, (.dup, 1)) (List.mem_of_getElem? (i := 37) rfl)
theorem dX12_next_232 : decode cX12_next 232 = .ok (.getfield 202, 3) := dgX12_next_2 (232, (.getfield 202, 3)) (List.mem_of_getElem? (i := 38) rfl)
theorem dX12_next_235 : decode cX12_next 235 = .ok (.iconst 1, 1) := dgX12_next_2 (235, (.iconst 1, 1)) (List.mem_of_getElem? (i := 39) rfl)
theorem dgX12_next_3 : ∀ r ∈ ([(236, (.iadd, 1)), (237, (.putfield 202, 3)), (240, (.goto (-91), 3)), (243, (.aload_n 0, 1)), (244, (.getfield 224, 3)), (247, (.iconst 2, 1)), (248, (.if_icmp .ne 87, 3)), (251, (.aload_n 0, 1)), (252, (.getfield 202, 3)), (255, (.aload_n 0, 1)), (256, (.getfield 192, 3)), (259, (.if_icmp .ge 76, 3)), (262, (.aload_n 0, 1)), (263, (.getfield 23, 3)), (266, (.aload_n 0, 1)), (267, (.getfield 202, 3)), (270, (.iaload, 1)), (271, (.invokestatic 221, 3)), (274, (.ifCond .eq 61, 3)), (277, (.aload_n 0, 1)), (278, (.aload_n 0, 1)), (279, (.getfield 214, 3)), (282, (.ldc2_w 190, 3)), (285, (.lcmp, 1)), (286, (.ifCond .le 10, 3)), (289, (.aload_n 0, 1)), (290, (.getfield 214, 3)), (293, (.goto 26, 3)), (296, (.aload_n 0, 1)), (297, (.getfield 214, 3)), (300, (.ldc2_w 156, 3)), (303, (.lmul, 1)), (304, (.aload_n 0, 1)), (305, (.getfield 23, 3)), (308, (.aload_n 0, 1)), (309, (.getfield 202, 3)), (312, (.iaload, 1)), (313, (.i2l, 1)), (314, (.ladd, 1)), (315, (.ldc2_w 231, 3))] : List (Nat × (Instr × Nat))), decode cX12_next r.1 = .ok r.2 := by decide +kernel
theorem dX12_next_236 : decode cX12_next 236 = .ok (.iadd, 1) := dgX12_next_3 (236, (.iadd, 1)) (List.mem_of_getElem? (i := 0) rfl)
theorem dX12_next_237 : decode cX12_next 237 = .ok (.putfield 202, 3) := dgX12_next_3 (237, (.putfield 202, 3)) (List.mem_of_getElem? (i := 1) rfl)
theorem dX12_next_240 : decode cX12_next 240 = .ok (.goto (-91), 3) := dgX12_next_3 (240, (.goto (-91), 3)) (List.mem_of_getElem? (i := 2) rfl)
theorem dX12_next_243 : decode cX12_next 243 = .ok (.aload_n 0, 1) := dgX12_next_3 (243, (.aload_n 0, 1)) (List.mem_of_getElem? (i := 3) rfl)
theorem dX12_next_244 : decode cX12_next 244 = .ok (.getfield 224, 3) := dgX12_next_3 (244, (.getfield 224, 3)) (List.mem_of_getElem? (i := 4) rfl)
theorem dX12_next_247 : decode cX12_next 247 = .ok (.iconst 2, 1) := dgX12_next_3 (247, (.iconst 2, 1)) (List.mem_of_getElem? (i := 5) rfl)
theorem dX12_next_248 : decode cX12_next 248 = .ok (.if_icmp .ne 87, 3) := dgX12_next_3 (248, (.if_icmp .ne 87, 3)) (List.mem_of_getElem? (i := 6) rfl)
theorem dX12_next_251 : decode cX12_next 251 = .ok (.aload_n 0, 1) := dgX12_next_3 (251, (.aload_n 0, 1)) (List.mem_of_getElem? (i := 7) rfl)
theorem dX12_next_252 : decode cX12_next 252 = .ok (.getfield 202, 3) := dgX12_next_3 (252, (.getfield 202, 3)) (List.mem_of_getElem? (i := 8) rfl)
theorem dX12_next_255 : decode cX12_next 255 = .ok (.aload_n 0, 1) := dgX12_next_3 (255, (.aload_n 0, 1)) (List.mem_of_getElem? (i := 9) rfl)
theorem dX12_next_256 : decode cX12_next 256 = .ok (.getfield 192, 3) := dgX12_next_3 (256, (.getfield 192, 3)) (List.mem_of_getElem? (i := 10) rfl)
theorem dX12_next_259 : decode cX12_next 259 = .ok (.if_icmp .ge 76, 3) := dgX12_next_3 (259, (.if_icmp .ge 76, 3)) (List.mem_of_getElem? (i := 11) rfl)
theorem dX12_next_262 : decode cX12_next 262 = .ok (.aload_n 0, 1) := dgX12_next_3 (262, (.aload_n 0, 1)) (List.mem_of_getElem? (i := 12) rfl)
theorem dX12_next_263 : decode cX12_next 263 = .ok (.getfield 23, 3) := dgX12_next_3 (263, (.getfield 23, 3)) (List.mem_of_getElem? (i := 13) rfl)
theorem dX12_next_266 : decode cX12_next 266 = .ok (.aload_n 0, 1) := dgX12_next_3 (266, (.aload_n 0, 1)) (List.mem_of_getElem? (i := 14) rfl)
theorem dX12_next_267 : decode cX12_next 267 = .ok (.getfield 202, 3) := dgX12_next_3 (267, (.getfield 202, 3)) (List.mem_of_getElem? (i := 15) rfl)
theorem dX12_next_270 : decode cX12_next 270 = .ok (.iaload, 1) := dgX12_next_3 (270, (.iaload, 1)) (List.mem_of_getElem? (i := 16) rfl)
theorem dX12_next_271 : decode cX12_next 271 = .ok (.invokestatic 221, 3) := dgX12_next_3 (271, (.invokestatic 221, 3)) (List.mem_of_getElem? (i := 17) rfl)
theorem dX12_next_274 : decode cX12_next 274 = .ok (.ifCond .eq 61, 3) := dgX12_next_3 (274, (.ifCond .eq 61, 3)) (List.mem_of_getElem? (i := 18) rfl)
theorem dX12_next_277 : decode cX12_next 277 = .ok (.aload_n 0, 1) := dgX12_next_3 (277, (.aload_n 0, 1)) (List.mem_of_getElem? (i := 19) rfl)
theorem dX12_next_278 : decode cX12_next 278 = .ok (.aload_n 0, 1) := dgX12_next_3 (278, (.aload_n 0, 1)) (List.mem_of_getElem? (i := 20) rfl)
theorem dX12_next_279 : decode cX12_next 279 = .ok (.getfield 214, 3) := dgX12_next_3 (279, (.getfield 214, 3)) (List.mem_of_getElem? (i := 21) rfl)
theorem dX12_next_282 : decode cX12_next 282 = .ok (.ldc2_w 190, 3) := dgX12_next_3 (282, (.ldc2_w 190, 3)) (List.mem_of_getElem? (i := 22) rfl)
theorem dX12_next_285 : decode cX12_next 285 = .ok (.lcmp, 1) := dgX12_next_3 (285, (.lcmp, 1)) (List.mem_of_getElem? (i := 23) rfl)
theorem dX12_next_286 : decode cX12_next 286 = .ok (.ifCond .le 10, 3) := dgX12_next_3 (286, (.ifCond .le 10, 3)) (List.mem_of_getElem? (i := 24) rfl)
theorem dX12_next_289 : decode cX12_next 289 = .ok (.aload_n 0, 1) := dgX12_next_3 (289, (.aload_n 0, 1)) (List.mem_of_getElem? (i := 25) rfl)
theorem dX12_next_290 : decode cX12_next 290 = .ok (.getfield 214, 3) := dgX12_next_3 (290, (.getfield 214, 3)) (List.mem_of_getElem? (i := 26) rfl)
theorem dX12_next_293 : decode cX12_next 293 = .ok (.goto 26, 3) := dgX12_next_3 (293, (.goto 26, 3)) (List.mem_of_getElem? (i := 27) rfl)
theorem dX12_next_296 : decode cX12_next 296 = .ok (.aload_n 0, 1) := dgX12_next_3 (296, (.aload_n 0, 1)) (List.mem_of_getElem? (i := 28) rfl)
theorem dX12_next_297 : decode cX12_next 297 = .ok (.getfield 214, 3) := dgX12_next_3 (297, (.getfield 214, 3)) (List.mem_of_getElem? (i := 29) rfl)
theorem dX12_next_300 : decode cX12_next 300 = .ok (.ldc2_w 156, 3) := dgX12_next_3 (300, (.ldc2_w 156, 3)) (List.mem_of_getElem? (i := 30) rfl)
theorem dX12_next_303 : decode cX12_next 303 = .ok (.lmul, 1) := dgX12_next_3 (303, (.lmul, 1)) (List.mem_of_getElem? (i := 31) rfl)
theorem dX12_next_304 : decode cX12_next 304 = .ok (.aload_n 0, 1) := dgX12_next_3 (304, (.aload_n 0, 1)) (List.mem_of_getElem? (i := 32) rfl)
theorem dX12_next_305 : decode cX12_next 305 = .ok (.getfield 23, 3) := dgX12_next_3 (305, (.getfield 23, 3)) (List.mem_of_getElem? (i := 33) rfl)
theorem dX12_next_308 : decode cX12_next 308 = .ok (.aload_n 0, 1) := dgX12_next_3 (308, (.aload_n 0, 1)) (List.mem_of_getElem? (i := 34) rfl)
theorem dX12_next_309 : decode cX12_next 309 = .ok (.getfield 202, 3) := dgX12_next_3 (309, (.getfield 202, 3)) (List.mem_of_getElem? (i := 35) rfl)
theorem dX12_next_312 : decode cX12_next 312 = .ok (.iaload, 1) := dgX12_next_3 (312, (.iaload, 1)) (List.mem_of_getElem? (i := 36) rfl)
theorem dX12_next_313 : decode cX12_next 313 = .ok (.i2l, 1) := dgX12_next_3 (313, (.i2l, 1)) (List.mem_of_getElem? (i := 37) rfl)
theorem dX12_next_314 : decode cX12_next 314 = .ok (.ladd, 1) := dgX12_next_3 (314, (.ladd, 1)) (List.mem_of_getElem? (i := 38) rfl)
theorem dX12_next_315 : decode cX12_next 315 = .ok (.ldc2_w 231, 3) := dgX12_next_3 (315, (.ldc2_w 231, 3)) (List.mem_of_getElem? (i := 39) rfl)
theorem dgX12_next_4 : ∀ r ∈ ([(318, (.lsub, 1)), (319, (.putfield 214, 3)), (322, (.aload_n 0, 1)), (323, (.dup, 1)), (324, (.getfield 202, 3)), (327, (.iconst 1, 1)), (328, (.iadd, 1)), (329, (.putfield 202, 3)), (332, (.goto (-89), 3)), (335, (.return_, 1))] : List (Nat × (Instr × Nat))), decode cX12_next r.1 = .ok r.2 := by decide +kernel
theorem dX12_next_318 : decode cX12_next 318 = .ok (.lsub, 1) := dgX12_next_4 (318, (.lsub, 1)) (List.mem_of_getElem? (i := 0) rfl)
theorem dX12_next_319 : decode cX12_next 319 = .ok (.putfield 214, 3) := dgX12_next_4 (319, (.putfield 214, 3)) (List.mem_of_getElem? (i := 1) rfl)
theorem dX12_next_322 : decode cX12_next 322 = .ok (.aload_n 0, 1) := dgX12_next_4 (322, (.aload_n 0, 1)) (List.mem_of_getElem? (i := 2) rfl)
theorem dX12_next_323 : decode cX12_next 323 = .ok (.dup, 1) := dgX12_next_4 (323, (.dup, 1)) (List.mem_of_getElem? (i := 3) rfl)
theorem dX12_next_324 : decode cX12_next 324 = .ok (.getfield 202, 3) := dgX12_next_4 (324, (.getfield 202, 3)) (List.mem_of_getElem? (i := 4) rfl)
theorem dX12_next_327 : decode cX12_next 327 = .ok (.iconst 1, 1) := dgX12_next_4 (327, (.iconst 1, 1)) (List.mem_of_getElem? (i := 5) rfl)
theorem dX12_next_328 : decode cX12_next 328 = .ok (.iadd, 1) := dgX12_next_4 (328, (.iadd, 1)) (List.mem_of_getElem? (i := 6) rfl)
theorem dX12_next_329 : decode cX12_next 329 = .ok (.putfield 202, 3) := dgX12_next_4 (329, (.putfield 202, 3)) (List.mem_of_getElem? (i := 7) rfl)
theorem dX12_next_332 : decode cX12_next 332 = .ok (.goto (-89), 3) := dgX12_next_4 (332, (.goto (-89), 3)) (List.mem_of_getElem? (i := 8) rfl)
theorem dX12_next_335 : decode cX12_next 335 = .ok (.return_, 1) := dgX12_next_4 (335, (.return_, 1)) (List.mem_of_getElem? (i := 9) rfl)
theorem fl_X12_202 : Cond.fieldLink RX12 202 "LateGlassModel" "to" "I" ∈ tblG := tg 1213 (by decide +kernel) (by decide +kernel)
theorem fl_X12_211 : Cond.fieldLink RX12 211 "LateGlassModel" "from" "I" ∈ tblG := tg 1212 (by decide +kernel) (by decide +kernel)
theorem fl_X12_214 : Cond.fieldLink RX12 214 "LateGlassModel" "worth" "J" ∈ tblG := tg 1215 (by decide +kernel) (by decide +kernel)
theorem fl_X12_224 : Cond.fieldLink RX12 224 "LateGlassModel" "sort" "I" ∈ tblG := tg 1214 (by decide +kernel) (by decide +kernel)
theorem ml_X12_218 : Cond.methodLink RX12 218 yX12_isSmall ∈ tblG := tg 1508 (by decide +kernel) (by decide +kernel)
theorem st_X12_isSmall : Cond.static yX12_isSmall ∈ tblG := tg 1509 (by decide +kernel) (by decide +kernel)
theorem cd_X12_isSmall : Cond.code yX12_isSmall cX12_isSmall 1 (some .boolean) ∈ tblG := tg 1510 (by decide +kernel) (by decide +kernel)
theorem gW_X12_isSmall : GoodIn tblG (wsG yX12_isSmall cX12_isSmall 1 (some .boolean)) := tgi cd_X12_isSmall
theorem gS_X12_218 : GoodIn tblG (va_wsS RX12 218 yX12_isSmall (wsG yX12_isSmall cX12_isSmall 1 (some .boolean))) := tgS ml_X12_218 st_X12_isSmall ini_X12 gW_X12_isSmall
theorem hs_X12_isSmall : yX12_isSmall.cls ≠ "java/lang/invoke/MethodHandle" ∧ yX12_isSmall.cls ≠ "java/lang/invoke/VarHandle" ∧ (parseMethodDescriptor yX12_isSmall.desc).map (fun d => d.parameters.length) = some 1 := by decide +kernel
theorem kl_X12_227 : Cond.constantLong RX12 227 32 ∈ tblG := tg 1514 (by decide +kernel) (by decide +kernel)
theorem kl_X12_229 : Cond.constantLong RX12 229 96 ∈ tblG := tg 1515 (by decide +kernel) (by decide +kernel)
theorem ml_X12_221 : Cond.methodLink RX12 221 yX12_isDigit ∈ tblG := tg 1511 (by decide +kernel) (by decide +kernel)
theorem st_X12_isDigit : Cond.static yX12_isDigit ∈ tblG := tg 1512 (by decide +kernel) (by decide +kernel)
theorem cd_X12_isDigit : Cond.code yX12_isDigit cX12_isDigit 1 (some .boolean) ∈ tblG := tg 1513 (by decide +kernel) (by decide +kernel)
theorem gW_X12_isDigit : GoodIn tblG (wsG yX12_isDigit cX12_isDigit 1 (some .boolean)) := tgi cd_X12_isDigit
theorem gS_X12_221 : GoodIn tblG (va_wsS RX12 221 yX12_isDigit (wsG yX12_isDigit cX12_isDigit 1 (some .boolean))) := tgS ml_X12_221 st_X12_isDigit ini_X12 gW_X12_isDigit
theorem hs_X12_isDigit : yX12_isDigit.cls ≠ "java/lang/invoke/MethodHandle" ∧ yX12_isDigit.cls ≠ "java/lang/invoke/VarHandle" ∧ (parseMethodDescriptor yX12_isDigit.desc).map (fun d => d.parameters.length) = some 1 := by decide +kernel
theorem kl_X12_231 : Cond.constantLong RX12 231 48 ∈ tblG := tg 1516 (by decide +kernel) (by decide +kernel)
