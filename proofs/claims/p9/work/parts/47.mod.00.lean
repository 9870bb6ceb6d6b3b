set_option maxHeartbeats 4000000 in
set_option maxRecDepth 100000 in
theorem n_besideW (l : Launch) (G : g5_G) (sz : Nat) (p_0 : Int32) (p_1 : Int32) (h_p_0 : (-1) ≤ p_0.toInt ∧ p_0.toInt ≤ 63) : Met l yX12_beside (wsG yX12_beside cX12_beside 2 (some .int)) ({ frames := 0, cells := 0, slots := 0, locals := 0 }) (va_Pc [.int p_0, .int p_1] (g5_P G [] sz)) (va_Qi (fun (r : Int32) (u : va_W) => (∃ (o_r : Int32), (r = o_r) ∧ (u = []))) (g5_B G (va_A [] sz)) (va_A [] sz)) 0 0 (va_A [] sz) := by
  refine Met.ofW (cc := cX12_beside) (maxL := 2) (ret := (some .int)) (by decide) rfl ?_
  intro p e s m args below meth c s₁ B hml hv
  obtain ⟨rfl, hsz, hP, hK, hD0, hN, hT⟩ := hv
  have hx := B.exec
  have hb := B.bytes
  have hr := B.returns
  have hts : ∀ w ∈ tblG, w.before _ s = true := fun w h => atoms_spec (ws := (wsG yX12_beside cX12_beside 2 (some .int))) B.pre w (List.mem_cons_of_mem _ h)
  have hown : s.vm.findClass RX12 = some m.cls := findClass_of_methodNamed B.named
  have hlocks := B.notSynchronized
  subst hsz
  have hD := hD0.self (sz := s.heap.size)
  generalize hAe : va_A [] s.heap.size = A at hD hT ⊢
  have hA : ∀ q : Nat, s.heap.size ≤ q → A q := fun q h => by rw [← hAe]; exact Or.inr h
  have hS : va_S A s.heap s.heap [] := va_S.rf
  have hP : va_P G.1 vwCl [] s.heap := hP
  have hl := lv_entry ([.int p_0, .int p_1]) (n := 2) (Nat.le_of_ble_eq_true rfl)
  rw [lg_entry_eq]
  generalize (lg_sl ([.int p_0, .int p_1]) ++ List.replicate (2 - (lg_sl ([.int p_0, .int p_1])).length) Slot.unset).toArray = ls at hl ⊢
  have hl : lv_has ls 2 [(0, .int p_0), (1, .int p_1)] := hl
  refine lv_iload_n hx hb dX12_beside_0 rfl (lv_at hl 1 rfl) ?_
  rcases (show p_1.toInt = 0 ∨ p_1.toInt = 1 ∨ p_1.toInt = 2 ∨ p_1.toInt < 0 ∨ p_1.toInt > 2 by omega) with s_1 | s_1 | s_1 | s_1 | s_1
  ·
    have i_1 : p_1.toInt = 0 := by omega
    refine lv_tableIn (tgt := 28) hx hb dX12_beside_1 (by omega) (by omega) (by rw [s_1]; rfl) (by decide) ?_
    refine lv_iload_n hx hb dX12_beside_28 rfl (lv_at hl 0 rfl) ?_
    refine lv_bipush (v := 8) hx hb dX12_beside_29 (by decide) ?_
    refine lv_icmp_lt (tgt := 41) hx hb dX12_beside_31 (by decide) (fun c_2 => ?_) (fun c_2 => ?_)
    ·
      have i_2 : p_0.toInt < 8 := by have z := g5_lt (a := p_0.toInt) (b := 8) (by rfl) (by decide) c_2; omega
      refine lv_iconst (v := (-1)) hx hb dX12_beside_41 (by decide) ?_
      exact W.iret (v := (-1)) hx hb hr (fun t ht hW => ⟨⟨(-1), [], rfl, ⟨(-1), rfl, rfl⟩, by rw [ht]; exact hP.sub [] rfl, hD.sub [] (by decide) rfl⟩, hS.F ht⟩) hS.2.2 dX12_beside_42
    ·
      have i_2 : p_0.toInt ≥ 8 := by have z := g5_ltN (a := p_0.toInt) (b := 8) (by rfl) (by decide) c_2; omega
      refine lv_iload_n hx hb dX12_beside_34 rfl (lv_at hl 0 rfl) ?_
      refine lv_bipush (v := 8) hx hb dX12_beside_35 (by decide) ?_
      refine lv_isub hx hb dX12_beside_37 ?_
      have t_3 : (p_0 - 8).toInt = p_0.toInt - 8 := g5_isub (a := p_0.toInt) (b := 8) (by rfl) (by decide) (by omega) (by omega)
      refine lv_goto (tgt := 42) hx hb dX12_beside_38 (by decide) ?_
      exact W.iret (v := (p_0 - 8)) hx hb hr (fun t ht hW => ⟨⟨(p_0 - 8), [], rfl, ⟨(p_0 - 8), rfl, rfl⟩, by rw [ht]; exact hP.sub [] rfl, hD.sub [] (by decide) rfl⟩, hS.F ht⟩) hS.2.2 dX12_beside_42
  ·
    have i_1 : p_1.toInt = 1 := by omega
    refine lv_tableIn (tgt := 43) hx hb dX12_beside_1 (by omega) (by omega) (by rw [s_1]; rfl) (by decide) ?_
    refine lv_iload_n hx hb dX12_beside_43 rfl (lv_at hl 0 rfl) ?_
    refine lv_bipush (v := 8) hx hb dX12_beside_44 (by decide) ?_
    refine lv_irem hx hb dX12_beside_46 (by decide) ?_
    refine lv_bipush (v := 7) hx hb dX12_beside_47 (by decide) ?_
    refine lv_icmp_ge (tgt := 58) hx hb dX12_beside_49 (by decide) (fun c_4 => ?_) (fun c_4 => ?_)
    ·
      have i_4 : (p_0 - p_0 / 8 * 8).toInt ≥ 7 := by have z := g5_ge (a := (p_0 - p_0 / 8 * 8).toInt) (b := 7) (by rfl) (by decide) c_4; omega
      refine lv_iconst (v := (-1)) hx hb dX12_beside_58 (by decide) ?_
      exact W.iret (v := (-1)) hx hb hr (fun t ht hW => ⟨⟨(-1), [], rfl, ⟨(-1), rfl, rfl⟩, by rw [ht]; exact hP.sub [] rfl, hD.sub [] (by decide) rfl⟩, hS.F ht⟩) hS.2.2 dX12_beside_59
    ·
      have i_4 : (p_0 - p_0 / 8 * 8).toInt < 7 := by have z := g5_geN (a := (p_0 - p_0 / 8 * 8).toInt) (b := 7) (by rfl) (by decide) c_4; omega
      refine lv_iload_n hx hb dX12_beside_52 rfl (lv_at hl 0 rfl) ?_
      refine lv_iconst (v := 1) hx hb dX12_beside_53 (by decide) ?_
      refine lv_iadd hx hb dX12_beside_54 ?_
      have t_5 : (p_0 + 1).toInt = p_0.toInt + 1 := g5_iadd (a := p_0.toInt) (b := 1) (by rfl) (by decide) (by omega) (by omega)
      refine lv_goto (tgt := 59) hx hb dX12_beside_55 (by decide) ?_
      exact W.iret (v := (p_0 + 1)) hx hb hr (fun t ht hW => ⟨⟨(p_0 + 1), [], rfl, ⟨(p_0 + 1), rfl, rfl⟩, by rw [ht]; exact hP.sub [] rfl, hD.sub [] (by decide) rfl⟩, hS.F ht⟩) hS.2.2 dX12_beside_59
  ·
    have i_1 : p_1.toInt = 2 := by omega
    refine lv_tableIn (tgt := 60) hx hb dX12_beside_1 (by omega) (by omega) (by rw [s_1]; rfl) (by decide) ?_
    refine lv_iload_n hx hb dX12_beside_60 rfl (lv_at hl 0 rfl) ?_
    refine lv_bipush (v := 56) hx hb dX12_beside_61 (by decide) ?_
    refine lv_icmp_ge (tgt := 73) hx hb dX12_beside_63 (by decide) (fun c_6 => ?_) (fun c_6 => ?_)
    ·
      have i_6 : p_0.toInt ≥ 56 := by have z := g5_ge (a := p_0.toInt) (b := 56) (by rfl) (by decide) c_6; omega
      refine lv_iconst (v := (-1)) hx hb dX12_beside_73 (by decide) ?_
      exact W.iret (v := (-1)) hx hb hr (fun t ht hW => ⟨⟨(-1), [], rfl, ⟨(-1), rfl, rfl⟩, by rw [ht]; exact hP.sub [] rfl, hD.sub [] (by decide) rfl⟩, hS.F ht⟩) hS.2.2 dX12_beside_74
    ·
      have i_6 : p_0.toInt < 56 := by have z := g5_geN (a := p_0.toInt) (b := 56) (by rfl) (by decide) c_6; omega
      refine lv_iload_n hx hb dX12_beside_66 rfl (lv_at hl 0 rfl) ?_
      refine lv_bipush (v := 8) hx hb dX12_beside_67 (by decide) ?_
      refine lv_iadd hx hb dX12_beside_69 ?_
      have t_7 : (p_0 + 8).toInt = p_0.toInt + 8 := g5_iadd (a := p_0.toInt) (b := 8) (by rfl) (by decide) (by omega) (by omega)
      refine lv_goto (tgt := 74) hx hb dX12_beside_70 (by decide) ?_
      exact W.iret (v := (p_0 + 8)) hx hb hr (fun t ht hW => ⟨⟨(p_0 + 8), [], rfl, ⟨(p_0 + 8), rfl, rfl⟩, by rw [ht]; exact hP.sub [] rfl, hD.sub [] (by decide) rfl⟩, hS.F ht⟩) hS.2.2 dX12_beside_74
  ·
    have i_1 : p_1.toInt < 0 := by omega
    refine lv_tableOut (tgt := 75) hx hb dX12_beside_1 (by omega) (by decide) ?_
    refine lv_iload_n hx hb dX12_beside_75 rfl (lv_at hl 0 rfl) ?_
    refine lv_bipush (v := 8) hx hb dX12_beside_76 (by decide) ?_
    refine lv_irem hx hb dX12_beside_78 (by decide) ?_
    refine lv_if_le (tgt := 88) hx hb dX12_beside_79 (by decide) (fun c_8 => ?_) (fun c_8 => ?_)
    ·
      have i_8 : (p_0 - p_0 / 8 * 8).toInt ≤ 0 := by have z := g5_le (a := (p_0 - p_0 / 8 * 8).toInt) (b := 0) (by rfl) (by decide) c_8; omega
      refine lv_iconst (v := (-1)) hx hb dX12_beside_88 (by decide) ?_
      exact W.iret (v := (-1)) hx hb hr (fun t ht hW => ⟨⟨(-1), [], rfl, ⟨(-1), rfl, rfl⟩, by rw [ht]; exact hP.sub [] rfl, hD.sub [] (by decide) rfl⟩, hS.F ht⟩) hS.2.2 dX12_beside_89
    ·
      have i_8 : (p_0 - p_0 / 8 * 8).toInt > 0 := by have z := g5_leN (a := (p_0 - p_0 / 8 * 8).toInt) (b := 0) (by rfl) (by decide) c_8; omega
      refine lv_iload_n hx hb dX12_beside_82 rfl (lv_at hl 0 rfl) ?_
      refine lv_iconst (v := 1) hx hb dX12_beside_83 (by decide) ?_
      refine lv_isub hx hb dX12_beside_84 ?_
      have t_9 : (p_0 - 1).toInt = p_0.toInt - 1 := g5_isub (a := p_0.toInt) (b := 1) (by rfl) (by decide) (by omega) (by omega)
      refine lv_goto (tgt := 89) hx hb dX12_beside_85 (by decide) ?_
      exact W.iret (v := (p_0 - 1)) hx hb hr (fun t ht hW => ⟨⟨(p_0 - 1), [], rfl, ⟨(p_0 - 1), rfl, rfl⟩, by rw [ht]; exact hP.sub [] rfl, hD.sub [] (by decide) rfl⟩, hS.F ht⟩) hS.2.2 dX12_beside_89
  ·
    have i_1 : p_1.toInt > 2 := by omega
    refine lv_tableOut (tgt := 75) hx hb dX12_beside_1 (by omega) (by decide) ?_
    refine lv_iload_n hx hb dX12_beside_75 rfl (lv_at hl 0 rfl) ?_
    refine lv_bipush (v := 8) hx hb dX12_beside_76 (by decide) ?_
    refine lv_irem hx hb dX12_beside_78 (by decide) ?_
    refine lv_if_le (tgt := 88) hx hb dX12_beside_79 (by decide) (fun c_10 => ?_) (fun c_10 => ?_)
    ·
      have i_10 : (p_0 - p_0 / 8 * 8).toInt ≤ 0 := by have z := g5_le (a := (p_0 - p_0 / 8 * 8).toInt) (b := 0) (by rfl) (by decide) c_10; omega
      refine lv_iconst (v := (-1)) hx hb dX12_beside_88 (by decide) ?_
      exact W.iret (v := (-1)) hx hb hr (fun t ht hW => ⟨⟨(-1), [], rfl, ⟨(-1), rfl, rfl⟩, by rw [ht]; exact hP.sub [] rfl, hD.sub [] (by decide) rfl⟩, hS.F ht⟩) hS.2.2 dX12_beside_89
    ·
      have i_10 : (p_0 - p_0 / 8 * 8).toInt > 0 := by have z := g5_leN (a := (p_0 - p_0 / 8 * 8).toInt) (b := 0) (by rfl) (by decide) c_10; omega
      refine lv_iload_n hx hb dX12_beside_82 rfl (lv_at hl 0 rfl) ?_
      refine lv_iconst (v := 1) hx hb dX12_beside_83 (by decide) ?_
      refine lv_isub hx hb dX12_beside_84 ?_
      have t_11 : (p_0 - 1).toInt = p_0.toInt - 1 := g5_isub (a := p_0.toInt) (b := 1) (by rfl) (by decide) (by omega) (by omega)
      refine lv_goto (tgt := 89) hx hb dX12_beside_85 (by decide) ?_
      exact W.iret (v := (p_0 - 1)) hx hb hr (fun t ht hW => ⟨⟨(p_0 - 1), [], rfl, ⟨(p_0 - 1), rfl, rfl⟩, by rw [ht]; exact hP.sub [] rfl, hD.sub [] (by decide) rfl⟩, hS.F ht⟩) hS.2.2 dX12_beside_89
set_option maxHeartbeats 4000000 in
set_option maxRecDepth 100000 in
theorem n_in3 (l : Launch) (G : g5_G) (sz : Nat) (p_x : Int32) (p_l : Int32) (p_h : Int32) : Met l yX12_in (wsG yX12_in cX12_in 6 (some .boolean)) ({ frames := 0, cells := 0, slots := 0, locals := 0 }) (va_Pc [.long p_x.toInt64, .long p_l.toInt64, .long p_h.toInt64] (g5_P G [] sz)) (va_Qi (fun (r : Int32) (u : va_W) => ((p_x.toInt < p_l.toInt ∨ p_h.toInt < p_x.toInt) ∧ (r = 0) ∧ (u = [])) ∨ ((p_l.toInt ≤ p_x.toInt ∧ p_x.toInt ≤ p_h.toInt) ∧ (r = 1) ∧ (u = []))) (g5_B G (va_A [] sz)) (va_A [] sz)) 0 0 (va_A [] sz) := by
  refine Met.ofW (cc := cX12_in) (maxL := 6) (ret := (some .boolean)) (by decide) rfl ?_
  intro p e s m args below meth c s₁ B hml hv
  obtain ⟨rfl, hsz, hP, hK, hD0, hN, hT⟩ := hv
  have hx := B.exec
  have hb := B.bytes
  have hr := B.returns
  have hts : ∀ w ∈ tblG, w.before _ s = true := fun w h => atoms_spec (ws := (wsG yX12_in cX12_in 6 (some .boolean))) B.pre w (List.mem_cons_of_mem _ h)
  have hown : s.vm.findClass RX12 = some m.cls := findClass_of_methodNamed B.named
  have hlocks := B.notSynchronized
  subst hsz
  have hD := hD0.self (sz := s.heap.size)
  generalize hAe : va_A [] s.heap.size = A at hD hT ⊢
  have hA : ∀ q : Nat, s.heap.size ≤ q → A q := fun q h => by rw [← hAe]; exact Or.inr h
  have hS : va_S A s.heap s.heap [] := va_S.rf
  have hP : va_P G.1 vwCl [] s.heap := hP
  have hl := lv_entry ([.long p_x.toInt64, .long p_l.toInt64, .long p_h.toInt64]) (n := 6) (Nat.le_of_ble_eq_true rfl)
  rw [lg_entry_eq]
  generalize (lg_sl ([.long p_x.toInt64, .long p_l.toInt64, .long p_h.toInt64]) ++ List.replicate (6 - (lg_sl ([.long p_x.toInt64, .long p_l.toInt64, .long p_h.toInt64])).length) Slot.unset).toArray = ls at hl ⊢
  have hl : lv_has ls 6 [(0, .long p_x.toInt64), (2, .long p_l.toInt64), (4, .long p_h.toInt64)] := hl
  refine lv_lload_n hx hb dX12_in_0 rfl (lv_at hl 0 rfl) ?_
  refine lv_lload_n hx hb dX12_in_1 rfl (lv_at hl 1 rfl) ?_
  have tl_1 : p_x.toInt64.toInt = p_x.toInt := Int32.toInt_toInt64 _
  have tl_2 : p_l.toInt64.toInt = p_l.toInt := Int32.toInt_toInt64 _
  have tc_3 := g5_cmpI p_x.toInt64 p_l.toInt64
  refine W.lcmp hx hb dX12_in_2 ?_
  refine lv_if_lt (tgt := 17) hx hb dX12_in_3 (by decide) (fun c_4 => ?_) (fun c_4 => ?_)
  ·
    have i_4 : (lg_cmp p_x.toInt64 p_l.toInt64).toInt < 0 := by have z := g5_lt (a := (lg_cmp p_x.toInt64 p_l.toInt64).toInt) (b := 0) (by rfl) (by decide) c_4; omega
    refine lv_iconst (v := 0) hx hb dX12_in_17 (by decide) ?_
    exact W.zret (v := 0) hx hb hr rfl (fun t ht hW => ⟨⟨0, [], rfl, Or.inl (⟨by omega, rfl, rfl⟩), by rw [ht]; exact hP.sub [] rfl, hD.sub [] (by decide) rfl⟩, hS.F ht⟩) hS.2.2 dX12_in_18
  ·
    have i_4 : (lg_cmp p_x.toInt64 p_l.toInt64).toInt ≥ 0 := by have z := g5_ltN (a := (lg_cmp p_x.toInt64 p_l.toInt64).toInt) (b := 0) (by rfl) (by decide) c_4; omega
    refine lv_lload_n hx hb dX12_in_6 rfl (lv_at hl 0 rfl) ?_
    refine lv_lload hx hb dX12_in_7 (lv_at hl 2 rfl) ?_
    have tl_5 : p_x.toInt64.toInt = p_x.toInt := Int32.toInt_toInt64 _
    have tl_6 : p_h.toInt64.toInt = p_h.toInt := Int32.toInt_toInt64 _
    have tc_7 := g5_cmpI p_x.toInt64 p_h.toInt64
    refine W.lcmp hx hb dX12_in_9 ?_
    refine lv_if_gt (tgt := 17) hx hb dX12_in_10 (by decide) (fun c_8 => ?_) (fun c_8 => ?_)
    ·
      have i_8 : (lg_cmp p_x.toInt64 p_h.toInt64).toInt > 0 := by have z := g5_gt (a := (lg_cmp p_x.toInt64 p_h.toInt64).toInt) (b := 0) (by rfl) (by decide) c_8; omega
      refine lv_iconst (v := 0) hx hb dX12_in_17 (by decide) ?_
      exact W.zret (v := 0) hx hb hr rfl (fun t ht hW => ⟨⟨0, [], rfl, Or.inl (⟨by omega, rfl, rfl⟩), by rw [ht]; exact hP.sub [] rfl, hD.sub [] (by decide) rfl⟩, hS.F ht⟩) hS.2.2 dX12_in_18
    ·
      have i_8 : (lg_cmp p_x.toInt64 p_h.toInt64).toInt ≤ 0 := by have z := g5_gtN (a := (lg_cmp p_x.toInt64 p_h.toInt64).toInt) (b := 0) (by rfl) (by decide) c_8; omega
      refine lv_iconst (v := 1) hx hb dX12_in_13 (by decide) ?_
      refine lv_goto (tgt := 18) hx hb dX12_in_14 (by decide) ?_
      exact W.zret (v := 1) hx hb hr rfl (fun t ht hW => ⟨⟨1, [], rfl, Or.inr (⟨by omega, rfl, rfl⟩), by rw [ht]; exact hP.sub [] rfl, hD.sub [] (by decide) rfl⟩, hS.F ht⟩) hS.2.2 dX12_in_18
theorem dgX12_isStep_0 : ∀ r ∈ ([(0, (.iload_n 0, 1)), (1, (.iload_n 1, 1)), (2, (.if_icmp .ne 7, 3)), (5, (.iconst 1, 1)), (6, (.goto 4, 3)), (9, (.iconst 0, 1)), (10, (.istore_n 2, 1)), (11, (.iconst 0, 1)), (12, (.istore_n 3, 1)), (13, (.iload_n 3, 1)), (14, (.iconst 4, 1)), (15, (.if_icmp .ge 28, 3)), (18, (.iload_n 2, 1)), (19, (.ifCond .ne 12, 3)), (22, (.iload_n 0, 1)), (23, (.iload_n 3, 1)), (24, (.invokestatic 374, 3)), (27, (.iload_n 1, 1)), (28, (.if_icmp .ne 7, 3)), (31, (.iconst 1, 1)), (32, (.goto 4, 3)), (35, (.iconst 0, 1)), (36, (.istore_n 2, 1)), (37, (.iinc 3 1, 3)), (40, (.goto (-27), 3)), (43, (.iload_n 2, 1)), (44, (.ireturn, 1))] : List (Nat × (Instr × Nat))), decode cX12_isStep r.1 = .ok r.2 := by decide +kernel
theorem dX12_isStep_0 : decode cX12_isStep 0 = .ok (.iload_n 0, 1) := dgX12_isStep_0 (0, (.iload_n 0, 1)) (List.mem_of_getElem? (i := 0) rfl)
theorem dX12_isStep_1 : decode cX12_isStep 1 = .ok (.iload_n 1, 1) := dgX12_isStep_0 (1, (.iload_n 1, 1)) (List.mem_of_getElem? (i := 1) rfl)
theorem dX12_isStep_2 : decode cX12_isStep 2 = .ok (.if_icmp .ne 7, 3) := dgX12_isStep_0 (2, (.if_icmp .ne 7, 3)) (List.mem_of_getElem? (i := 2) rfl)
theorem dX12_isStep_5 : decode cX12_isStep 5 = .ok (.iconst 1, 1) := dgX12_isStep_0 (5, (.iconst 1, 1)) (List.mem_of_getElem? (i := 3) rfl)
theorem dX12_isStep_6 : decode cX12_isStep 6 = .ok (.goto 4, 3) := dgX12_isStep_0 (6, (.goto 4, 3)) (List.mem_of_getElem? (i := 4) rfl)
theorem dX12_isStep_9 : decode cX12_isStep 9 = .ok (.iconst 0, 1) := dgX12_isStep_0 (9, (.iconst 0, 1)) (List.mem_of_getElem? (i := 5) rfl)
theorem dX12_isStep_10 : decode cX12_isStep 10 = .ok (.istore_n 2, 1) := dgX12_isStep_0 (10, (.istore_n 2, 1)) (List.mem_of_getElem? (i := 6) rfl)
theorem dX12_isStep_11 : decode cX12_isStep 11 = .ok (.iconst 0, 1) := dgX12_isStep_0 (11, (.iconst 0, 1)) (List.mem_of_getElem? (i := 7) rfl)
theorem dX12_isStep_12 : decode cX12_isStep 12 = .ok (.istore_n 3, 1) := dgX12_isStep_0 (12, (.istore_n 3, 1)) (List.mem_of_getElem? (i := 8) rfl)
theorem dX12_isStep_13 : decode cX12_isStep 13 = .ok (.iload_n 3, 1) := dgX12_isStep_0 (13, (.iload_n 3, 1)) (List.mem_of_getElem? (i := 9) rfl)
theorem dX12_isStep_14 : decode cX12_isStep 14 = .ok (.iconst 4, 1) := dgX12_isStep_0 (14, (.iconst 4, 1)) (List.mem_of_getElem? (i := 10) rfl)
theorem dX12_isStep_15 : decode cX12_isStep 15 = .ok (.if_icmp .ge 28, 3) := dgX12_isStep_0 (15, (.if_icmp .ge 28, 3)) (List.mem_of_getElem? (i := 11) rfl)
theorem dX12_isStep_18 : decode cX12_isStep 18 = .ok (.iload_n 2, 1) := dgX12_isStep_0 (18, (.iload_n 2, 1)) (List.mem_of_getElem? (i := 12) rfl)
theorem dX12_isStep_19 : decode cX12_isStep 19 = .ok (.ifCond .ne 12, 3) := dgX12_isStep_0 (19, (.ifCond .ne 12, 3)) (List.mem_of_getElem? (i := 13) rfl)
theorem dX12_isStep_22 : decode cX12_isStep 22 = .ok (.iload_n 0, 1) := dgX12_isStep_0 (22, (.iload_n 0, 1)) (List.mem_of_getElem? (i := 14) rfl)
theorem dX12_isStep_23 : decode cX12_isStep 23 = .ok (.iload_n 3, 1) := dgX12_isStep_0 (23, (.iload_n 3, 1)) (List.mem_of_getElem? (i := 15) rfl)
theorem dX12_isStep_24 : decode cX12_isStep 24 = .ok (.invokestatic 374, 3) := dgX12_isStep_0 (24, (.invokestatic 374, 3)) (List.mem_of_getElem? (i := 16) rfl)
theorem dX12_isStep_27 : decode cX12_isStep 27 = .ok (.iload_n 1, 1) := dgX12_isStep_0 (27, (.iload_n 1, 1)) (List.mem_of_getElem? (i := 17) rfl)
theorem dX12_isStep_28 : decode cX12_isStep 28 = .ok (.if_icmp .ne 7, 3) := dgX12_isStep_0 (28, (.if_icmp .ne 7, 3)) (List.mem_of_getElem? (i := 18) rfl)
theorem dX12_isStep_31 : decode cX12_isStep 31 = .ok (.iconst 1, 1) := dgX12_isStep_0 (31, (.iconst 1, 1)) (List.mem_of_getElem? (i := 19) rfl)
theorem dX12_isStep_32 : decode cX12_isStep 32 = .ok (.goto 4, 3) := dgX12_isStep_0 (32, (.goto 4, 3)) (List.mem_of_getElem? (i := 20) rfl)
theorem dX12_isStep_35 : decode cX12_isStep 35 = .ok (.iconst 0, 1) := dgX12_isStep_0 (35, (.iconst 0, 1)) (List.mem_of_getElem? (i := 21) rfl)
theorem dX12_isStep_36 : decode cX12_isStep 36 = .ok (.istore_n 2, 1) := dgX12_isStep_0 (36, (.istore_n 2, 1)) (List.mem_of_getElem? (i := 22) rfl)
theorem dX12_isStep_37 : decode cX12_isStep 37 = .ok (.iinc 3 1, 3) := dgX12_isStep_0 (37, (.iinc 3 1, 3)) (List.mem_of_getElem? (i := 23) rfl)
theorem dX12_isStep_40 : decode cX12_isStep 40 = .ok (.goto (-27), 3) := dgX12_isStep_0 (40, (.goto (-27), 3)) (List.mem_of_getElem? (i := 24) rfl)
theorem dX12_isStep_43 : decode cX12_isStep 43 = .ok (.iload_n 2, 1) := dgX12_isStep_0 (43, (.iload_n 2, 1)) (List.mem_of_getElem? (i := 25) rfl)
theorem dX12_isStep_44 : decode cX12_isStep 44 = .ok (.ireturn, 1) := dgX12_isStep_0 (44, (.ireturn, 1)) (List.mem_of_getElem? (i := 26) rfl)
set_option maxHeartbeats 4000000 in
set_option maxRecDepth 100000 in
theorem n_isStep (l : Launch) (G : g5_G) (sz : Nat) (p_0 : Int32) (p_1 : Int32) (h_p_0 : (-1) ≤ p_0.toInt ∧ p_0.toInt ≤ 63) (h_p_1 : 0 ≤ p_1.toInt ∧ p_1.toInt ≤ 63) : Met l yX12_isStep (wsG yX12_isStep cX12_isStep 4 (some .boolean)) ({ frames := 1, cells := 0, slots := 0, locals := 21 }) (va_Pc [.int p_0, .int p_1] (g5_P G [] sz)) (va_Qi (fun (r : Int32) (u : va_W) => (∃ (o_r : Int32), (0 ≤ o_r.toInt ∧ o_r.toInt ≤ 1) ∧ (r = o_r) ∧ (u = []))) (g5_B G (va_A [] sz)) (va_A [] sz)) 0 0 (va_A [] sz) := by
  refine Met.ofW (cc := cX12_isStep) (maxL := 4) (ret := (some .boolean)) (by decide) rfl ?_
  intro p e s m args below meth c s₁ B hml hv
  obtain ⟨rfl, hsz, hP, hK, hD0, hN, hT⟩ := hv
  have hx := B.exec
  have hb := B.bytes
  have hr := B.returns
  have hts : ∀ w ∈ tblG, w.before _ s = true := fun w h => atoms_spec (ws := (wsG yX12_isStep cX12_isStep 4 (some .boolean))) B.pre w (List.mem_cons_of_mem _ h)
  have hown : s.vm.findClass RX12 = some m.cls := findClass_of_methodNamed B.named
  have hlocks := B.notSynchronized
  subst hsz
  have hD := hD0.self (sz := s.heap.size)
  generalize hAe : va_A [] s.heap.size = A at hD hT ⊢
  have hA : ∀ q : Nat, s.heap.size ≤ q → A q := fun q h => by rw [← hAe]; exact Or.inr h
  have hS : va_S A s.heap s.heap [] := va_S.rf
  have hP : va_P G.1 vwCl [] s.heap := hP
  have hl := lv_entry ([.int p_0, .int p_1]) (n := 4) (Nat.le_of_ble_eq_true rfl)
  rw [lg_entry_eq]
  generalize (lg_sl ([.int p_0, .int p_1]) ++ List.replicate (4 - (lg_sl ([.int p_0, .int p_1])).length) Slot.unset).toArray = ls at hl ⊢
  have hl : lv_has ls 4 [(0, .int p_0), (1, .int p_1)] := hl
  refine lv_iload_n hx hb dX12_isStep_0 rfl (lv_at hl 0 rfl) ?_
  refine lv_iload_n hx hb dX12_isStep_1 rfl (lv_at hl 1 rfl) ?_
  refine lv_icmp_ne (tgt := 9) hx hb dX12_isStep_2 (by decide) (fun c_1 => ?_) (fun c_1 => ?_)
  ·
    have n_1 : gNe (p_0.toInt) (p_1.toInt) := by have z := g5_ne (a := p_0.toInt) (b := p_1.toInt) (by rfl) (by rfl) c_1; unfold gNe; omega
    refine lv_iconst (v := 0) hx hb dX12_isStep_9 (by decide) ?_
    refine lv_istore_n (lv' := [(2, .int 0), (0, .int p_0), (1, .int p_1)]) hx hb dX12_isStep_10 rfl hl (by decide) rfl (fun ls hl => ?_)
    refine lv_iconst (v := 0) hx hb dX12_isStep_11 (by decide) ?_
    refine lv_istore_n (lv' := [(3, .int 0), (2, .int 0), (0, .int p_0), (1, .int p_1)]) hx hb dX12_isStep_12 rfl hl (by decide) rfl (fun ls hl => ?_)
    refine g5_loop (α := (Int32) × (Int32)) (fun (q : (Int32) × (Int32)) (ls : Array Slot) (H : Heap) (locs : List Loc) => match q with | (k13_3, k13_2) => lv_has ls 4 [(2, .int k13_2), (3, .int k13_3), (0, .int p_0), (1, .int p_1)] ∧ va_P G.1 vwCl [] H ∧ va_D A [] ∧ va_S A s.heap H locs ∧ (0 ≤ k13_3.toInt ∧ k13_3.toInt ≤ 4) ∧ (0 ≤ k13_2.toInt ∧ k13_2.toInt ≤ 1)) (fun (q : (Int32) × (Int32)) => match q with | (k13_3, k13_2) => Int.toNat (4 - k13_3.toInt)) (0, 0) ⟨lv_sub hl [1, 0, 2, 3] rfl, hP, hD, hS, ⟨by decide, by decide⟩, ⟨by decide, by decide⟩⟩ ?_
    rintro ⟨k13_3, k13_2⟩ ls H locs ⟨hl, hP, hD, hS, i_2, i_3⟩ ih_13_4
    have hl : lv_has ls 4 [(2, .int k13_2), (3, .int k13_3), (0, .int p_0), (1, .int p_1)] := hl
    have i_2 : 0 ≤ k13_3.toInt ∧ k13_3.toInt ≤ 4 := i_2
    have i_3 : 0 ≤ k13_2.toInt ∧ k13_2.toInt ≤ 1 := i_3
    refine g5_rs [] hP hD (fun hP hD => ?_)
    refine lv_iload_n hx hb dX12_isStep_13 rfl (lv_at hl 1 rfl) ?_
    refine lv_iconst (v := 4) hx hb dX12_isStep_14 (by decide) ?_
    refine lv_icmp_ge (tgt := 43) hx hb dX12_isStep_15 (by decide) (fun c_5 => ?_) (fun c_5 => ?_)
    ·
      have i_5 : k13_3.toInt ≥ 4 := by have z := g5_ge (a := k13_3.toInt) (b := 4) (by rfl) (by decide) c_5; omega
      refine lv_iload_n hx hb dX12_isStep_43 rfl (lv_at hl 0 rfl) ?_
      exact W.zret (v := k13_2) hx hb hr (g_nb (by omega) (by omega)) (fun t ht hW => ⟨⟨k13_2, [], rfl, ⟨k13_2, i_3, rfl, rfl⟩, by rw [ht]; exact hP.sub [] rfl, hD.sub [] (by decide) rfl⟩, hS.F ht⟩) hS.2.2 dX12_isStep_44
    ·
      have i_5 : k13_3.toInt < 4 := by have z := g5_geN (a := k13_3.toInt) (b := 4) (by rfl) (by decide) c_5; omega
      refine lv_iload_n hx hb dX12_isStep_18 rfl (lv_at hl 0 rfl) ?_
      refine lv_if_ne (tgt := 31) hx hb dX12_isStep_19 (by decide) (fun c_6 => ?_) (fun c_6 => ?_)
      ·
        have n_6 : gNe (k13_2.toInt) (0) := by have z := g5_ne (a := k13_2.toInt) (b := 0) (by rfl) (by decide) c_6; unfold gNe; omega
        have i_6 : k13_2.toInt ≥ 1 := by have z := g5_ne (a := k13_2.toInt) (b := 0) (by rfl) (by decide) c_6; omega
        refine lv_iconst (v := 1) hx hb dX12_isStep_31 (by decide) ?_
        refine lv_goto (tgt := 36) hx hb dX12_isStep_32 (by decide) ?_
        refine lv_istore_n (lv' := [(2, .int 1), (3, .int k13_3), (0, .int p_0), (1, .int p_1)]) hx hb dX12_isStep_36 rfl hl (by decide) rfl (fun ls hl => ?_)
        refine lv_iinc (v := (k13_3 + 1)) (lv' := [(3, .int (k13_3 + 1)), (2, .int 1), (0, .int p_0), (1, .int p_1)]) hx hb dX12_isStep_37 hl (k := 1) rfl rfl (by decide) rfl (fun ls hl => ?_)
        have t_7 : (k13_3 + 1).toInt = k13_3.toInt + 1 := g5_iadd (a := k13_3.toInt) (b := 1) rfl (by decide) (by omega) (by omega)
        refine lv_goto (tgt := 13) hx hb dX12_isStep_40 (by decide) ?_
        exact ih_13_4 ((k13_3 + 1), 1) ls H locs (show Int.toNat (4 - (k13_3 + 1).toInt) < Int.toNat (4 - k13_3.toInt) from g_up (show k13_3.toInt < (k13_3 + 1).toInt by omega) (show k13_3.toInt < 4 by omega)) ⟨lv_sub hl [1, 0, 2, 3] rfl, hP, hD, hS, ⟨by omega, by omega⟩, ⟨by decide, by decide⟩⟩
      ·
        have i_6 : k13_2.toInt = 0 := by have z := g5_neN (a := k13_2.toInt) (b := 0) (by rfl) (by decide) c_6; omega
        refine lv_iload_n hx hb dX12_isStep_22 rfl (lv_at hl 2 rfl) ?_
        refine lv_iload_n hx hb dX12_isStep_23 rfl (lv_at hl 1 rfl) ?_
        obtain ⟨hPc, hDc, hFc⟩ := g5_sub3 (wc := []) hP hD hS hA [] (by decide) rfl
        refine va_calli (va_runS (As := [.int p_0, .int k13_3]) (rest := []) ⟨hx, hb, hml, hown, hts⟩ (n_besideW l G H.size p_0 k13_3 h_p_0) (va_cwS 2 hts gS_X12_374 rfl rfl rfl hs_X12_beside ⟨Nat.le_of_ble_eq_true rfl, Nat.le_of_ble_eq_true rfl⟩) (g5_preS hPc hK hDc hN hT hS hFc) rfl rfl hl.1 rfl (lv_room (Nat.le_of_ble_eq_true rfl)) dX12_isStep_24 ⟨Nat.le_of_ble_eq_true rfl, Nat.le_of_ble_eq_true rfl⟩) hS (fun q _ h => hFc q h) hFc (fun r u t H1 locs ht hvm hw hB hz1 hk1 hS => ?_)
        obtain ⟨hP1, hD1⟩ := hB
        rw [ht] at hP1
        obtain ⟨z8, y9, rfl⟩ := hw
        have hP := g5_same hP hk1
        generalize H1 = H at hP hS ⊢
        refine g5_ti (v := z8) y9 ?_
        refine lv_iload_n hx hb dX12_isStep_27 rfl (lv_at hl 3 rfl) ?_
        refine lv_icmp_ne (tgt := 35) hx hb dX12_isStep_28 (by decide) (fun c_10 => ?_) (fun c_10 => ?_)
        ·
          have n_10 : gNe (z8.toInt) (p_1.toInt) := by have z := g5_ne (a := z8.toInt) (b := p_1.toInt) (by rfl) (by rfl) c_10; unfold gNe; omega
          refine lv_iconst (v := 0) hx hb dX12_isStep_35 (by decide) ?_
          refine lv_istore_n (lv' := [(2, .int 0), (3, .int k13_3), (0, .int p_0), (1, .int p_1)]) hx hb dX12_isStep_36 rfl hl (by decide) rfl (fun ls hl => ?_)
          refine lv_iinc (v := (k13_3 + 1)) (lv' := [(3, .int (k13_3 + 1)), (2, .int 0), (0, .int p_0), (1, .int p_1)]) hx hb dX12_isStep_37 hl (k := 1) rfl rfl (by decide) rfl (fun ls hl => ?_)
          have t_11 : (k13_3 + 1).toInt = k13_3.toInt + 1 := g5_iadd (a := k13_3.toInt) (b := 1) rfl (by decide) (by omega) (by omega)
          refine lv_goto (tgt := 13) hx hb dX12_isStep_40 (by decide) ?_
          exact ih_13_4 ((k13_3 + 1), 0) ls H locs (show Int.toNat (4 - (k13_3 + 1).toInt) < Int.toNat (4 - k13_3.toInt) from g_up (show k13_3.toInt < (k13_3 + 1).toInt by omega) (show k13_3.toInt < 4 by omega)) ⟨lv_sub hl [1, 0, 2, 3] rfl, hP, hD, hS, ⟨by omega, by omega⟩, ⟨by decide, by decide⟩⟩
        ·
          have i_10 : z8.toInt = p_1.toInt := by have z := g5_neN (a := z8.toInt) (b := p_1.toInt) (by rfl) (by rfl) c_10; omega
          refine lv_iconst (v := 1) hx hb dX12_isStep_31 (by decide) ?_
          refine lv_goto (tgt := 36) hx hb dX12_isStep_32 (by decide) ?_
          refine lv_istore_n (lv' := [(2, .int 1), (3, .int k13_3), (0, .int p_0), (1, .int p_1)]) hx hb dX12_isStep_36 rfl hl (by decide) rfl (fun ls hl => ?_)
          refine lv_iinc (v := (k13_3 + 1)) (lv' := [(3, .int (k13_3 + 1)), (2, .int 1), (0, .int p_0), (1, .int p_1)]) hx hb dX12_isStep_37 hl (k := 1) rfl rfl (by decide) rfl (fun ls hl => ?_)
          have t_12 : (k13_3 + 1).toInt = k13_3.toInt + 1 := g5_iadd (a := k13_3.toInt) (b := 1) rfl (by decide) (by omega) (by omega)
          refine lv_goto (tgt := 13) hx hb dX12_isStep_40 (by decide) ?_
          exact ih_13_4 ((k13_3 + 1), 1) ls H locs (show Int.toNat (4 - (k13_3 + 1).toInt) < Int.toNat (4 - k13_3.toInt) from g_up (show k13_3.toInt < (k13_3 + 1).toInt by omega) (show k13_3.toInt < 4 by omega)) ⟨lv_sub hl [1, 0, 2, 3] rfl, hP, hD, hS, ⟨by omega, by omega⟩, ⟨by decide, by decide⟩⟩
  ·
    have i_1 : p_0.toInt = p_1.toInt := by have z := g5_neN (a := p_0.toInt) (b := p_1.toInt) (by rfl) (by rfl) c_1; omega
    refine lv_iconst (v := 1) hx hb dX12_isStep_5 (by decide) ?_
    refine lv_goto (tgt := 10) hx hb dX12_isStep_6 (by decide) ?_
    refine lv_istore_n (lv' := [(2, .int 1), (0, .int p_0), (1, .int p_1)]) hx hb dX12_isStep_10 rfl hl (by decide) rfl (fun ls hl => ?_)
    refine lv_iconst (v := 0) hx hb dX12_isStep_11 (by decide) ?_
    refine lv_istore_n (lv' := [(3, .int 0), (2, .int 1), (0, .int p_0), (1, .int p_1)]) hx hb dX12_isStep_12 rfl hl (by decide) rfl (fun ls hl => ?_)
    refine g5_loop (α := (Int32) × (Int32)) (fun (q : (Int32) × (Int32)) (ls : Array Slot) (H : Heap) (locs : List Loc) => match q with | (k13_3, k13_2) => lv_has ls 4 [(2, .int k13_2), (3, .int k13_3), (0, .int p_0), (1, .int p_1)] ∧ va_P G.1 vwCl [] H ∧ va_D A [] ∧ va_S A s.heap H locs ∧ (0 ≤ k13_3.toInt ∧ k13_3.toInt ≤ 4) ∧ (0 ≤ k13_2.toInt ∧ k13_2.toInt ≤ 1)) (fun (q : (Int32) × (Int32)) => match q with | (k13_3, k13_2) => Int.toNat (4 - k13_3.toInt)) (0, 1) ⟨lv_sub hl [1, 0, 2, 3] rfl, hP, hD, hS, ⟨by decide, by decide⟩, ⟨by decide, by decide⟩⟩ ?_
    rintro ⟨k13_3, k13_2⟩ ls H locs ⟨hl, hP, hD, hS, i_13, i_14⟩ ih_13_15
    have hl : lv_has ls 4 [(2, .int k13_2), (3, .int k13_3), (0, .int p_0), (1, .int p_1)] := hl
    have i_13 : 0 ≤ k13_3.toInt ∧ k13_3.toInt ≤ 4 := i_13
    have i_14 : 0 ≤ k13_2.toInt ∧ k13_2.toInt ≤ 1 := i_14
    refine g5_rs [] hP hD (fun hP hD => ?_)
    refine lv_iload_n hx hb dX12_isStep_13 rfl (lv_at hl 1 rfl) ?_
    refine lv_iconst (v := 4) hx hb dX12_isStep_14 (by decide) ?_
    refine lv_icmp_ge (tgt := 43) hx hb dX12_isStep_15 (by decide) (fun c_16 => ?_) (fun c_16 => ?_)
    ·
      have i_16 : k13_3.toInt ≥ 4 := by have z := g5_ge (a := k13_3.toInt) (b := 4) (by rfl) (by decide) c_16; omega
      refine lv_iload_n hx hb dX12_isStep_43 rfl (lv_at hl 0 rfl) ?_
      exact W.zret (v := k13_2) hx hb hr (g_nb (by omega) (by omega)) (fun t ht hW => ⟨⟨k13_2, [], rfl, ⟨k13_2, i_14, rfl, rfl⟩, by rw [ht]; exact hP.sub [] rfl, hD.sub [] (by decide) rfl⟩, hS.F ht⟩) hS.2.2 dX12_isStep_44
    ·
      have i_16 : k13_3.toInt < 4 := by have z := g5_geN (a := k13_3.toInt) (b := 4) (by rfl) (by decide) c_16; omega
      refine lv_iload_n hx hb dX12_isStep_18 rfl (lv_at hl 0 rfl) ?_
      refine lv_if_ne (tgt := 31) hx hb dX12_isStep_19 (by decide) (fun c_17 => ?_) (fun c_17 => ?_)
      ·
        have n_17 : gNe (k13_2.toInt) (0) := by have z := g5_ne (a := k13_2.toInt) (b := 0) (by rfl) (by decide) c_17; unfold gNe; omega
        have i_17 : k13_2.toInt ≥ 1 := by have z := g5_ne (a := k13_2.toInt) (b := 0) (by rfl) (by decide) c_17; omega
        refine lv_iconst (v := 1) hx hb dX12_isStep_31 (by decide) ?_
        refine lv_goto (tgt := 36) hx hb dX12_isStep_32 (by decide) ?_
        refine lv_istore_n (lv' := [(2, .int 1), (3, .int k13_3), (0, .int p_0), (1, .int p_1)]) hx hb dX12_isStep_36 rfl hl (by decide) rfl (fun ls hl => ?_)
        refine lv_iinc (v := (k13_3 + 1)) (lv' := [(3, .int (k13_3 + 1)), (2, .int 1), (0, .int p_0), (1, .int p_1)]) hx hb dX12_isStep_37 hl (k := 1) rfl rfl (by decide) rfl (fun ls hl => ?_)
        have t_18 : (k13_3 + 1).toInt = k13_3.toInt + 1 := g5_iadd (a := k13_3.toInt) (b := 1) rfl (by decide) (by omega) (by omega)
        refine lv_goto (tgt := 13) hx hb dX12_isStep_40 (by decide) ?_
        exact ih_13_15 ((k13_3 + 1), 1) ls H locs (show Int.toNat (4 - (k13_3 + 1).toInt) < Int.toNat (4 - k13_3.toInt) from g_up (show k13_3.toInt < (k13_3 + 1).toInt by omega) (show k13_3.toInt < 4 by omega)) ⟨lv_sub hl [1, 0, 2, 3] rfl, hP, hD, hS, ⟨by omega, by omega⟩, ⟨by decide, by decide⟩⟩
      ·
        have i_17 : k13_2.toInt = 0 := by have z := g5_neN (a := k13_2.toInt) (b := 0) (by rfl) (by decide) c_17; omega
        refine lv_iload_n hx hb dX12_isStep_22 rfl (lv_at hl 2 rfl) ?_
        refine lv_iload_n hx hb dX12_isStep_23 rfl (lv_at hl 1 rfl) ?_
        obtain ⟨hPc, hDc, hFc⟩ := g5_sub3 (wc := []) hP hD hS hA [] (by decide) rfl
        refine va_calli (va_runS (As := [.int p_0, .int k13_3]) (rest := []) ⟨hx, hb, hml, hown, hts⟩ (n_beside l G H.size p_0 k13_3 ⟨by omega, by omega⟩) (va_cwS 2 hts gS_X12_374 rfl rfl rfl hs_X12_beside ⟨Nat.le_of_ble_eq_true rfl, Nat.le_of_ble_eq_true rfl⟩) (g5_preS hPc hK hDc hN hT hS hFc) rfl rfl hl.1 rfl (lv_room (Nat.le_of_ble_eq_true rfl)) dX12_isStep_24 ⟨Nat.le_of_ble_eq_true rfl, Nat.le_of_ble_eq_true rfl⟩) hS (fun q _ h => hFc q h) hFc (fun r u t H1 locs ht hvm hw hB hz1 hk1 hS => ?_)
        obtain ⟨hP1, hD1⟩ := hB
        rw [ht] at hP1
        obtain ⟨z20, i_19, y21, rfl⟩ := hw
        have i_19 : -1 ≤ z20.toInt ∧ z20.toInt ≤ 63 := i_19
        have hP := g5_same hP hk1
        generalize H1 = H at hP hS ⊢
        refine g5_ti (v := z20) y21 ?_
        refine lv_iload_n hx hb dX12_isStep_27 rfl (lv_at hl 3 rfl) ?_
        refine lv_icmp_ne (tgt := 35) hx hb dX12_isStep_28 (by decide) (fun c_22 => ?_) (fun c_22 => ?_)
        ·
          have n_22 : gNe (z20.toInt) (p_1.toInt) := by have z := g5_ne (a := z20.toInt) (b := p_1.toInt) (by rfl) (by rfl) c_22; unfold gNe; omega
          refine lv_iconst (v := 0) hx hb dX12_isStep_35 (by decide) ?_
          refine lv_istore_n (lv' := [(2, .int 0), (3, .int k13_3), (0, .int p_0), (1, .int p_1)]) hx hb dX12_isStep_36 rfl hl (by decide) rfl (fun ls hl => ?_)
          refine lv_iinc (v := (k13_3 + 1)) (lv' := [(3, .int (k13_3 + 1)), (2, .int 0), (0, .int p_0), (1, .int p_1)]) hx hb dX12_isStep_37 hl (k := 1) rfl rfl (by decide) rfl (fun ls hl => ?_)
          have t_23 : (k13_3 + 1).toInt = k13_3.toInt + 1 := g5_iadd (a := k13_3.toInt) (b := 1) rfl (by decide) (by omega) (by omega)
          refine lv_goto (tgt := 13) hx hb dX12_isStep_40 (by decide) ?_
          exact ih_13_15 ((k13_3 + 1), 0) ls H locs (show Int.toNat (4 - (k13_3 + 1).toInt) < Int.toNat (4 - k13_3.toInt) from g_up (show k13_3.toInt < (k13_3 + 1).toInt by omega) (show k13_3.toInt < 4 by omega)) ⟨lv_sub hl [1, 0, 2, 3] rfl, hP, hD, hS, ⟨by omega, by omega⟩, ⟨by decide, by decide⟩⟩
        ·
          have i_22 : z20.toInt = p_1.toInt := by have z := g5_neN (a := z20.toInt) (b := p_1.toInt) (by rfl) (by rfl) c_22; omega
          refine lv_iconst (v := 1) hx hb dX12_isStep_31 (by decide) ?_
          refine lv_goto (tgt := 36) hx hb dX12_isStep_32 (by decide) ?_
          refine lv_istore_n (lv' := [(2, .int 1), (3, .int k13_3), (0, .int p_0), (1, .int p_1)]) hx hb dX12_isStep_36 rfl hl (by decide) rfl (fun ls hl => ?_)
          refine lv_iinc (v := (k13_3 + 1)) (lv' := [(3, .int (k13_3 + 1)), (2, .int 1), (0, .int p_0), (1, .int p_1)]) hx hb dX12_isStep_37 hl (k := 1) rfl rfl (by decide) rfl (fun ls hl => ?_)
          have t_24 : (k13_3 + 1).toInt = k13_3.toInt + 1 := g5_iadd (a := k13_3.toInt) (b := 1) rfl (by decide) (by omega) (by omega)
          refine lv_goto (tgt := 13) hx hb dX12_isStep_40 (by decide) ?_
          exact ih_13_15 ((k13_3 + 1), 1) ls H locs (show Int.toNat (4 - (k13_3 + 1).toInt) < Int.toNat (4 - k13_3.toInt) from g_up (show k13_3.toInt < (k13_3 + 1).toInt by omega) (show k13_3.toInt < 4 by omega)) ⟨lv_sub hl [1, 0, 2, 3] rfl, hP, hD, hS, ⟨by omega, by omega⟩, ⟨by decide, by decide⟩⟩
theorem dgX12_findSoonest_0 : ∀ r ∈ ([(0, (.iconst 0, 1)), (1, (.istore 4, 2)), (3, (.iload 4, 2)), (5, (.sipush 1536, 3)), (8, (.if_icmp .ge 48, 3)), (11, (.aload_n 0, 1)), (12, (.getfield 98, 3)), (15, (.iload 4, 2)), (17, (.iload 4, 2)), (19, (.bipush 64, 2)), (21, (.iload_n 3, 1)), (22, (.imul, 1)), (23, (.iload_n 2, 1)), (24, (.iadd, 1)), (25, (.if_icmp .ne 15, 3)), (28, (.aload_n 0, 1)), (29, (.iload_n 2, 1)), (30, (.invokevirtual 160, 3)), (33, (.ifCond .ne 7, 3)), (36, (.iconst 1, 1)), (37, (.goto 4, 3)), (40, (.iconst 0, 1)), (41, (.bastore, 1)), (42, (.aload_n 0, 1)), (43, (.getfield 101, 3)), (46, (.iload 4, 2)), (48, (.iconst 0, 1)), (49, (.bastore, 1)), (50, (.iinc 4 1, 3)), (53, (.goto (-50), 3)), (56, (.iconst (-1), 1)), (57, (.istore 4, 2)), (59, (.iload_n 3, 1)), (60, (.istore 5, 2)), (62, (.iload 5, 2)), (64, (.bipush 24, 2)), (66, (.if_icmp .ge 162, 3)), (69, (.iload 4, 2)), (71, (.iconst (-1), 1)), (72, (.if_icmp .ne 156, 3))] : List (Nat × (Instr × Nat))), decode cX12_findSoonest r.1 = .ok r.2 := by decide +kernel
theorem dX12_findSoonest_0 : decode cX12_findSoonest 0 = .ok (.iconst 0, 1) := dgX12_findSoonest_0 (0, (.iconst 0, 1)) (List.mem_of_getElem? (i := 0) rfl)
theorem dX12_findSoonest_1 : decode cX12_findSoonest 1 = .ok (.istore 4, 2) := dgX12_findSoonest_0 (1, (.istore 4, 2)) (List.mem_of_getElem? (i := 1) rfl)
theorem dX12_findSoonest_3 : decode cX12_findSoonest 3 = .ok (.iload 4, 2) := dgX12_findSoonest_0 (3, (.iload 4, 2)) (List.mem_of_getElem? (i := 2) rfl)
theorem dX12_findSoonest_5 : decode cX12_findSoonest 5 = .ok (.sipush 1536, 3) := dgX12_findSoonest_0 (5, (.sipush 1536, 3)) (List.mem_of_getElem? (i := 3) rfl)
theorem dX12_findSoonest_8 : decode cX12_findSoonest 8 = .ok (.if_icmp .ge 48, 3) := dgX12_findSoonest_0 (8, (.if_icmp .ge 48, 3)) (List.mem_of_getElem? (i := 4) rfl)
theorem dX12_findSoonest_11 : decode cX12_findSoonest 11 = .ok (.aload_n 0, 1) := dgX12_findSoonest_0 (11, (.aload_n 0, 1)) (List.mem_of_getElem? (i := 5) rfl)
theorem dX12_findSoonest_12 : decode cX12_findSoonest 12 = .ok (.getfield 98, 3) := dgX12_findSoonest_0 (12, (.getfield 98, 3)) (List.mem_of_getElem? (i := 6) rfl)
theorem dX12_findSoonest_15 : decode cX12_findSoonest 15 = .ok (.iload 4, 2) := dgX12_findSoonest_0 (15, (.iload 4, 2)) (List.mem_of_getElem? (i := 7) rfl)
theorem dX12_findSoonest_17 : decode cX12_findSoonest 17 = .ok (.iload 4, 2) := dgX12_findSoonest_0 (17, (.iload 4, 2)) (List.mem_of_getElem? (i := 8) rfl)
theorem dX12_findSoonest_19 : decode cX12_findSoonest 19 = .ok (.bipush 64, 2) := dgX12_findSoonest_0 (19, (.bipush 64, 2)) (List.mem_of_getElem? (i := 9) rfl)
theorem dX12_findSoonest_21 : decode cX12_findSoonest 21 = .ok (.iload_n 3, 1) := dgX12_findSoonest_0 (21, (.iload_n 3, 1)) (List.mem_of_getElem? (i := 10) rfl)
theorem dX12_findSoonest_22 : decode cX12_findSoonest 22 = .ok (.imul, 1) := dgX12_findSoonest_0 (22, (.imul, 1)) (List.mem_of_getElem? (i := 11) rfl)
theorem dX12_findSoonest_23 : decode cX12_findSoonest 23 = .ok (.iload_n 2, 1) := dgX12_findSoonest_0 (23, (.iload_n 2, 1)) (List.mem_of_getElem? (i := 12) rfl)
theorem dX12_findSoonest_24 : decode cX12_findSoonest 24 = .ok (.iadd, 1) := dgX12_findSoonest_0 (24, (.iadd, 1)) (List.mem_of_getElem? (i := 13) rfl)
theorem dX12_findSoonest_25 : decode cX12_findSoonest 25 = .ok (.if_icmp .ne 15, 3) := dgX12_findSoonest_0 (25, (.if_icmp .ne 15, 3)) (List.mem_of_getElem? (i := 14) rfl)
theorem dX12_findSoonest_28 : decode cX12_findSoonest 28 = .ok (.aload_n 0, 1) := dgX12_findSoonest_0 (28, (.aload_n 0, 1)) (List.mem_of_getElem? (i := 15) rfl)
theorem dX12_findSoonest_29 : decode cX12_findSoonest 29 = .ok (.iload_n 2, 1) := dgX12_findSoonest_0 (29, (.iload_n 2, 1)) (List.mem_of_getElem? (i := 16) rfl)
theorem dX12_findSoonest_30 : decode cX12_findSoonest 30 = .ok (.invokevirtual 160, 3) := dgX12_findSoonest_0 (30, (.invokevirtual 160, 3)) (List.mem_of_getElem? (i := 17) rfl)
theorem dX12_findSoonest_33 : decode cX12_findSoonest 33 = .ok (.ifCond .ne 7, 3) := dgX12_findSoonest_0 (33, (.ifCond .ne 7, 3)) (List.mem_of_getElem? (i := 18) rfl)
theorem dX12_findSoonest_36 : decode cX12_findSoonest 36 = .ok (.iconst 1, 1) := dgX12_findSoonest_0 (36, (.iconst 1, 1)) (List.mem_of_getElem? (i := 19) rfl)
theorem dX12_findSoonest_37 : decode cX12_findSoonest 37 = .ok (.goto 4, 3) := dgX12_findSoonest_0 (37, (.goto 4, 3)) (List.mem_of_getElem? (i := 20) rfl)
theorem dX12_findSoonest_40 : decode cX12_findSoonest 40 = .ok (.iconst 0, 1) := dgX12_findSoonest_0 (40, (.iconst 0, 1)) (List.mem_of_getElem? (i := 21) rfl)
theorem dX12_findSoonest_41 : decode cX12_findSoonest 41 = .ok (.bastore, 1) := dgX12_findSoonest_0 (41, (.bastore, 1)) (List.mem_of_getElem? (i := 22) rfl)
theorem dX12_findSoonest_42 : decode cX12_findSoonest 42 = .ok (.aload_n 0, 1) := dgX12_findSoonest_0 (42, (.aload_n 0, 1)) (List.mem_of_getElem? (i := 23) rfl)
theorem dX12_findSoonest_43 : decode cX12_findSoonest 43 = .ok (.getfield 101, 3) := dgX12_findSoonest_0 (43, (.getfield 101, 3)) (List.mem_of_getElem? (i := 24) rfl)
theorem dX12_findSoonest_46 : decode cX12_findSoonest 46 = .ok (.iload 4, 2) := dgX12_findSoonest_0 (46, (.iload 4, 2)) (List.mem_of_getElem? (i := 25) rfl)
theorem dX12_findSoonest_48 : decode cX12_findSoonest 48 = .ok (.iconst 0, 1) := dgX12_findSoonest_0 (48, (.iconst 0, 1)) (List.mem_of_getElem? (i := 26) rfl)
theorem dX12_findSoonest_49 : decode cX12_findSoonest 49 = .ok (.bastore, 1) := dgX12_findSoonest_0 (49, (.bastore, 1)) (List.mem_of_getElem? (i := 27) rfl)
theorem dX12_findSoonest_50 : decode cX12_findSoonest 50 = .ok (.iinc 4 1, 3) := dgX12_findSoonest_0 (50, (.iinc 4 1, 3)) (List.mem_of_getElem? (i := 28) rfl)
theorem dX12_findSoonest_53 : decode cX12_findSoonest 53 = .ok (.goto (-50), 3) := dgX12_findSoonest_0 (53, (.goto (-50), 3)) (List.mem_of_getElem? (i := 29) rfl)
theorem dX12_findSoonest_56 : decode cX12_findSoonest 56 = .ok (.iconst (-1), 1) := dgX12_findSoonest_0 (56, (.iconst (-1), 1)) (List.mem_of_getElem? (i := 30) rfl)
theorem dX12_findSoonest_57 : decode cX12_findSoonest 57 = .ok (.istore 4, 2) := dgX12_findSoonest_0 (57, (.istore 4, 2)) (List.mem_of_getElem? (i := 31) rfl)
theorem dX12_findSoonest_59 : decode cX12_findSoonest 59 = .ok (.iload_n 3, 1) := dgX12_findSoonest_0 (59, (.iload_n 3, 1)) (List.mem_of_getElem? (i := 32) rfl)
theorem dX12_findSoonest_60 : decode cX12_findSoonest 60 = .ok (.istore 5, 2) := dgX12_findSoonest_0 (60, (.istore 5, 2)) (List.mem_of_getElem? (i := 33) rfl)
theorem dX12_findSoonest_62 : decode cX12_findSoonest 62 = .ok (.iload 5, 2) := dgX12_findSoonest_0 (62, (.iload 5, 2)) (List.mem_of_getElem? (i := 34) rfl)
theorem dX12_findSoonest_64 : decode cX12_findSoonest 64 = .ok (.bipush 24, 2) := dgX12_findSoonest_0 (64, (.bipush 24, 2)) (List.mem_of_getElem? (i := 35) rfl)
theorem dX12_findSoonest_66 : decode cX12_findSoonest 66 = .ok (.if_icmp .ge 162, 3) := dgX12_findSoonest_0 (66, (.if_icmp .ge 162, 3)) (List.mem_of_getElem? (i := 36) rfl)
theorem dX12_findSoonest_69 : decode cX12_findSoonest 69 = .ok (.iload 4, 2) := dgX12_findSoonest_0 (69, (.iload 4, 2)) (List.mem_of_getElem? (i := 37) rfl)
theorem dX12_findSoonest_71 : decode cX12_findSoonest 71 = .ok (.iconst (-1), 1) := dgX12_findSoonest_0 (71, (.iconst (-1), 1)) (List.mem_of_getElem? (i := 38) rfl)
theorem dX12_findSoonest_72 : decode cX12_findSoonest 72 = .ok (.if_icmp .ne 156, 3) := dgX12_findSoonest_0 (72, (.if_icmp .ne 156, 3)) (List.mem_of_getElem? (i := 39) rfl)
theorem dgX12_findSoonest_1 : ∀ r ∈ ([(75, (.iconst 0, 1)), (76, (.istore 6, 2)), (78, (.iload 6, 2)), (80, (.bipush 64, 2)), (82, (.if_icmp .ge 140, 3)), (85, (.aload_n 0, 1)), (86, (.getfield 98, 3)), (89, (.bipush 64, 2)), (91, (.iload 5, 2)), (93, (.imul, 1)), (94, (.iload 6, 2)), (96, (.iadd, 1)), (97, (.baload, 1)), (98, (.ifCond .eq 118, 3)), (101, (.aload_n 0, 1)), (102, (.iload 6, 2)), (104, (.iload 5, 2)), (106, (.invokevirtual 404, 3)), (109, (.iload_n 1, 1)), (110, (.invokestatic 387, 3)), (113, (.ifCond .eq 21, 3)), (116, (.aload_n 0, 1)), (117, (.getfield 101, 3)), (120, (.bipush 64, 2)), (122, (.iload 5, 2)), (124, (.imul, 1)), (125, (.iload 6, 2)), (127, (.iadd, 1)), (128, (.iconst 1, 1)), (129, (.bastore, 1)), (130, (.iload 5, 2)), (132, (.istore 4, 2)), (134, (.iconst 0, 1)), (135, (.istore 7, 2)), (137, (.iload 7, 2)), (139, (.iconst 5, 1)), (140, (.if_icmp .ge 76, 3)), (143, (.iload 5, 2)), (145, (.bipush 23, 2)), (147, (.if_icmp .ge 69, 3))] : List (Nat × (Instr × Nat))), decode cX12_findSoonest r.1 = .ok r.2 := by decide +kernel
theorem dX12_findSoonest_75 : decode cX12_findSoonest 75 = .ok (.iconst 0, 1) := dgX12_findSoonest_1 (75, (.iconst 0, 1)) (List.mem_of_getElem? (i := 0) rfl)
theorem dX12_findSoonest_76 : decode cX12_findSoonest 76 = .ok (.istore 6, 2) := dgX12_findSoonest_1 (76, (.istore 6, 2)) (List.mem_of_getElem? (i := 1) rfl)
theorem dX12_findSoonest_78 : decode cX12_findSoonest 78 = .ok (.iload 6, 2) := dgX12_findSoonest_1 (78, (.iload 6, 2)) (List.mem_of_getElem? (i := 2) rfl)
theorem dX12_findSoonest_80 : decode cX12_findSoonest 80 = .ok (.bipush 64, 2) := dgX12_findSoonest_1 (80, (.bipush 64, 2)) (List.mem_of_getElem? (i := 3) rfl)
theorem dX12_findSoonest_82 : decode cX12_findSoonest 82 = .ok (.if_icmp .ge 140, 3) := dgX12_findSoonest_1 (82, (.if_icmp .ge 140, 3)) (List.mem_of_getElem? (i := 4) rfl)
theorem dX12_findSoonest_85 : decode cX12_findSoonest 85 = .ok (.aload_n 0, 1) := dgX12_findSoonest_1 (85, (.aload_n 0, 1)) (List.mem_of_getElem? (i := 5) rfl)
theorem dX12_findSoonest_86 : decode cX12_findSoonest 86 = .ok (.getfield 98, 3) := dgX12_findSoonest_1 (86, (.getfield 98, 3)) (List.mem_of_getElem? (i := 6) rfl)
theorem dX12_findSoonest_89 : decode cX12_findSoonest 89 = .ok (.bipush 64, 2) := dgX12_findSoonest_1 (89, (.bipush 64, 2)) (List.mem_of_getElem? (i := 7) rfl)
theorem dX12_findSoonest_91 : decode cX12_findSoonest 91 = .ok (.iload 5, 2) := dgX12_findSoonest_1 (91, (.iload 5, 2)) (List.mem_of_getElem? (i := 8) rfl)
theorem dX12_findSoonest_93 : decode cX12_findSoonest 93 = .ok (.imul, 1) := dgX12_findSoonest_1 (93, (.imul, 1)) (List.mem_of_getElem? (i := 9) rfl)
theorem dX12_findSoonest_94 : decode cX12_findSoonest 94 = .ok (.iload 6, 2) := dgX12_findSoonest_1 (94, (.iload 6, 2)) (List.mem_of_getElem? (i := 10) rfl)
theorem dX12_findSoonest_96 : decode cX12_findSoonest 96 = .ok (.iadd, 1) := dgX12_findSoonest_1 (96, (.iadd, 1)) (List.mem_of_getElem? (i := 11) rfl)
theorem dX12_findSoonest_97 : decode cX12_findSoonest 97 = .ok (.baload, 1) := dgX12_findSoonest_1 (97, (.baload, 1)) (List.mem_of_getElem? (i := 12) rfl)
theorem dX12_findSoonest_98 : decode cX12_findSoonest 98 = .ok (.ifCond .eq 118, 3) := dgX12_findSoonest_1 (98, (.ifCond .eq 118, 3)) (List.mem_of_getElem? (i := 13) rfl)
theorem dX12_findSoonest_101 : decode cX12_findSoonest 101 = .ok (.aload_n 0, 1) := dgX12_findSoonest_1 (101, (.aload_n 0, 1)) (List.mem_of_getElem? (i := 14) rfl)
theorem dX12_findSoonest_102 : decode cX12_findSoonest 102 = .ok (.iload 6, 2) := dgX12_findSoonest_1 (102, (.iload 6, 2)) (List.mem_of_getElem? (i := 15) rfl)
theorem dX12_findSoonest_104 : decode cX12_findSoonest 104 = .ok (.iload 5, 2) := dgX12_findSoonest_1 (104, (.iload 5, 2)) (List.mem_of_getElem? (i := 16) rfl)
theorem dX12_findSoonest_106 : decode cX12_findSoonest 106 = .ok (.invokevirtual 404, 3) := dgX12_findSoonest_1 (106, (.invokevirtual 404, 3)) (List.mem_of_getElem? (i := 17) rfl)
theorem dX12_findSoonest_109 : decode cX12_findSoonest 109 = .ok (.iload_n 1, 1) := dgX12_findSoonest_1 (109, (.iload_n 1, 1)) (List.mem_of_getElem? (i := 18) rfl)
theorem dX12_findSoonest_110 : decode cX12_findSoonest 110 = .ok (.invokestatic 387, 3) := dgX12_findSoonest_1 (110, (.invokestatic 387, 3)) (List.mem_of_getElem? (i := 19) rfl)
theorem dX12_findSoonest_113 : decode cX12_findSoonest 113 = .ok (.ifCond .eq 21, 3) := dgX12_findSoonest_1 (113, (.ifCond .eq 21, 3)) (List.mem_of_getElem? (i := 20) rfl)
theorem dX12_findSoonest_116 : decode cX12_findSoonest 116 = .ok (.aload_n 0, 1) := dgX12_findSoonest_1 (116, (.aload_n 0, 1)) (List.mem_of_getElem? (i := 21) rfl)
theorem dX12_findSoonest_117 : decode cX12_findSoonest 117 = .ok (.getfield 101, 3) := dgX12_findSoonest_1 (117, (.getfield 101, 3)) (List.mem_of_getElem? (i := 22) rfl)
theorem dX12_findSoonest_120 : decode cX12_findSoonest 120 = .ok (.bipush 64, 2) := dgX12_findSoonest_1 (120, (.bipush 64, 2)) (List.mem_of_getElem? (i := 23) rfl)
theorem dX12_findSoonest_122 : decode cX12_findSoonest 122 = .ok (.iload 5, 2) := dgX12_findSoonest_1 (122, (.iload 5, 2)) (List.mem_of_getElem? (i := 24) rfl)
theorem dX12_findSoonest_124 : decode cX12_findSoonest 124 = .ok (.imul, 1) := dgX12_findSoonest_1 (124, (.imul, 1)) (List.mem_of_getElem? (i := 25) rfl)
theorem dX12_findSoonest_125 : decode cX12_findSoonest 125 = .ok (.iload 6, 2) := dgX12_findSoonest_1 (125, (.iload 6, 2)) (List.mem_of_getElem? (i := 26) rfl)
theorem dX12_findSoonest_127 : decode cX12_findSoonest 127 = .ok (.iadd, 1) := dgX12_findSoonest_1 (127, (.iadd, 1)) (List.mem_of_getElem? (i := 27) rfl)
theorem dX12_findSoonest_128 : decode cX12_findSoonest 128 = .ok (.iconst 1, 1) := dgX12_findSoonest_1 (128, (.iconst 1, 1)) (List.mem_of_getElem? (i := 28) rfl)
theorem dX12_findSoonest_129 : decode cX12_findSoonest 129 = .ok (.bastore, 1) := dgX12_findSoonest_1 (129, (.bastore, 1)) (List.mem_of_getElem? (i := 29) rfl)
theorem dX12_findSoonest_130 : decode cX12_findSoonest 130 = .ok (.iload 5, 2) := dgX12_findSoonest_1 (130, (.iload 5, 2)) (List.mem_of_getElem? (i := 30) rfl)
theorem dX12_findSoonest_132 : decode cX12_findSoonest 132 = .ok (.istore 4, 2) := dgX12_findSoonest_1 (132, (.istore 4, 2)) (List.mem_of_getElem? (i := 31) rfl)
theorem dX12_findSoonest_134 : decode cX12_findSoonest 134 = .ok (.iconst 0, 1) := dgX12_findSoonest_1 (134, (.iconst 0, 1)) (List.mem_of_getElem? (i := 32) rfl)
theorem dX12_findSoonest_135 : decode cX12_findSoonest 135 = .ok (.istore 7, 2) := dgX12_findSoonest_1 (135, (.istore 7, 2)) (List.mem_of_getElem? (i := 33) rfl)
theorem dX12_findSoonest_137 : decode cX12_findSoonest 137 = .ok (.iload 7, 2) := dgX12_findSoonest_1 (137, (.iload 7, 2)) (List.mem_of_getElem? (i := 34) rfl)
theorem dX12_findSoonest_139 : decode cX12_findSoonest 139 = .ok (.iconst 5, 1) := dgX12_findSoonest_1 (139, (.iconst 5, 1)) (List.mem_of_getElem? (i := 35) rfl)
theorem dX12_findSoonest_140 : decode cX12_findSoonest 140 = .ok (.if_icmp .ge 76, 3) := dgX12_findSoonest_1 (140, (.if_icmp .ge 76, 3)) (List.mem_of_getElem? (i := 36) rfl)
theorem dX12_findSoonest_143 : decode cX12_findSoonest 143 = .ok (.iload 5, 2) := dgX12_findSoonest_1 (143, (.iload 5, 2)) (List.mem_of_getElem? (i := 37) rfl)
theorem dX12_findSoonest_145 : decode cX12_findSoonest 145 = .ok (.bipush 23, 2) := dgX12_findSoonest_1 (145, (.bipush 23, 2)) (List.mem_of_getElem? (i := 38) rfl)
theorem dX12_findSoonest_147 : decode cX12_findSoonest 147 = .ok (.if_icmp .ge 69, 3) := dgX12_findSoonest_1 (147, (.if_icmp .ge 69, 3)) (List.mem_of_getElem? (i := 39) rfl)
theorem dgX12_findSoonest_2 : ∀ r ∈ ([(150, (.iload 7, 2)), (152, (.iconst 4, 1)), (153, (.if_icmp .ne 8, 3)), (156, (.iload 6, 2)), (158, (.goto 10, 3)), (161, (.iload 6, 2)), (163, (.iload 7, 2)), (165, (.invokestatic 374, 3)), (168, (.istore 8, 2)), (170, (.iload 8, 2)), (172, (.iconst (-1), 1)), (173, (.if_icmp .eq 37, 3)), (176, (.aload_n 0, 1)), (177, (.iload 8, 2)), (179, (.ifCond .ge 7, 3)), (182, (.iconst 0, 1)), (183, (.goto 5, 3)), (186, (.iload 8, 2)), (188, (.invokevirtual 160, 3)), (191, (.ifCond .ne 19, 3)), (194, (.aload_n 0, 1)), (195, (.getfield 98, 3)), (198, (.bipush 64, 2)), (200, (.iload 5, 2)), (202, (.iconst 1, 1)), (203, (.iadd, 1)), (204, (.imul, 1)), (205, (.iload 8, 2)), (207, (.iadd, 1)), (208, (.iconst 1, 1)), (209, (.bastore, 1)), (210, (.iinc 7 1, 3)), (213, (.goto (-76), 3)), (216, (.iinc 6 1, 3)), (219, (.goto (-141), 3)), (222, (.iinc 5 1, 3)), (225, (.goto (-163), 3)), (228, (.iload 4, 2)), (230, (.iconst 1, 1)), (231, (.isub, 1))] : List (Nat × (Instr × Nat))), decode cX12_findSoonest r.1 = .ok r.2 := by decide +kernel
theorem dX12_findSoonest_150 : decode cX12_findSoonest 150 = .ok (.iload 7, 2) := dgX12_findSoonest_2 (150, (.iload 7, 2)) (List.mem_of_getElem? (i := 0) rfl)
theorem dX12_findSoonest_152 : decode cX12_findSoonest 152 = .ok (.iconst 4, 1) := dgX12_findSoonest_2 (152, (.iconst 4, 1)) (List.mem_of_getElem? (i := 1) rfl)
theorem dX12_findSoonest_153 : decode cX12_findSoonest 153 = .ok (.if_icmp .ne 8, 3) := dgX12_findSoonest_2 (153, (.if_icmp .ne 8, 3)) (List.mem_of_getElem? (i := 2) rfl)
theorem dX12_findSoonest_156 : decode cX12_findSoonest 156 = .ok (.iload 6, 2) := dgX12_findSoonest_2 (156, (.iload 6, 2)) (List.mem_of_getElem? (i := 3) rfl)
theorem dX12_findSoonest_158 : decode cX12_findSoonest 158 = .ok (.goto 10, 3) := dgX12_findSoonest_2 (158, (.goto 10, 3)) (List.mem_of_getElem? (i := 4) rfl)
theorem dX12_findSoonest_161 : decode cX12_findSoonest 161 = .ok (.iload 6, 2) := dgX12_findSoonest_2 (161, (.iload 6, 2)) (List.mem_of_getElem? (i := 5) rfl)
theorem dX12_findSoonest_163 : decode cX12_findSoonest 163 = .ok (.iload 7, 2) := dgX12_findSoonest_2 (163, (.iload 7, 2)) (List.mem_of_getElem? (i := 6) rfl)
theorem dX12_findSoonest_165 : decode cX12_findSoonest 165 = .ok (.invokestatic 374, 3) := dgX12_findSoonest_2 (165, (.invokestatic 374, 3)) (List.mem_of_getElem? (i := 7) rfl)
theorem dX12_findSoonest_168 : decode cX12_findSoonest 168 = .ok (.istore 8, 2) := dgX12_findSoonest_2 (168, (.istore 8, 2)) (List.mem_of_getElem? (i := 8) rfl)
theorem dX12_findSoonest_170 : decode cX12_findSoonest 170 = .ok (.iload 8, 2) := dgX12_findSoonest_2 (170, (.iload 8, 2)) (List.mem_of_getElem? (i := 9) rfl)
theorem dX12_findSoonest_172 : decode cX12_findSoonest 172 = .ok (.iconst (-1), 1) := dgX12_findSoonest_2 (172, (.iconst (-1), 1)) (List.mem_of_getElem? (i := 10) rfl)
theorem dX12_findSoonest_173 : decode cX12_findSoonest 173 = .ok (.if_icmp .eq 37, 3) := dgX12_findSoonest_2 (173, (.if_icmp .eq 37, 3)) (List.mem_of_getElem? (i := 11) rfl)
theorem dX12_findSoonest_176 : decode cX12_findSoonest 176 = .ok (.aload_n 0, 1) := dgX12_findSoonest_2 (176, (.aload_n 0, 1)) (List.mem_of_getElem? (i := 12) rfl)
theorem dX12_findSoonest_177 : decode cX12_findSoonest 177 = .ok (.iload 8, 2) := dgX12_findSoonest_2 (177, (.iload 8, 2)) (List.mem_of_getElem? (i := 13) rfl)
theorem dX12_findSoonest_179 : decode cX12_findSoonest 179 = .ok (.ifCond .ge 7, 3) := dgX12_findSoonest_2 (179, (.ifCond .ge 7, 3)) (List.mem_of_getElem? (i := 14) rfl)
theorem dX12_findSoonest_186 : decode cX12_findSoonest 186 = .ok (.iload 8, 2) := dgX12_findSoonest_2 (186, (.iload 8, 2)) (List.mem_of_getElem? (i := 17) rfl)
theorem dX12_findSoonest_188 : decode cX12_findSoonest 188 = .ok (.invokevirtual 160, 3) := dgX12_findSoonest_2 (188, (.invokevirtual 160, 3)) (List.mem_of_getElem? (i := 18) rfl)
theorem dX12_findSoonest_191 : decode cX12_findSoonest 191 = .ok (.ifCond .ne 19, 3) := dgX12_findSoonest_2 (191, (.ifCond .ne 19, 3)) (List.mem_of_getElem? (i := 19) rfl)
theorem dX12_findSoonest_194 : decode cX12_findSoonest 194 = .ok (.aload_n 0, 1) := dgX12_findSoonest_2 (194, (.aload_n 0, 1)) (List.mem_of_getElem? (i := 20) rfl)
theorem dX12_findSoonest_195 : decode cX12_findSoonest 195 = .ok (.getfield 98, 3) := dgX12_findSoonest_2 (195, (.getfield 98, 3)) (List.mem_of_getElem? (i := 21) rfl)
theorem dX12_findSoonest_198 : decode cX12_findSoonest 198 = .ok (.bipush 64, 2) := dgX12_findSoonest_2 (198, (.bipush 64, 2)) (List.mem_of_getElem? (i := 22) rfl)
theorem dX12_findSoonest_200 : decode cX12_findSoonest 200 = .ok (.iload 5, 2) := dgX12_findSoonest_2 (200, (.iload 5, 2)) (List.mem_of_getElem? (i := 23) rfl)
theorem dX12_findSoonest_202 : decode cX12_findSoonest 202 = .ok (.iconst 1, 1) := dgX12_findSoonest_2 (202, (.iconst 1, 1)) (List.mem_of_getElem? (i := 24) rfl)
theorem dX12_findSoonest_203 : decode cX12_findSoonest 203 = .ok (.iadd, 1) := dgX12_findSoonest_2 (203, (.iadd, 1)) (List.mem_of_getElem? (i := 25) rfl)
theorem dX12_findSoonest_204 : decode cX12_findSoonest 204 = .ok (.imul, 1) := dgX12_findSoonest_2 (204, (.imul, 1)) (List.mem_of_getElem? (i := 26) rfl)
theorem dX12_findSoonest_205 : decode cX12_findSoonest 205 = .ok (.iload 8, 2) := dgX12_findSoonest_2 (205, (.iload 8, 2)) (List.mem_of_getElem? (i := 27) rfl)
theorem dX12_findSoonest_207 : decode cX12_findSoonest 207 = .ok (.iadd, 1) := dgX12_findSoonest_2 (207, (.iadd, 1)) (List.mem_of_getElem? (i := 28) rfl)
theorem dX12_findSoonest_208 : decode cX12_findSoonest 208 = .ok (.iconst 1, 1) := dgX12_findSoonest_2 (208, (.iconst 1, 1)) (List.mem_of_getElem? (i := 29) rfl)
theorem dX12_findSoonest_209 : decode cX12_findSoonest 209 = .ok (.bastore, 1) := dgX12_findSoonest_2 (209, (.bastore, 1)) (List.mem_of_getElem? (i := 30) rfl)
theorem dX12_findSoonest_210 : decode cX12_findSoonest 210 = .ok (.iinc 7 1, 3) := dgX12_findSoonest_2 (210, (.iinc 7 1, 3)) (List.mem_of_getElem? (i := 31) rfl)
theorem dX12_findSoonest_213 : decode cX12_findSoonest 213 = .ok (.goto (-76), 3) := dgX12_findSoonest_2 (213, (.goto (-76), 3)) (List.mem_of_getElem? (i := 32) rfl)
theorem dX12_findSoonest_216 : decode cX12_findSoonest 216 = .ok (.iinc 6 1, 3) := dgX12_findSoonest_2 (216, (.iinc 6 1, 3)) (List.mem_of_getElem? (i := 33) rfl)
theorem dX12_findSoonest_219 : decode cX12_findSoonest 219 = .ok (.goto (-141), 3) := dgX12_findSoonest_2 (219, (.goto (-141), 3)) (List.mem_of_getElem? (i := 34) rfl)
theorem dX12_findSoonest_222 : decode cX12_findSoonest 222 = .ok (.iinc 5 1, 3) := dgX12_findSoonest_2 (222, (.iinc 5 1, 3)) (List.mem_of_getElem? (i := 35) rfl)
theorem dX12_findSoonest_225 : decode cX12_findSoonest 225 = .ok (.goto (-163), 3) := dgX12_findSoonest_2 (225, (.goto (-163), 3)) (List.mem_of_getElem? (i := 36) rfl)
theorem dX12_findSoonest_228 : decode cX12_findSoonest 228 = .ok (.iload 4, 2) := dgX12_findSoonest_2 (228, (.iload 4, 2)) (List.mem_of_getElem? (i := 37) rfl)
theorem dX12_findSoonest_230 : decode cX12_findSoonest 230 = .ok (.iconst 1, 1) := dgX12_findSoonest_2 (230, (.iconst 1, 1)) (List.mem_of_getElem? (i := 38) rfl)
theorem dX12_findSoonest_231 : decode cX12_findSoonest 231 = .ok (.isub, 1) := dgX12_findSoonest_2 (231, (.isub, 1)) (List.mem_of_getElem? (i := 39) rfl)
theorem dgX12_findSoonest_3 : ∀ r ∈ ([(232, (.istore 5, 2)), (234, (.iload 5, 2)), (236, (.iload_n 3, 1)), (237, (.if_icmp .lt 143, 3)), (240, (.iconst 0, 1)), (241, (.istore 6, 2)), (243, (.iload 6, 2)), (245, (.bipush 64, 2)), (247, (.if_icmp .ge 127, 3)), (250, (.iconst 0, 1)), (251, (.istore 7, 2)), (253, (.iload 7, 2)), (255, (.iconst 5, 1)), (256, (.if_icmp .ge 112, 3)), (259, (.iload 7, 2)), (261, (.iconst 4, 1)), (262, (.if_icmp .ne 8, 3)), (265, (.iload 6, 2)), (267, (.goto 10, 3)), (270, (.iload 6, 2)), (272, (.iload 7, 2)), (274, (.invokestatic 374, 3)), (277, (.istore 8, 2)), (279, (.aload_n 0, 1)), (280, (.getfield 101, 3)), (283, (.bipush 64, 2)), (285, (.iload 5, 2)), (287, (.imul, 1)), (288, (.iload 6, 2)), (290, (.iadd, 1)), (291, (.aload_n 0, 1)), (292, (.getfield 101, 3)), (295, (.bipush 64, 2)), (297, (.iload 5, 2)), (299, (.imul, 1)), (300, (.iload 6, 2)), (302, (.iadd, 1)), (303, (.baload, 1)), (304, (.ifCond .ne 52, 3)), (307, (.aload_n 0, 1))] : List (Nat × (Instr × Nat))), decode cX12_findSoonest r.1 = .ok r.2 := by decide +kernel
theorem dX12_findSoonest_232 : decode cX12_findSoonest 232 = .ok (.istore 5, 2) := dgX12_findSoonest_3 (232, (.istore 5, 2)) (List.mem_of_getElem? (i := 0) rfl)
theorem dX12_findSoonest_234 : decode cX12_findSoonest 234 = .ok (.iload 5, 2) := dgX12_findSoonest_3 (234, (.iload 5, 2)) (List.mem_of_getElem? (i := 1) rfl)
theorem dX12_findSoonest_236 : decode cX12_findSoonest 236 = .ok (.iload_n 3, 1) := dgX12_findSoonest_3 (236, (.iload_n 3, 1)) (List.mem_of_getElem? (i := 2) rfl)
theorem dX12_findSoonest_237 : decode cX12_findSoonest 237 = .ok (.if_icmp .lt 143, 3) := dgX12_findSoonest_3 (237, (.if_icmp .lt 143, 3)) (List.mem_of_getElem? (i := 3) rfl)
theorem dX12_findSoonest_240 : decode cX12_findSoonest 240 = .ok (.iconst 0, 1) := dgX12_findSoonest_3 (240, (.iconst 0, 1)) (List.mem_of_getElem? (i := 4) rfl)
theorem dX12_findSoonest_241 : decode cX12_findSoonest 241 = .ok (.istore 6, 2) := dgX12_findSoonest_3 (241, (.istore 6, 2)) (List.mem_of_getElem? (i := 5) rfl)
theorem dX12_findSoonest_243 : decode cX12_findSoonest 243 = .ok (.iload 6, 2) := dgX12_findSoonest_3 (243, (.iload 6, 2)) (List.mem_of_getElem? (i := 6) rfl)
theorem dX12_findSoonest_245 : decode cX12_findSoonest 245 = .ok (.bipush 64, 2) := dgX12_findSoonest_3 (245, (.bipush 64, 2)) (List.mem_of_getElem? (i := 7) rfl)
theorem dX12_findSoonest_247 : decode cX12_findSoonest 247 = .ok (.if_icmp .ge 127, 3) := dgX12_findSoonest_3 (247, (.if_icmp .ge 127, 3)) (List.mem_of_getElem? (i := 8) rfl)
theorem dX12_findSoonest_250 : decode cX12_findSoonest 250 = .ok (.iconst 0, 1) := dgX12_findSoonest_3 (250, (.iconst 0, 1)) (List.mem_of_getElem? (i := 9) rfl)
theorem dX12_findSoonest_251 : decode cX12_findSoonest 251 = .ok (.istore 7, 2) := dgX12_findSoonest_3 (251, (.istore 7, 2)) (List.mem_of_getElem? (i := 10) rfl)
theorem dX12_findSoonest_253 : decode cX12_findSoonest 253 = .ok (.iload 7, 2) := dgX12_findSoonest_3 (253, (.iload 7, 2)) (List.mem_of_getElem? (i := 11) rfl)
theorem dX12_findSoonest_255 : decode cX12_findSoonest 255 = .ok (.iconst 5, 1) := dgX12_findSoonest_3 (255, (.iconst 5, 1)) (List.mem_of_getElem? (i := 12) rfl)
theorem dX12_findSoonest_256 : decode cX12_findSoonest 256 = .ok (.if_icmp .ge 112, 3) := dgX12_findSoonest_3 (256, (.if_icmp .ge 112, 3)) (List.mem_of_getElem? (i := 13) rfl)
theorem dX12_findSoonest_259 : decode cX12_findSoonest 259 = .ok (.iload 7, 2) := dgX12_findSoonest_3 (259, (.iload 7, 2)) (List.mem_of_getElem? (i := 14) rfl)
theorem dX12_findSoonest_261 : decode cX12_findSoonest 261 = .ok (.iconst 4, 1) := dgX12_findSoonest_3 (261, (.iconst 4, 1)) (List.mem_of_getElem? (i := 15) rfl)
theorem dX12_findSoonest_262 : decode cX12_findSoonest 262 = .ok (.if_icmp .ne 8, 3) := dgX12_findSoonest_3 (262, (.if_icmp .ne 8, 3)) (List.mem_of_getElem? (i := 16) rfl)
theorem dX12_findSoonest_265 : decode cX12_findSoonest 265 = .ok (.iload 6, 2) := dgX12_findSoonest_3 (265, (.iload 6, 2)) (List.mem_of_getElem? (i := 17) rfl)
theorem dX12_findSoonest_267 : decode cX12_findSoonest 267 = .ok (.goto 10, 3) := dgX12_findSoonest_3 (267, (.goto 10, 3)) (List.mem_of_getElem? (i := 18) rfl)
theorem dX12_findSoonest_270 : decode cX12_findSoonest 270 = .ok (.iload 6, 2) := dgX12_findSoonest_3 (270, (.iload 6, 2)) (List.mem_of_getElem? (i := 19) rfl)
theorem dX12_findSoonest_272 : decode cX12_findSoonest 272 = .ok (.iload 7, 2) := dgX12_findSoonest_3 (272, (.iload 7, 2)) (List.mem_of_getElem? (i := 20) rfl)
theorem dX12_findSoonest_274 : decode cX12_findSoonest 274 = .ok (.invokestatic 374, 3) := dgX12_findSoonest_3 (274, (.invokestatic 374, 3)) (List.mem_of_getElem? (i := 21) rfl)
theorem dX12_findSoonest_277 : decode cX12_findSoonest 277 = .ok (.istore 8, 2) := dgX12_findSoonest_3 (277, (.istore 8, 2)) (List.mem_of_getElem? (i := 22) rfl)
theorem dX12_findSoonest_279 : decode cX12_findSoonest 279 = .ok (.aload_n 0, 1) := dgX12_findSoonest_3 (279, (.aload_n 0, 1)) (List.mem_of_getElem? (i := 23) rfl)
theorem dX12_findSoonest_280 : decode cX12_findSoonest 280 = .ok (.getfield 101, 3) := dgX12_findSoonest_3 (280, (.getfield 101, 3)) (List.mem_of_getElem? (i := 24) rfl)
theorem dX12_findSoonest_283 : decode cX12_findSoonest 283 = .ok (.bipush 64, 2) := dgX12_findSoonest_3 (283, (.bipush 64, 2)) (List.mem_of_getElem? (i := 25) rfl)
theorem dX12_findSoonest_285 : decode cX12_findSoonest 285 = .ok (.iload 5, 2) := dgX12_findSoonest_3 (285, (.iload 5, 2)) (List.mem_of_getElem? (i := 26) rfl)
theorem dX12_findSoonest_287 : decode cX12_findSoonest 287 = .ok (.imul, 1) := dgX12_findSoonest_3 (287, (.imul, 1)) (List.mem_of_getElem? (i := 27) rfl)
theorem dX12_findSoonest_288 : decode cX12_findSoonest 288 = .ok (.iload 6, 2) := dgX12_findSoonest_3 (288, (.iload 6, 2)) (List.mem_of_getElem? (i := 28) rfl)
theorem dX12_findSoonest_290 : decode cX12_findSoonest 290 = .ok (.iadd, 1) := dgX12_findSoonest_3 (290, (.iadd, 1)) (List.mem_of_getElem? (i := 29) rfl)
theorem dX12_findSoonest_291 : decode cX12_findSoonest 291 = .ok (.aload_n 0, 1) := dgX12_findSoonest_3 (291, (.aload_n 0, 1)) (List.mem_of_getElem? (i := 30) rfl)
theorem dX12_findSoonest_292 : decode cX12_findSoonest 292 = .ok (.getfield 101, 3) := dgX12_findSoonest_3 (292, (.getfield 101, 3)) (List.mem_of_getElem? (i := 31) rfl)
theorem dX12_findSoonest_295 : decode cX12_findSoonest 295 = .ok (.bipush 64, 2) := dgX12_findSoonest_3 (295, (.bipush 64, 2)) (List.mem_of_getElem? (i := 32) rfl)
theorem dX12_findSoonest_297 : decode cX12_findSoonest 297 = .ok (.iload 5, 2) := dgX12_findSoonest_3 (297, (.iload 5, 2)) (List.mem_of_getElem? (i := 33) rfl)
theorem dX12_findSoonest_299 : decode cX12_findSoonest 299 = .ok (.imul, 1) := dgX12_findSoonest_3 (299, (.imul, 1)) (List.mem_of_getElem? (i := 34) rfl)
theorem dX12_findSoonest_300 : decode cX12_findSoonest 300 = .ok (.iload 6, 2) := dgX12_findSoonest_3 (300, (.iload 6, 2)) (List.mem_of_getElem? (i := 35) rfl)
theorem dX12_findSoonest_302 : decode cX12_findSoonest 302 = .ok (.iadd, 1) := dgX12_findSoonest_3 (302, (.iadd, 1)) (List.mem_of_getElem? (i := 36) rfl)
theorem dX12_findSoonest_303 : decode cX12_findSoonest 303 = .ok (.baload, 1) := dgX12_findSoonest_3 (303, (.baload, 1)) (List.mem_of_getElem? (i := 37) rfl)
theorem dX12_findSoonest_304 : decode cX12_findSoonest 304 = .ok (.ifCond .ne 52, 3) := dgX12_findSoonest_3 (304, (.ifCond .ne 52, 3)) (List.mem_of_getElem? (i := 38) rfl)
theorem dX12_findSoonest_307 : decode cX12_findSoonest 307 = .ok (.aload_n 0, 1) := dgX12_findSoonest_3 (307, (.aload_n 0, 1)) (List.mem_of_getElem? (i := 39) rfl)
theorem dgX12_findSoonest_4 : ∀ r ∈ ([(308, (.getfield 98, 3)), (311, (.bipush 64, 2)), (313, (.iload 5, 2)), (315, (.imul, 1)), (316, (.iload 6, 2)), (318, (.iadd, 1)), (319, (.baload, 1)), (320, (.ifCond .eq 40, 3)), (323, (.iload 8, 2)), (325, (.iconst (-1), 1)), (326, (.if_icmp .eq 34, 3)), (329, (.aload_n 0, 1)), (330, (.getfield 101, 3)), (333, (.bipush 64, 2)), (335, (.iload 5, 2)), (337, (.iconst 1, 1)), (338, (.iadd, 1)), (339, (.imul, 1)), (340, (.iload 8, 2)), (342, (.ifCond .ge 7, 3)), (345, (.iconst 0, 1)), (346, (.goto 5, 3)), (349, (.iload 8, 2)), (351, (.iadd, 1)), (352, (.baload, 1)), (353, (.ifCond .eq 7, 3)), (356, (.iconst 1, 1)), (357, (.goto 4, 3)), (360, (.iconst 0, 1)), (361, (.bastore, 1)), (362, (.iinc 7 1, 3)), (365, (.goto (-112), 3)), (368, (.iinc 6 1, 3)), (371, (.goto (-128), 3)), (374, (.iinc 5 (-1), 3)), (377, (.goto (-143), 3)), (380, (.iload 4, 2)), (382, (.ireturn, 1))] : List (Nat × (Instr × Nat))), decode cX12_findSoonest r.1 = .ok r.2 := by decide +kernel
theorem dX12_findSoonest_308 : decode cX12_findSoonest 308 = .ok (.getfield 98, 3) := dgX12_findSoonest_4 (308, (.getfield 98, 3)) (List.mem_of_getElem? (i := 0) rfl)
theorem dX12_findSoonest_311 : decode cX12_findSoonest 311 = .ok (.bipush 64, 2) := dgX12_findSoonest_4 (311, (.bipush 64, 2)) (List.mem_of_getElem? (i := 1) rfl)
theorem dX12_findSoonest_313 : decode cX12_findSoonest 313 = .ok (.iload 5, 2) := dgX12_findSoonest_4 (313, (.iload 5, 2)) (List.mem_of_getElem? (i := 2) rfl)
theorem dX12_findSoonest_315 : decode cX12_findSoonest 315 = .ok (.imul, 1) := dgX12_findSoonest_4 (315, (.imul, 1)) (List.mem_of_getElem? (i := 3) rfl)
theorem dX12_findSoonest_316 : decode cX12_findSoonest 316 = .ok (.iload 6, 2) := dgX12_findSoonest_4 (316, (.iload 6, 2)) (List.mem_of_getElem? (i := 4) rfl)
theorem dX12_findSoonest_318 : decode cX12_findSoonest 318 = .ok (.iadd, 1) := dgX12_findSoonest_4 (318, (.iadd, 1)) (List.mem_of_getElem? (i := 5) rfl)
theorem dX12_findSoonest_319 : decode cX12_findSoonest 319 = .ok (.baload, 1) := dgX12_findSoonest_4 (319, (.baload, 1)) (List.mem_of_getElem? (i := 6) rfl)
theorem dX12_findSoonest_320 : decode cX12_findSoonest 320 = .ok (.ifCond .eq 40, 3) := dgX12_findSoonest_4 (320, (.ifCond .eq 40, 3)) (List.mem_of_getElem? (i := 7) rfl)
theorem dX12_findSoonest_323 : decode cX12_findSoonest 323 = .ok (.iload 8, 2) := dgX12_findSoonest_4 (323, (.iload 8, 2)) (List.mem_of_getElem? (i := 8) rfl)
theorem dX12_findSoonest_325 : decode cX12_findSoonest 325 = .ok (.iconst (-1), 1) := dgX12_findSoonest_4 (325, (.iconst (-1), 1)) (List.mem_of_getElem? (i := 9) rfl)
theorem dX12_findSoonest_326 : decode cX12_findSoonest 326 = .ok (.if_icmp .eq 34, 3) := dgX12_findSoonest_4 (326, (.if_icmp .eq 34, 3)) (List.mem_of_getElem? (i := 10) rfl)
theorem dX12_findSoonest_329 : decode cX12_findSoonest 329 = .ok (.aload_n 0, 1) := dgX12_findSoonest_4 (329, (.aload_n 0, 1)) (List.mem_of_getElem? (i := 11) rfl)
theorem dX12_findSoonest_330 : decode cX12_findSoonest 330 = .ok (.getfield 101, 3) := dgX12_findSoonest_4 (330, (.getfield 101, 3)) (List.mem_of_getElem? (i := 12) rfl)
theorem dX12_findSoonest_333 : decode cX12_findSoonest 333 = .ok (.bipush 64, 2) := dgX12_findSoonest_4 (333, (.bipush 64, 2)) (List.mem_of_getElem? (i := 13) rfl)
theorem dX12_findSoonest_335 : decode cX12_findSoonest 335 = .ok (.iload 5, 2) := dgX12_findSoonest_4 (335, (.iload 5, 2)) (List.mem_of_getElem? (i := 14) rfl)
theorem dX12_findSoonest_337 : decode cX12_findSoonest 337 = .ok (.iconst 1, 1) := dgX12_findSoonest_4 (337, (.iconst 1, 1)) (List.mem_of_getElem? (i := 15) rfl)
theorem dX12_findSoonest_338 : decode cX12_findSoonest 338 = .ok (.iadd, 1) := dgX12_findSoonest_4 (338, (.iadd, 1)) (List.mem_of_getElem? (i := 16) rfl)
theorem dX12_findSoonest_339 : decode cX12_findSoonest 339 = .ok (.imul, 1) := dgX12_findSoonest_4 (339, (.imul, 1)) (List.mem_of_getElem? (i := 17) rfl)
theorem dX12_findSoonest_340 : decode cX12_findSoonest 340 = .ok (.iload 8, 2) := dgX12_findSoonest_4 (340, (.iload 8, 2)) (List.mem_of_getElem? (i := 18) rfl)
theorem dX12_findSoonest_342 : decode cX12_findSoonest 342 = .ok (.ifCond .ge 7, 3) := dgX12_findSoonest_4 (342, (.ifCond .ge 7, 3)) (List.mem_of_getElem? (i := 19) rfl)
theorem dX12_findSoonest_349 : decode cX12_findSoonest 349 = .ok (.iload 8, 2) := dgX12_findSoonest_4 (349, (.iload 8, 2)) (List.mem_of_getElem? (i := 22) rfl)
theorem dX12_findSoonest_351 : decode cX12_findSoonest 351 = .ok (.iadd, 1) := dgX12_findSoonest_4 (351, (.iadd, 1)) (List.mem_of_getElem? (i := 23) rfl)
theorem dX12_findSoonest_352 : decode cX12_findSoonest 352 = .ok (.baload, 1) := dgX12_findSoonest_4 (352, (.baload, 1)) (List.mem_of_getElem? (i := 24) rfl)
theorem dX12_findSoonest_353 : decode cX12_findSoonest 353 = .ok (.ifCond .eq 7, 3) := dgX12_findSoonest_4 (353, (.ifCond .eq 7, 3)) (List.mem_of_getElem? (i := 25) rfl)
theorem dX12_findSoonest_356 : decode cX12_findSoonest 356 = .ok (.iconst 1, 1) := dgX12_findSoonest_4 (356, (.iconst 1, 1)) (List.mem_of_getElem? (i := 26) rfl)
theorem dX12_findSoonest_357 : decode cX12_findSoonest 357 = .ok (.goto 4, 3) := dgX12_findSoonest_4 (357, (.goto 4, 3)) (List.mem_of_getElem? (i := 27) rfl)
theorem dX12_findSoonest_360 : decode cX12_findSoonest 360 = .ok (.iconst 0, 1) := dgX12_findSoonest_4 (360, (.iconst 0, 1)) (List.mem_of_getElem? (i := 28) rfl)
theorem dX12_findSoonest_361 : decode cX12_findSoonest 361 = .ok (.bastore, 1) := dgX12_findSoonest_4 (361, (.bastore, 1)) (List.mem_of_getElem? (i := 29) rfl)
theorem dX12_findSoonest_362 : decode cX12_findSoonest 362 = .ok (.iinc 7 1, 3) := dgX12_findSoonest_4 (362, (.iinc 7 1, 3)) (List.mem_of_getElem? (i := 30) rfl)
theorem dX12_findSoonest_365 : decode cX12_findSoonest 365 = .ok (.goto (-112), 3) := dgX12_findSoonest_4 (365, (.goto (-112), 3)) (List.mem_of_getElem? (i := 31) rfl)
theorem dX12_findSoonest_368 : decode cX12_findSoonest 368 = .ok (.iinc 6 1, 3) := dgX12_findSoonest_4 (368, (.iinc 6 1, 3)) (List.mem_of_getElem? (i := 32) rfl)
theorem dX12_findSoonest_371 : decode cX12_findSoonest 371 = .ok (.goto (-128), 3) := dgX12_findSoonest_4 (371, (.goto (-128), 3)) (List.mem_of_getElem? (i := 33) rfl)
theorem dX12_findSoonest_374 : decode cX12_findSoonest 374 = .ok (.iinc 5 (-1), 3) := dgX12_findSoonest_4 (374, (.iinc 5 (-1), 3)) (List.mem_of_getElem? (i := 34) rfl)
theorem dX12_findSoonest_377 : decode cX12_findSoonest 377 = .ok (.goto (-143), 3) := dgX12_findSoonest_4 (377, (.goto (-143), 3)) (List.mem_of_getElem? (i := 35) rfl)
theorem dX12_findSoonest_380 : decode cX12_findSoonest 380 = .ok (.iload 4, 2) := dgX12_findSoonest_4 (380, (.iload 4, 2)) (List.mem_of_getElem? (i := 36) rfl)
theorem dX12_findSoonest_382 : decode cX12_findSoonest 382 = .ok (.ireturn, 1) := dgX12_findSoonest_4 (382, (.ireturn, 1)) (List.mem_of_getElem? (i := 37) rfl)
theorem fl_X12_101 : Cond.fieldLink RX12 101 "LateGlassModel" "leads" "[Z" ∈ tblG := tg 1251 (by decide +kernel) (by decide +kernel)
theorem fl_X12_98 : Cond.fieldLink RX12 98 "LateGlassModel" "there" "[Z" ∈ tblG := tg 1250 (by decide +kernel) (by decide +kernel)
