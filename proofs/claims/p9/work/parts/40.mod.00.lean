theorem dgX12_in_0 : ∀ r ∈ ([(0, (.lload_n 0, 1)), (1, (.lload_n 2, 1)), (2, (.lcmp, 1)), (3, (.ifCond .lt 14, 3)), (6, (.lload_n 0, 1)), (7, (.lload 4, 2)), (9, (.lcmp, 1)), (10, (.ifCond .gt 7, 3)), (13, (.iconst 1, 1)), (14, (.goto 4, 3)), (17, (.iconst 0, 1)), (18, (.ireturn, 1))] : List (Nat × (Instr × Nat))), decode cX12_in r.1 = .ok r.2 := by decide +kernel
theorem dX12_in_0 : decode cX12_in 0 = .ok (.lload_n 0, 1) := dgX12_in_0 (0, (.lload_n 0, 1)) (List.mem_of_getElem? (i := 0) rfl)
theorem dX12_in_1 : decode cX12_in 1 = .ok (.lload_n 2, 1) := dgX12_in_0 (1, (.lload_n 2, 1)) (List.mem_of_getElem? (i := 1) rfl)
theorem dX12_in_2 : decode cX12_in 2 = .ok (.lcmp, 1) := dgX12_in_0 (2, (.lcmp, 1)) (List.mem_of_getElem? (i := 2) rfl)
theorem dX12_in_3 : decode cX12_in 3 = .ok (.ifCond .lt 14, 3) := dgX12_in_0 (3, (.ifCond .lt 14, 3)) (List.mem_of_getElem? (i := 3) rfl)
theorem dX12_in_6 : decode cX12_in 6 = .ok (.lload_n 0, 1) := dgX12_in_0 (6, (.lload_n 0, 1)) (List.mem_of_getElem? (i := 4) rfl)
theorem dX12_in_7 : decode cX12_in 7 = .ok (.lload 4, 2) := dgX12_in_0 (7, (.lload 4, 2)) (List.mem_of_getElem? (i := 5) rfl)
theorem dX12_in_9 : decode cX12_in 9 = .ok (.lcmp, 1) := dgX12_in_0 (9, (.lcmp, 1)) (List.mem_of_getElem? (i := 6) rfl)
theorem dX12_in_10 : decode cX12_in 10 = .ok (.ifCond .gt 7, 3) := dgX12_in_0 (10, (.ifCond .gt 7, 3)) (List.mem_of_getElem? (i := 7) rfl)
theorem dX12_in_13 : decode cX12_in 13 = .ok (.iconst 1, 1) := dgX12_in_0 (13, (.iconst 1, 1)) (List.mem_of_getElem? (i := 8) rfl)
theorem dX12_in_14 : decode cX12_in 14 = .ok (.goto 4, 3) := dgX12_in_0 (14, (.goto 4, 3)) (List.mem_of_getElem? (i := 9) rfl)
theorem dX12_in_17 : decode cX12_in 17 = .ok (.iconst 0, 1) := dgX12_in_0 (17, (.iconst 0, 1)) (List.mem_of_getElem? (i := 10) rfl)
theorem dX12_in_18 : decode cX12_in 18 = .ok (.ireturn, 1) := dgX12_in_0 (18, (.ireturn, 1)) (List.mem_of_getElem? (i := 11) rfl)
set_option maxHeartbeats 4000000 in
set_option maxRecDepth 100000 in
theorem n_in_n (l : Launch) (G : g5_G) (sz : Nat) (p_x : Int32) (p_n : Int32) (h_p_n : 0 ≤ p_n.toInt ∧ p_n.toInt ≤ 5740) : Met l yX12_in (wsG yX12_in cX12_in 6 (some .boolean)) ({ frames := 0, cells := 0, slots := 0, locals := 0 }) (va_Pc [.long p_x.toInt64, .long 0, .long (p_n.toInt64 - 1)] (g5_P G [] sz)) (va_Qi (fun (r : Int32) (u : va_W) => ((p_x.toInt < 0 ∨ p_n.toInt ≤ p_x.toInt) ∧ (r = 0) ∧ (u = [])) ∨ ((0 ≤ p_x.toInt ∧ p_x.toInt < p_n.toInt) ∧ (r = 1) ∧ (u = []))) (g5_B G (va_A [] sz)) (va_A [] sz)) 0 0 (va_A [] sz) := by
  refine Met.ofW (cc := cX12_in) (maxL := 6) (ret := (some .boolean)) (by decide) rfl ?_
  intro p e s m args below meth c s₁ B hml hv
  obtain ⟨rfl, hsz, hP, hK, hD0, hN, hT⟩ := hv
  have hx := B.exec
  have hb := B.bytes
  have hr := B.returns
  have hts : ∀ w ∈ tblG, w.before _ s = true := fun w h => atoms_spec (ws := (wsG yX12_in cX12_in 6 (some .boolean))) B.pre w (List.mem_cons_of_mem _ h)
  have hown : s.vm.findClass RX12 = some m.cls := findClass_of_methodNamed B.named
  have hlocks := B.notSynchronized
  subst hsz
  have hD := hD0.self (sz := s.heap.size)
  generalize hAe : va_A [] s.heap.size = A at hD hT ⊢
  have hA : ∀ q : Nat, s.heap.size ≤ q → A q := fun q h => by rw [← hAe]; exact Or.inr h
  have hS : va_S A s.heap s.heap [] := va_S.rf
  have hP : va_P G.1 vwCl [] s.heap := hP
  have hl := lv_entry ([.long p_x.toInt64, .long 0, .long (p_n.toInt64 - 1)]) (n := 6) (Nat.le_of_ble_eq_true rfl)
  rw [lg_entry_eq]
  generalize (lg_sl ([.long p_x.toInt64, .long 0, .long (p_n.toInt64 - 1)]) ++ List.replicate (6 - (lg_sl ([.long p_x.toInt64, .long 0, .long (p_n.toInt64 - 1)])).length) Slot.unset).toArray = ls at hl ⊢
  have hl : lv_has ls 6 [(0, .long p_x.toInt64), (2, .long 0), (4, .long (p_n.toInt64 - 1))] := hl
  refine lv_lload_n hx hb dX12_in_0 rfl (lv_at hl 0 rfl) ?_
  refine lv_lload_n hx hb dX12_in_1 rfl (lv_at hl 1 rfl) ?_
  have tl_1 : p_x.toInt64.toInt = p_x.toInt := Int32.toInt_toInt64 _
  have tl_2 : (0 : Int64).toInt = 0 := (by decide)
  have tc_3 := g5_cmpI p_x.toInt64 0
  refine W.lcmp hx hb dX12_in_2 ?_
  refine lv_if_lt (tgt := 17) hx hb dX12_in_3 (by decide) (fun c_4 => ?_) (fun c_4 => ?_)
  ·
    have i_4 : (lg_cmp p_x.toInt64 0).toInt < 0 := by have z := g5_lt (a := (lg_cmp p_x.toInt64 0).toInt) (b := 0) (by rfl) (by decide) c_4; omega
    refine lv_iconst (v := 0) hx hb dX12_in_17 (by decide) ?_
    exact W.zret (v := 0) hx hb hr rfl (fun t ht hW => ⟨⟨0, [], rfl, Or.inl (⟨by omega, rfl, rfl⟩), by rw [ht]; exact hP.sub [] rfl, hD.sub [] (by decide) rfl⟩, hS.F ht⟩) hS.2.2 dX12_in_18
  ·
    have i_4 : (lg_cmp p_x.toInt64 0).toInt ≥ 0 := by have z := g5_ltN (a := (lg_cmp p_x.toInt64 0).toInt) (b := 0) (by rfl) (by decide) c_4; omega
    refine lv_lload_n hx hb dX12_in_6 rfl (lv_at hl 0 rfl) ?_
    refine lv_lload hx hb dX12_in_7 (lv_at hl 2 rfl) ?_
    have tl_5 : p_x.toInt64.toInt = p_x.toInt := Int32.toInt_toInt64 _
    have tl_6 : (p_n.toInt64 - 1).toInt = p_n.toInt - 1 := g5_lsub (Int32.toInt_toInt64 _) (by decide) (by omega) (by omega)
    have tc_7 := g5_cmpI p_x.toInt64 (p_n.toInt64 - 1)
    refine W.lcmp hx hb dX12_in_9 ?_
    refine lv_if_gt (tgt := 17) hx hb dX12_in_10 (by decide) (fun c_8 => ?_) (fun c_8 => ?_)
    ·
      have i_8 : (lg_cmp p_x.toInt64 (p_n.toInt64 - 1)).toInt > 0 := by have z := g5_gt (a := (lg_cmp p_x.toInt64 (p_n.toInt64 - 1)).toInt) (b := 0) (by rfl) (by decide) c_8; omega
      refine lv_iconst (v := 0) hx hb dX12_in_17 (by decide) ?_
      exact W.zret (v := 0) hx hb hr rfl (fun t ht hW => ⟨⟨0, [], rfl, Or.inl (⟨by omega, rfl, rfl⟩), by rw [ht]; exact hP.sub [] rfl, hD.sub [] (by decide) rfl⟩, hS.F ht⟩) hS.2.2 dX12_in_18
    ·
      have i_8 : (lg_cmp p_x.toInt64 (p_n.toInt64 - 1)).toInt ≤ 0 := by have z := g5_gtN (a := (lg_cmp p_x.toInt64 (p_n.toInt64 - 1)).toInt) (b := 0) (by rfl) (by decide) c_8; omega
      refine lv_iconst (v := 1) hx hb dX12_in_13 (by decide) ?_
      refine lv_goto (tgt := 18) hx hb dX12_in_14 (by decide) ?_
      exact W.zret (v := 1) hx hb hr rfl (fun t ht hW => ⟨⟨1, [], rfl, Or.inr (⟨by omega, rfl, rfl⟩), by rw [ht]; exact hP.sub [] rfl, hD.sub [] (by decide) rfl⟩, hS.F ht⟩) hS.2.2 dX12_in_18
theorem dgX12_isCell_0 : ∀ r ∈ ([(0, (.iload_n 0, 1)), (1, (.i2l, 1)), (2, (.lconst 0, 1)), (3, (.ldc2_w 128, 3)), (6, (.invokestatic 121, 3)), (9, (.ireturn, 1))] : List (Nat × (Instr × Nat))), decode cX12_isCell r.1 = .ok r.2 := by decide +kernel
theorem dX12_isCell_0 : decode cX12_isCell 0 = .ok (.iload_n 0, 1) := dgX12_isCell_0 (0, (.iload_n 0, 1)) (List.mem_of_getElem? (i := 0) rfl)
theorem dX12_isCell_1 : decode cX12_isCell 1 = .ok (.i2l, 1) := dgX12_isCell_0 (1, (.i2l, 1)) (List.mem_of_getElem? (i := 1) rfl)
theorem dX12_isCell_2 : decode cX12_isCell 2 = .ok (.lconst 0, 1) := dgX12_isCell_0 (2, (.lconst 0, 1)) (List.mem_of_getElem? (i := 2) rfl)
theorem dX12_isCell_3 : decode cX12_isCell 3 = .ok (.ldc2_w 128, 3) := dgX12_isCell_0 (3, (.ldc2_w 128, 3)) (List.mem_of_getElem? (i := 3) rfl)
theorem dX12_isCell_6 : decode cX12_isCell 6 = .ok (.invokestatic 121, 3) := dgX12_isCell_0 (6, (.invokestatic 121, 3)) (List.mem_of_getElem? (i := 4) rfl)
theorem dX12_isCell_9 : decode cX12_isCell 9 = .ok (.ireturn, 1) := dgX12_isCell_0 (9, (.ireturn, 1)) (List.mem_of_getElem? (i := 5) rfl)
theorem kl_X12_128 : Cond.constantLong RX12 128 63 ∈ tblG := tg 1382 (by decide +kernel) (by decide +kernel)
set_option maxHeartbeats 4000000 in
set_option maxRecDepth 100000 in
theorem n_in_0_63 (l : Launch) (G : g5_G) (sz : Nat) (p_x : Int32) : Met l yX12_in (wsG yX12_in cX12_in 6 (some .boolean)) ({ frames := 0, cells := 0, slots := 0, locals := 0 }) (va_Pc [.long p_x.toInt64, .long 0, .long 63] (g5_P G [] sz)) (va_Qi (fun (r : Int32) (u : va_W) => ((p_x.toInt < 0 ∨ 63 < p_x.toInt) ∧ (r = 0) ∧ (u = [])) ∨ ((0 ≤ p_x.toInt ∧ p_x.toInt ≤ 63) ∧ (r = 1) ∧ (u = []))) (g5_B G (va_A [] sz)) (va_A [] sz)) 0 0 (va_A [] sz) := by
  refine Met.ofW (cc := cX12_in) (maxL := 6) (ret := (some .boolean)) (by decide) rfl ?_
  intro p e s m args below meth c s₁ B hml hv
  obtain ⟨rfl, hsz, hP, hK, hD0, hN, hT⟩ := hv
  have hx := B.exec
  have hb := B.bytes
  have hr := B.returns
  have hts : ∀ w ∈ tblG, w.before _ s = true := fun w h => atoms_spec (ws := (wsG yX12_in cX12_in 6 (some .boolean))) B.pre w (List.mem_cons_of_mem _ h)
  have hown : s.vm.findClass RX12 = some m.cls := findClass_of_methodNamed B.named
  have hlocks := B.notSynchronized
  subst hsz
  have hD := hD0.self (sz := s.heap.size)
  generalize hAe : va_A [] s.heap.size = A at hD hT ⊢
  have hA : ∀ q : Nat, s.heap.size ≤ q → A q := fun q h => by rw [← hAe]; exact Or.inr h
  have hS : va_S A s.heap s.heap [] := va_S.rf
  have hP : va_P G.1 vwCl [] s.heap := hP
  have hl := lv_entry ([.long p_x.toInt64, .long 0, .long 63]) (n := 6) (Nat.le_of_ble_eq_true rfl)
  rw [lg_entry_eq]
  generalize (lg_sl ([.long p_x.toInt64, .long 0, .long 63]) ++ List.replicate (6 - (lg_sl ([.long p_x.toInt64, .long 0, .long 63])).length) Slot.unset).toArray = ls at hl ⊢
  have hl : lv_has ls 6 [(0, .long p_x.toInt64), (2, .long 0), (4, .long 63)] := hl
  refine lv_lload_n hx hb dX12_in_0 rfl (lv_at hl 0 rfl) ?_
  refine lv_lload_n hx hb dX12_in_1 rfl (lv_at hl 1 rfl) ?_
  have tl_1 : p_x.toInt64.toInt = p_x.toInt := Int32.toInt_toInt64 _
  have tl_2 : (0 : Int64).toInt = 0 := (by decide)
  have tc_3 := g5_cmpI p_x.toInt64 0
  refine W.lcmp hx hb dX12_in_2 ?_
  refine lv_if_lt (tgt := 17) hx hb dX12_in_3 (by decide) (fun c_4 => ?_) (fun c_4 => ?_)
  ·
    have i_4 : (lg_cmp p_x.toInt64 0).toInt < 0 := by have z := g5_lt (a := (lg_cmp p_x.toInt64 0).toInt) (b := 0) (by rfl) (by decide) c_4; omega
    refine lv_iconst (v := 0) hx hb dX12_in_17 (by decide) ?_
    exact W.zret (v := 0) hx hb hr rfl (fun t ht hW => ⟨⟨0, [], rfl, Or.inl (⟨by omega, rfl, rfl⟩), by rw [ht]; exact hP.sub [] rfl, hD.sub [] (by decide) rfl⟩, hS.F ht⟩) hS.2.2 dX12_in_18
  ·
    have i_4 : (lg_cmp p_x.toInt64 0).toInt ≥ 0 := by have z := g5_ltN (a := (lg_cmp p_x.toInt64 0).toInt) (b := 0) (by rfl) (by decide) c_4; omega
    refine lv_lload_n hx hb dX12_in_6 rfl (lv_at hl 0 rfl) ?_
    refine lv_lload hx hb dX12_in_7 (lv_at hl 2 rfl) ?_
    have tl_5 : p_x.toInt64.toInt = p_x.toInt := Int32.toInt_toInt64 _
    have tl_6 : (63 : Int64).toInt = 63 := (by decide)
    have tc_7 := g5_cmpI p_x.toInt64 63
    refine W.lcmp hx hb dX12_in_9 ?_
    refine lv_if_gt (tgt := 17) hx hb dX12_in_10 (by decide) (fun c_8 => ?_) (fun c_8 => ?_)
    ·
      have i_8 : (lg_cmp p_x.toInt64 63).toInt > 0 := by have z := g5_gt (a := (lg_cmp p_x.toInt64 63).toInt) (b := 0) (by rfl) (by decide) c_8; omega
      refine lv_iconst (v := 0) hx hb dX12_in_17 (by decide) ?_
      exact W.zret (v := 0) hx hb hr rfl (fun t ht hW => ⟨⟨0, [], rfl, Or.inl (⟨by omega, rfl, rfl⟩), by rw [ht]; exact hP.sub [] rfl, hD.sub [] (by decide) rfl⟩, hS.F ht⟩) hS.2.2 dX12_in_18
    ·
      have i_8 : (lg_cmp p_x.toInt64 63).toInt ≤ 0 := by have z := g5_gtN (a := (lg_cmp p_x.toInt64 63).toInt) (b := 0) (by rfl) (by decide) c_8; omega
      refine lv_iconst (v := 1) hx hb dX12_in_13 (by decide) ?_
      refine lv_goto (tgt := 18) hx hb dX12_in_14 (by decide) ?_
      exact W.zret (v := 1) hx hb hr rfl (fun t ht hW => ⟨⟨1, [], rfl, Or.inr (⟨by omega, rfl, rfl⟩), by rw [ht]; exact hP.sub [] rfl, hD.sub [] (by decide) rfl⟩, hS.F ht⟩) hS.2.2 dX12_in_18
theorem ml_X12_121 : Cond.methodLink RX12 121 yX12_in ∈ tblG := tg 1364 (by decide +kernel) (by decide +kernel)
theorem st_X12_in : Cond.static yX12_in ∈ tblG := tg 1365 (by decide +kernel) (by decide +kernel)
theorem ini_X12 : Cond.initialized RX12 ∈ tblG := tg 99 (by decide +kernel) (by decide +kernel)
theorem cd_X12_in : Cond.code yX12_in cX12_in 6 (some .boolean) ∈ tblG := tg 1366 (by decide +kernel) (by decide +kernel)
theorem gW_X12_in : GoodIn tblG (wsG yX12_in cX12_in 6 (some .boolean)) := tgi cd_X12_in
theorem gS_X12_121 : GoodIn tblG (va_wsS RX12 121 yX12_in (wsG yX12_in cX12_in 6 (some .boolean))) := tgS ml_X12_121 st_X12_in ini_X12 gW_X12_in
theorem hs_X12_in : yX12_in.cls ≠ "java/lang/invoke/MethodHandle" ∧ yX12_in.cls ≠ "java/lang/invoke/VarHandle" ∧ (parseMethodDescriptor yX12_in.desc).map (fun d => d.parameters.length) = some 3 := by decide +kernel
set_option maxHeartbeats 4000000 in
set_option maxRecDepth 100000 in
theorem n_isCell (l : Launch) (G : g5_G) (sz : Nat) (p_0 : Int32) : Met l yX12_isCell (wsG yX12_isCell cX12_isCell 1 (some .boolean)) ({ frames := 1, cells := 0, slots := 0, locals := 25 }) (va_Pc [.int p_0] (g5_P G [] sz)) (va_Qi (fun (r : Int32) (u : va_W) => ((0 ≤ p_0.toInt ∧ p_0.toInt ≤ 63) ∧ (r = 1) ∧ (u = [])) ∨ ((r = 0) ∧ (u = []))) (g5_B G (va_A [] sz)) (va_A [] sz)) 0 0 (va_A [] sz) := by
  refine Met.ofW (cc := cX12_isCell) (maxL := 1) (ret := (some .boolean)) (by decide) rfl ?_
  intro p e s m args below meth c s₁ B hml hv
  obtain ⟨rfl, hsz, hP, hK, hD0, hN, hT⟩ := hv
  have hx := B.exec
  have hb := B.bytes
  have hr := B.returns
  have hts : ∀ w ∈ tblG, w.before _ s = true := fun w h => atoms_spec (ws := (wsG yX12_isCell cX12_isCell 1 (some .boolean))) B.pre w (List.mem_cons_of_mem _ h)
  have hown : s.vm.findClass RX12 = some m.cls := findClass_of_methodNamed B.named
  have hlocks := B.notSynchronized
  subst hsz
  have hD := hD0.self (sz := s.heap.size)
  generalize hAe : va_A [] s.heap.size = A at hD hT ⊢
  have hA : ∀ q : Nat, s.heap.size ≤ q → A q := fun q h => by rw [← hAe]; exact Or.inr h
  have hS : va_S A s.heap s.heap [] := va_S.rf
  have hP : va_P G.1 vwCl [] s.heap := hP
  have hl := lv_entry ([.int p_0]) (n := 1) (Nat.le_of_ble_eq_true rfl)
  rw [lg_entry_eq]
  generalize (lg_sl ([.int p_0]) ++ List.replicate (1 - (lg_sl ([.int p_0])).length) Slot.unset).toArray = ls at hl ⊢
  have hl : lv_has ls 1 [(0, .int p_0)] := hl
  refine lv_iload_n hx hb dX12_isCell_0 rfl (lv_at hl 0 rfl) ?_
  refine lv_i2l (v := p_0.toInt64) hx hb dX12_isCell_1 rfl ?_
  refine lv_lconst (v := 0) hx hb dX12_isCell_2 (by decide) ?_
  refine lv_ldc2 (v := 63) hx hb hown (hts _ kl_X12_128) dX12_isCell_3 ?_
  obtain ⟨hPc, hDc, hFc⟩ := g5_sub3 (wc := []) hP hD hS hA [] (by decide) rfl
  refine va_calli (va_runS (As := [.long p_0.toInt64, .long 0, .long 63]) (rest := []) ⟨hx, hb, hml, hown, hts⟩ (n_in_0_63 l G s.heap.size p_0) (va_cwS 3 hts gS_X12_121 rfl rfl rfl hs_X12_in ⟨Nat.le_of_ble_eq_true rfl, Nat.le_of_ble_eq_true rfl⟩) (g5_preS hPc hK hDc hN hT hS hFc) rfl rfl hl.1 rfl (lv_room (Nat.le_of_ble_eq_true rfl)) dX12_isCell_6 ⟨Nat.le_of_ble_eq_true rfl, Nat.le_of_ble_eq_true rfl⟩) hS (fun q _ h => hFc q h) hFc (fun r u t H1 locs ht hvm hw hB hz1 hk1 hS => ?_)
  obtain ⟨hP1, hD1⟩ := hB
  rw [ht] at hP1
  rcases hw with ⟨i_1, rfl, rfl⟩ | ⟨i_2, rfl, rfl⟩
  ·
    have i_1 : p_0.toInt < 0 ∨ 63 < p_0.toInt := i_1
    have hP := g5_same hP hk1
    generalize H1 = H at hP hS ⊢
    exact W.zret (v := 0) hx hb hr rfl (fun t ht hW => ⟨⟨0, [], rfl, Or.inr (⟨rfl, rfl⟩), by rw [ht]; exact hP.sub [] rfl, hD.sub [] (by decide) rfl⟩, hS.F ht⟩) hS.2.2 dX12_isCell_9
  ·
    have i_2 : 0 ≤ p_0.toInt ∧ p_0.toInt ≤ 63 := i_2
    have hP := g5_same hP hk1
    generalize H1 = H at hP hS ⊢
    exact W.zret (v := 1) hx hb hr rfl (fun t ht hW => ⟨⟨1, [], rfl, Or.inl (⟨i_2, rfl, rfl⟩), by rw [ht]; exact hP.sub [] rfl, hD.sub [] (by decide) rfl⟩, hS.F ht⟩) hS.2.2 dX12_isCell_9
theorem dgX12_isHour_0 : ∀ r ∈ ([(0, (.iload_n 0, 1)), (1, (.i2l, 1)), (2, (.lconst 0, 1)), (3, (.ldc2_w 130, 3)), (6, (.invokestatic 121, 3)), (9, (.ireturn, 1))] : List (Nat × (Instr × Nat))), decode cX12_isHour r.1 = .ok r.2 := by decide +kernel
theorem dX12_isHour_0 : decode cX12_isHour 0 = .ok (.iload_n 0, 1) := dgX12_isHour_0 (0, (.iload_n 0, 1)) (List.mem_of_getElem? (i := 0) rfl)
theorem dX12_isHour_1 : decode cX12_isHour 1 = .ok (.i2l, 1) := dgX12_isHour_0 (1, (.i2l, 1)) (List.mem_of_getElem? (i := 1) rfl)
theorem dX12_isHour_2 : decode cX12_isHour 2 = .ok (.lconst 0, 1) := dgX12_isHour_0 (2, (.lconst 0, 1)) (List.mem_of_getElem? (i := 2) rfl)
theorem dX12_isHour_3 : decode cX12_isHour 3 = .ok (.ldc2_w 130, 3) := dgX12_isHour_0 (3, (.ldc2_w 130, 3)) (List.mem_of_getElem? (i := 3) rfl)
theorem dX12_isHour_6 : decode cX12_isHour 6 = .ok (.invokestatic 121, 3) := dgX12_isHour_0 (6, (.invokestatic 121, 3)) (List.mem_of_getElem? (i := 4) rfl)
theorem dX12_isHour_9 : decode cX12_isHour 9 = .ok (.ireturn, 1) := dgX12_isHour_0 (9, (.ireturn, 1)) (List.mem_of_getElem? (i := 5) rfl)
theorem kl_X12_130 : Cond.constantLong RX12 130 23 ∈ tblG := tg 1415 (by decide +kernel) (by decide +kernel)
set_option maxHeartbeats 4000000 in
set_option maxRecDepth 100000 in
theorem n_in_0_23 (l : Launch) (G : g5_G) (sz : Nat) (p_x : Int32) : Met l yX12_in (wsG yX12_in cX12_in 6 (some .boolean)) ({ frames := 0, cells := 0, slots := 0, locals := 0 }) (va_Pc [.long p_x.toInt64, .long 0, .long 23] (g5_P G [] sz)) (va_Qi (fun (r : Int32) (u : va_W) => ((p_x.toInt < 0 ∨ 23 < p_x.toInt) ∧ (r = 0) ∧ (u = [])) ∨ ((0 ≤ p_x.toInt ∧ p_x.toInt ≤ 23) ∧ (r = 1) ∧ (u = []))) (g5_B G (va_A [] sz)) (va_A [] sz)) 0 0 (va_A [] sz) := by
  refine Met.ofW (cc := cX12_in) (maxL := 6) (ret := (some .boolean)) (by decide) rfl ?_
  intro p e s m args below meth c s₁ B hml hv
  obtain ⟨rfl, hsz, hP, hK, hD0, hN, hT⟩ := hv
  have hx := B.exec
  have hb := B.bytes
  have hr := B.returns
  have hts : ∀ w ∈ tblG, w.before _ s = true := fun w h => atoms_spec (ws := (wsG yX12_in cX12_in 6 (some .boolean))) B.pre w (List.mem_cons_of_mem _ h)
  have hown : s.vm.findClass RX12 = some m.cls := findClass_of_methodNamed B.named
  have hlocks := B.notSynchronized
  subst hsz
  have hD := hD0.self (sz := s.heap.size)
  generalize hAe : va_A [] s.heap.size = A at hD hT ⊢
  have hA : ∀ q : Nat, s.heap.size ≤ q → A q := fun q h => by rw [← hAe]; exact Or.inr h
  have hS : va_S A s.heap s.heap [] := va_S.rf
  have hP : va_P G.1 vwCl [] s.heap := hP
  have hl := lv_entry ([.long p_x.toInt64, .long 0, .long 23]) (n := 6) (Nat.le_of_ble_eq_true rfl)
  rw [lg_entry_eq]
  generalize (lg_sl ([.long p_x.toInt64, .long 0, .long 23]) ++ List.replicate (6 - (lg_sl ([.long p_x.toInt64, .long 0, .long 23])).length) Slot.unset).toArray = ls at hl ⊢
  have hl : lv_has ls 6 [(0, .long p_x.toInt64), (2, .long 0), (4, .long 23)] := hl
  refine lv_lload_n hx hb dX12_in_0 rfl (lv_at hl 0 rfl) ?_
  refine lv_lload_n hx hb dX12_in_1 rfl (lv_at hl 1 rfl) ?_
  have tl_1 : p_x.toInt64.toInt = p_x.toInt := Int32.toInt_toInt64 _
  have tl_2 : (0 : Int64).toInt = 0 := (by decide)
  have tc_3 := g5_cmpI p_x.toInt64 0
  refine W.lcmp hx hb dX12_in_2 ?_
  refine lv_if_lt (tgt := 17) hx hb dX12_in_3 (by decide) (fun c_4 => ?_) (fun c_4 => ?_)
  ·
    have i_4 : (lg_cmp p_x.toInt64 0).toInt < 0 := by have z := g5_lt (a := (lg_cmp p_x.toInt64 0).toInt) (b := 0) (by rfl) (by decide) c_4; omega
    refine lv_iconst (v := 0) hx hb dX12_in_17 (by decide) ?_
    exact W.zret (v := 0) hx hb hr rfl (fun t ht hW => ⟨⟨0, [], rfl, Or.inl (⟨by omega, rfl, rfl⟩), by rw [ht]; exact hP.sub [] rfl, hD.sub [] (by decide) rfl⟩, hS.F ht⟩) hS.2.2 dX12_in_18
  ·
    have i_4 : (lg_cmp p_x.toInt64 0).toInt ≥ 0 := by have z := g5_ltN (a := (lg_cmp p_x.toInt64 0).toInt) (b := 0) (by rfl) (by decide) c_4; omega
    refine lv_lload_n hx hb dX12_in_6 rfl (lv_at hl 0 rfl) ?_
    refine lv_lload hx hb dX12_in_7 (lv_at hl 2 rfl) ?_
    have tl_5 : p_x.toInt64.toInt = p_x.toInt := Int32.toInt_toInt64 _
    have tl_6 : (23 : Int64).toInt = 23 := (by decide)
    have tc_7 := g5_cmpI p_x.toInt64 23
    refine W.lcmp hx hb dX12_in_9 ?_
    refine lv_if_gt (tgt := 17) hx hb dX12_in_10 (by decide) (fun c_8 => ?_) (fun c_8 => ?_)
    ·
      have i_8 : (lg_cmp p_x.toInt64 23).toInt > 0 := by have z := g5_gt (a := (lg_cmp p_x.toInt64 23).toInt) (b := 0) (by rfl) (by decide) c_8; omega
      refine lv_iconst (v := 0) hx hb dX12_in_17 (by decide) ?_
      exact W.zret (v := 0) hx hb hr rfl (fun t ht hW => ⟨⟨0, [], rfl, Or.inl (⟨by omega, rfl, rfl⟩), by rw [ht]; exact hP.sub [] rfl, hD.sub [] (by decide) rfl⟩, hS.F ht⟩) hS.2.2 dX12_in_18
    ·
      have i_8 : (lg_cmp p_x.toInt64 23).toInt ≤ 0 := by have z := g5_gtN (a := (lg_cmp p_x.toInt64 23).toInt) (b := 0) (by rfl) (by decide) c_8; omega
      refine lv_iconst (v := 1) hx hb dX12_in_13 (by decide) ?_
      refine lv_goto (tgt := 18) hx hb dX12_in_14 (by decide) ?_
      exact W.zret (v := 1) hx hb hr rfl (fun t ht hW => ⟨⟨1, [], rfl, Or.inr (⟨by omega, rfl, rfl⟩), by rw [ht]; exact hP.sub [] rfl, hD.sub [] (by decide) rfl⟩, hS.F ht⟩) hS.2.2 dX12_in_18
set_option maxHeartbeats 4000000 in
set_option maxRecDepth 100000 in
theorem n_isHour (l : Launch) (G : g5_G) (sz : Nat) (p_0 : Int32) : Met l yX12_isHour (wsG yX12_isHour cX12_isHour 1 (some .boolean)) ({ frames := 1, cells := 0, slots := 0, locals := 25 }) (va_Pc [.int p_0] (g5_P G [] sz)) (va_Qi (fun (r : Int32) (u : va_W) => ((0 ≤ p_0.toInt ∧ p_0.toInt ≤ 23) ∧ (r = 1) ∧ (u = [])) ∨ ((r = 0) ∧ (u = []))) (g5_B G (va_A [] sz)) (va_A [] sz)) 0 0 (va_A [] sz) := by
  refine Met.ofW (cc := cX12_isHour) (maxL := 1) (ret := (some .boolean)) (by decide) rfl ?_
  intro p e s m args below meth c s₁ B hml hv
  obtain ⟨rfl, hsz, hP, hK, hD0, hN, hT⟩ := hv
  have hx := B.exec
  have hb := B.bytes
  have hr := B.returns
  have hts : ∀ w ∈ tblG, w.before _ s = true := fun w h => atoms_spec (ws := (wsG yX12_isHour cX12_isHour 1 (some .boolean))) B.pre w (List.mem_cons_of_mem _ h)
  have hown : s.vm.findClass RX12 = some m.cls := findClass_of_methodNamed B.named
  have hlocks := B.notSynchronized
  subst hsz
  have hD := hD0.self (sz := s.heap.size)
  generalize hAe : va_A [] s.heap.size = A at hD hT ⊢
  have hA : ∀ q : Nat, s.heap.size ≤ q → A q := fun q h => by rw [← hAe]; exact Or.inr h
  have hS : va_S A s.heap s.heap [] := va_S.rf
  have hP : va_P G.1 vwCl [] s.heap := hP
  have hl := lv_entry ([.int p_0]) (n := 1) (Nat.le_of_ble_eq_true rfl)
  rw [lg_entry_eq]
  generalize (lg_sl ([.int p_0]) ++ List.replicate (1 - (lg_sl ([.int p_0])).length) Slot.unset).toArray = ls at hl ⊢
  have hl : lv_has ls 1 [(0, .int p_0)] := hl
  refine lv_iload_n hx hb dX12_isHour_0 rfl (lv_at hl 0 rfl) ?_
  refine lv_i2l (v := p_0.toInt64) hx hb dX12_isHour_1 rfl ?_
  refine lv_lconst (v := 0) hx hb dX12_isHour_2 (by decide) ?_
  refine lv_ldc2 (v := 23) hx hb hown (hts _ kl_X12_130) dX12_isHour_3 ?_
  obtain ⟨hPc, hDc, hFc⟩ := g5_sub3 (wc := []) hP hD hS hA [] (by decide) rfl
  refine va_calli (va_runS (As := [.long p_0.toInt64, .long 0, .long 23]) (rest := []) ⟨hx, hb, hml, hown, hts⟩ (n_in_0_23 l G s.heap.size p_0) (va_cwS 3 hts gS_X12_121 rfl rfl rfl hs_X12_in ⟨Nat.le_of_ble_eq_true rfl, Nat.le_of_ble_eq_true rfl⟩) (g5_preS hPc hK hDc hN hT hS hFc) rfl rfl hl.1 rfl (lv_room (Nat.le_of_ble_eq_true rfl)) dX12_isHour_6 ⟨Nat.le_of_ble_eq_true rfl, Nat.le_of_ble_eq_true rfl⟩) hS (fun q _ h => hFc q h) hFc (fun r u t H1 locs ht hvm hw hB hz1 hk1 hS => ?_)
  obtain ⟨hP1, hD1⟩ := hB
  rw [ht] at hP1
  rcases hw with ⟨i_1, rfl, rfl⟩ | ⟨i_2, rfl, rfl⟩
  ·
    have i_1 : p_0.toInt < 0 ∨ 23 < p_0.toInt := i_1
    have hP := g5_same hP hk1
    generalize H1 = H at hP hS ⊢
    exact W.zret (v := 0) hx hb hr rfl (fun t ht hW => ⟨⟨0, [], rfl, Or.inr (⟨rfl, rfl⟩), by rw [ht]; exact hP.sub [] rfl, hD.sub [] (by decide) rfl⟩, hS.F ht⟩) hS.2.2 dX12_isHour_9
  ·
    have i_2 : 0 ≤ p_0.toInt ∧ p_0.toInt ≤ 23 := i_2
    have hP := g5_same hP hk1
    generalize H1 = H at hP hS ⊢
    exact W.zret (v := 1) hx hb hr rfl (fun t ht hW => ⟨⟨1, [], rfl, Or.inl (⟨i_2, rfl, rfl⟩), by rw [ht]; exact hP.sub [] rfl, hD.sub [] (by decide) rfl⟩, hS.F ht⟩) hS.2.2 dX12_isHour_9
theorem dgX12_isWay_0 : ∀ r ∈ ([(0, (.iload_n 0, 1)), (1, (.i2l, 1)), (2, (.lconst 0, 1)), (3, (.ldc2_w 132, 3)), (6, (.invokestatic 121, 3)), (9, (.ireturn, 1))] : List (Nat × (Instr × Nat))), decode cX12_isWay r.1 = .ok r.2 := by decide +kernel
theorem dX12_isWay_0 : decode cX12_isWay 0 = .ok (.iload_n 0, 1) := dgX12_isWay_0 (0, (.iload_n 0, 1)) (List.mem_of_getElem? (i := 0) rfl)
theorem dX12_isWay_1 : decode cX12_isWay 1 = .ok (.i2l, 1) := dgX12_isWay_0 (1, (.i2l, 1)) (List.mem_of_getElem? (i := 1) rfl)
theorem dX12_isWay_2 : decode cX12_isWay 2 = .ok (.lconst 0, 1) := dgX12_isWay_0 (2, (.lconst 0, 1)) (List.mem_of_getElem? (i := 2) rfl)
theorem dX12_isWay_3 : decode cX12_isWay 3 = .ok (.ldc2_w 132, 3) := dgX12_isWay_0 (3, (.ldc2_w 132, 3)) (List.mem_of_getElem? (i := 3) rfl)
theorem dX12_isWay_6 : decode cX12_isWay 6 = .ok (.invokestatic 121, 3) := dgX12_isWay_0 (6, (.invokestatic 121, 3)) (List.mem_of_getElem? (i := 4) rfl)
theorem dX12_isWay_9 : decode cX12_isWay 9 = .ok (.ireturn, 1) := dgX12_isWay_0 (9, (.ireturn, 1)) (List.mem_of_getElem? (i := 5) rfl)
theorem kl_X12_132 : Cond.constantLong RX12 132 3 ∈ tblG := tg 1609 (by decide +kernel) (by decide +kernel)
set_option maxHeartbeats 4000000 in
set_option maxRecDepth 100000 in
theorem n_in_0_3 (l : Launch) (G : g5_G) (sz : Nat) (p_x : Int32) : Met l yX12_in (wsG yX12_in cX12_in 6 (some .boolean)) ({ frames := 0, cells := 0, slots := 0, locals := 0 }) (va_Pc [.long p_x.toInt64, .long 0, .long 3] (g5_P G [] sz)) (va_Qi (fun (r : Int32) (u : va_W) => ((p_x.toInt < 0 ∨ 3 < p_x.toInt) ∧ (r = 0) ∧ (u = [])) ∨ ((0 ≤ p_x.toInt ∧ p_x.toInt ≤ 3) ∧ (r = 1) ∧ (u = []))) (g5_B G (va_A [] sz)) (va_A [] sz)) 0 0 (va_A [] sz) := by
  refine Met.ofW (cc := cX12_in) (maxL := 6) (ret := (some .boolean)) (by decide) rfl ?_
  intro p e s m args below meth c s₁ B hml hv
  obtain ⟨rfl, hsz, hP, hK, hD0, hN, hT⟩ := hv
  have hx := B.exec
  have hb := B.bytes
  have hr := B.returns
  have hts : ∀ w ∈ tblG, w.before _ s = true := fun w h => atoms_spec (ws := (wsG yX12_in cX12_in 6 (some .boolean))) B.pre w (List.mem_cons_of_mem _ h)
  have hown : s.vm.findClass RX12 = some m.cls := findClass_of_methodNamed B.named
  have hlocks := B.notSynchronized
  subst hsz
  have hD := hD0.self (sz := s.heap.size)
  generalize hAe : va_A [] s.heap.size = A at hD hT ⊢
  have hA : ∀ q : Nat, s.heap.size ≤ q → A q := fun q h => by rw [← hAe]; exact Or.inr h
  have hS : va_S A s.heap s.heap [] := va_S.rf
  have hP : va_P G.1 vwCl [] s.heap := hP
  have hl := lv_entry ([.long p_x.toInt64, .long 0, .long 3]) (n := 6) (Nat.le_of_ble_eq_true rfl)
  rw [lg_entry_eq]
  generalize (lg_sl ([.long p_x.toInt64, .long 0, .long 3]) ++ List.replicate (6 - (lg_sl ([.long p_x.toInt64, .long 0, .long 3])).length) Slot.unset).toArray = ls at hl ⊢
  have hl : lv_has ls 6 [(0, .long p_x.toInt64), (2, .long 0), (4, .long 3)] := hl
  refine lv_lload_n hx hb dX12_in_0 rfl (lv_at hl 0 rfl) ?_
  refine lv_lload_n hx hb dX12_in_1 rfl (lv_at hl 1 rfl) ?_
  have tl_1 : p_x.toInt64.toInt = p_x.toInt := Int32.toInt_toInt64 _
  have tl_2 : (0 : Int64).toInt = 0 := (by decide)
  have tc_3 := g5_cmpI p_x.toInt64 0
  refine W.lcmp hx hb dX12_in_2 ?_
  refine lv_if_lt (tgt := 17) hx hb dX12_in_3 (by decide) (fun c_4 => ?_) (fun c_4 => ?_)
  ·
    have i_4 : (lg_cmp p_x.toInt64 0).toInt < 0 := by have z := g5_lt (a := (lg_cmp p_x.toInt64 0).toInt) (b := 0) (by rfl) (by decide) c_4; omega
    refine lv_iconst (v := 0) hx hb dX12_in_17 (by decide) ?_
    exact W.zret (v := 0) hx hb hr rfl (fun t ht hW => ⟨⟨0, [], rfl, Or.inl (⟨by omega, rfl, rfl⟩), by rw [ht]; exact hP.sub [] rfl, hD.sub [] (by decide) rfl⟩, hS.F ht⟩) hS.2.2 dX12_in_18
  ·
    have i_4 : (lg_cmp p_x.toInt64 0).toInt ≥ 0 := by have z := g5_ltN (a := (lg_cmp p_x.toInt64 0).toInt) (b := 0) (by rfl) (by decide) c_4; omega
    refine lv_lload_n hx hb dX12_in_6 rfl (lv_at hl 0 rfl) ?_
    refine lv_lload hx hb dX12_in_7 (lv_at hl 2 rfl) ?_
    have tl_5 : p_x.toInt64.toInt = p_x.toInt := Int32.toInt_toInt64 _
    have tl_6 : (3 : Int64).toInt = 3 := (by decide)
    have tc_7 := g5_cmpI p_x.toInt64 3
    refine W.lcmp hx hb dX12_in_9 ?_
    refine lv_if_gt (tgt := 17) hx hb dX12_in_10 (by decide) (fun c_8 => ?_) (fun c_8 => ?_)
    ·
      have i_8 : (lg_cmp p_x.toInt64 3).toInt > 0 := by have z := g5_gt (a := (lg_cmp p_x.toInt64 3).toInt) (b := 0) (by rfl) (by decide) c_8; omega
      refine lv_iconst (v := 0) hx hb dX12_in_17 (by decide) ?_
      exact W.zret (v := 0) hx hb hr rfl (fun t ht hW => ⟨⟨0, [], rfl, Or.inl (⟨by omega, rfl, rfl⟩), by rw [ht]; exact hP.sub [] rfl, hD.sub [] (by decide) rfl⟩, hS.F ht⟩) hS.2.2 dX12_in_18
    ·
      have i_8 : (lg_cmp p_x.toInt64 3).toInt ≤ 0 := by have z := g5_gtN (a := (lg_cmp p_x.toInt64 3).toInt) (b := 0) (by rfl) (by decide) c_8; omega
      refine lv_iconst (v := 1) hx hb dX12_in_13 (by decide) ?_
      refine lv_goto (tgt := 18) hx hb dX12_in_14 (by decide) ?_
      exact W.zret (v := 1) hx hb hr rfl (fun t ht hW => ⟨⟨1, [], rfl, Or.inr (⟨by omega, rfl, rfl⟩), by rw [ht]; exact hP.sub [] rfl, hD.sub [] (by decide) rfl⟩, hS.F ht⟩) hS.2.2 dX12_in_18
set_option maxHeartbeats 4000000 in
set_option maxRecDepth 100000 in
theorem n_isWay (l : Launch) (G : g5_G) (sz : Nat) (p_0 : Int32) : Met l yX12_isWay (wsG yX12_isWay cX12_isWay 1 (some .boolean)) ({ frames := 1, cells := 0, slots := 0, locals := 25 }) (va_Pc [.int p_0] (g5_P G [] sz)) (va_Qi (fun (r : Int32) (u : va_W) => ((0 ≤ p_0.toInt ∧ p_0.toInt ≤ 3) ∧ (r = 1) ∧ (u = [])) ∨ ((r = 0) ∧ (u = []))) (g5_B G (va_A [] sz)) (va_A [] sz)) 0 0 (va_A [] sz) := by
  refine Met.ofW (cc := cX12_isWay) (maxL := 1) (ret := (some .boolean)) (by decide) rfl ?_
  intro p e s m args below meth c s₁ B hml hv
  obtain ⟨rfl, hsz, hP, hK, hD0, hN, hT⟩ := hv
  have hx := B.exec
  have hb := B.bytes
  have hr := B.returns
  have hts : ∀ w ∈ tblG, w.before _ s = true := fun w h => atoms_spec (ws := (wsG yX12_isWay cX12_isWay 1 (some .boolean))) B.pre w (List.mem_cons_of_mem _ h)
  have hown : s.vm.findClass RX12 = some m.cls := findClass_of_methodNamed B.named
  have hlocks := B.notSynchronized
  subst hsz
  have hD := hD0.self (sz := s.heap.size)
  generalize hAe : va_A [] s.heap.size = A at hD hT ⊢
  have hA : ∀ q : Nat, s.heap.size ≤ q → A q := fun q h => by rw [← hAe]; exact Or.inr h
  have hS : va_S A s.heap s.heap [] := va_S.rf
  have hP : va_P G.1 vwCl [] s.heap := hP
  have hl := lv_entry ([.int p_0]) (n := 1) (Nat.le_of_ble_eq_true rfl)
  rw [lg_entry_eq]
  generalize (lg_sl ([.int p_0]) ++ List.replicate (1 - (lg_sl ([.int p_0])).length) Slot.unset).toArray = ls at hl ⊢
  have hl : lv_has ls 1 [(0, .int p_0)] := hl
  refine lv_iload_n hx hb dX12_isWay_0 rfl (lv_at hl 0 rfl) ?_
  refine lv_i2l (v := p_0.toInt64) hx hb dX12_isWay_1 rfl ?_
  refine lv_lconst (v := 0) hx hb dX12_isWay_2 (by decide) ?_
  refine lv_ldc2 (v := 3) hx hb hown (hts _ kl_X12_132) dX12_isWay_3 ?_
  obtain ⟨hPc, hDc, hFc⟩ := g5_sub3 (wc := []) hP hD hS hA [] (by decide) rfl
  refine va_calli (va_runS (As := [.long p_0.toInt64, .long 0, .long 3]) (rest := []) ⟨hx, hb, hml, hown, hts⟩ (n_in_0_3 l G s.heap.size p_0) (va_cwS 3 hts gS_X12_121 rfl rfl rfl hs_X12_in ⟨Nat.le_of_ble_eq_true rfl, Nat.le_of_ble_eq_true rfl⟩) (g5_preS hPc hK hDc hN hT hS hFc) rfl rfl hl.1 rfl (lv_room (Nat.le_of_ble_eq_true rfl)) dX12_isWay_6 ⟨Nat.le_of_ble_eq_true rfl, Nat.le_of_ble_eq_true rfl⟩) hS (fun q _ h => hFc q h) hFc (fun r u t H1 locs ht hvm hw hB hz1 hk1 hS => ?_)
  obtain ⟨hP1, hD1⟩ := hB
  rw [ht] at hP1
  rcases hw with ⟨i_1, rfl, rfl⟩ | ⟨i_2, rfl, rfl⟩
  ·
    have i_1 : p_0.toInt < 0 ∨ 3 < p_0.toInt := i_1
    have hP := g5_same hP hk1
    generalize H1 = H at hP hS ⊢
    exact W.zret (v := 0) hx hb hr rfl (fun t ht hW => ⟨⟨0, [], rfl, Or.inr (⟨rfl, rfl⟩), by rw [ht]; exact hP.sub [] rfl, hD.sub [] (by decide) rfl⟩, hS.F ht⟩) hS.2.2 dX12_isWay_9
  ·
    have i_2 : 0 ≤ p_0.toInt ∧ p_0.toInt ≤ 3 := i_2
    have hP := g5_same hP hk1
    generalize H1 = H at hP hS ⊢
    exact W.zret (v := 1) hx hb hr rfl (fun t ht hW => ⟨⟨1, [], rfl, Or.inl (⟨i_2, rfl, rfl⟩), by rw [ht]; exact hP.sub [] rfl, hD.sub [] (by decide) rfl⟩, hS.F ht⟩) hS.2.2 dX12_isWay_9
theorem dgX12_isLook_0 : ∀ r ∈ ([(0, (.iload_n 0, 1)), (1, (.invokestatic 138, 3)), (4, (.ifCond .eq 21, 3)), (7, (.iload_n 1, 1)), (8, (.invokestatic 394, 3)), (11, (.ifCond .eq 14, 3)), (14, (.iload_n 2, 1)), (15, (.invokestatic 175, 3)), (18, (.ifCond .eq 7, 3)), (21, (.iconst 1, 1)), (22, (.goto 4, 3)), (25, (.iconst 0, 1)), (26, (.ireturn, 1))] : List (Nat × (Instr × Nat))), decode cX12_isLook r.1 = .ok r.2 := by decide +kernel
theorem dX12_isLook_0 : decode cX12_isLook 0 = .ok (.iload_n 0, 1) := dgX12_isLook_0 (0, (.iload_n 0, 1)) (List.mem_of_getElem? (i := 0) rfl)
theorem dX12_isLook_1 : decode cX12_isLook 1 = .ok (.invokestatic 138, 3) := dgX12_isLook_0 (1, (.invokestatic 138, 3)) (List.mem_of_getElem? (i := 1) rfl)
theorem dX12_isLook_4 : decode cX12_isLook 4 = .ok (.ifCond .eq 21, 3) := dgX12_isLook_0 (4, (.ifCond .eq 21, 3)) (List.mem_of_getElem? (i := 2) rfl)
theorem dX12_isLook_7 : decode cX12_isLook 7 = .ok (.iload_n 1, 1) := dgX12_isLook_0 (7, (.iload_n 1, 1)) (List.mem_of_getElem? (i := 3) rfl)
theorem dX12_isLook_8 : decode cX12_isLook 8 = .ok (.invokestatic 394, 3) := dgX12_isLook_0 (8, (.invokestatic 394, 3)) (List.mem_of_getElem? (i := 4) rfl)
theorem dX12_isLook_11 : decode cX12_isLook 11 = .ok (.ifCond .eq 14, 3) := dgX12_isLook_0 (11, (.ifCond .eq 14, 3)) (List.mem_of_getElem? (i := 5) rfl)
theorem dX12_isLook_14 : decode cX12_isLook 14 = .ok (.iload_n 2, 1) := dgX12_isLook_0 (14, (.iload_n 2, 1)) (List.mem_of_getElem? (i := 6) rfl)
theorem dX12_isLook_15 : decode cX12_isLook 15 = .ok (.invokestatic 175, 3) := dgX12_isLook_0 (15, (.invokestatic 175, 3)) (List.mem_of_getElem? (i := 7) rfl)
theorem dX12_isLook_18 : decode cX12_isLook 18 = .ok (.ifCond .eq 7, 3) := dgX12_isLook_0 (18, (.ifCond .eq 7, 3)) (List.mem_of_getElem? (i := 8) rfl)
theorem dX12_isLook_21 : decode cX12_isLook 21 = .ok (.iconst 1, 1) := dgX12_isLook_0 (21, (.iconst 1, 1)) (List.mem_of_getElem? (i := 9) rfl)
theorem dX12_isLook_22 : decode cX12_isLook 22 = .ok (.goto 4, 3) := dgX12_isLook_0 (22, (.goto 4, 3)) (List.mem_of_getElem? (i := 10) rfl)
theorem dX12_isLook_25 : decode cX12_isLook 25 = .ok (.iconst 0, 1) := dgX12_isLook_0 (25, (.iconst 0, 1)) (List.mem_of_getElem? (i := 11) rfl)
theorem dX12_isLook_26 : decode cX12_isLook 26 = .ok (.ireturn, 1) := dgX12_isLook_0 (26, (.ireturn, 1)) (List.mem_of_getElem? (i := 12) rfl)
theorem ml_X12_138 : Cond.methodLink RX12 138 yX12_isCell ∈ tblG := tg 1379 (by decide +kernel) (by decide +kernel)
theorem st_X12_isCell : Cond.static yX12_isCell ∈ tblG := tg 1380 (by decide +kernel) (by decide +kernel)
theorem cd_X12_isCell : Cond.code yX12_isCell cX12_isCell 1 (some .boolean) ∈ tblG := tg 1381 (by decide +kernel) (by decide +kernel)
theorem gW_X12_isCell : GoodIn tblG (wsG yX12_isCell cX12_isCell 1 (some .boolean)) := tgi cd_X12_isCell
theorem gS_X12_138 : GoodIn tblG (va_wsS RX12 138 yX12_isCell (wsG yX12_isCell cX12_isCell 1 (some .boolean))) := tgS ml_X12_138 st_X12_isCell ini_X12 gW_X12_isCell
theorem hs_X12_isCell : yX12_isCell.cls ≠ "java/lang/invoke/MethodHandle" ∧ yX12_isCell.cls ≠ "java/lang/invoke/VarHandle" ∧ (parseMethodDescriptor yX12_isCell.desc).map (fun d => d.parameters.length) = some 1 := by decide +kernel
theorem ml_X12_394 : Cond.methodLink RX12 394 yX12_isWay ∈ tblG := tg 1606 (by decide +kernel) (by decide +kernel)
theorem st_X12_isWay : Cond.static yX12_isWay ∈ tblG := tg 1607 (by decide +kernel) (by decide +kernel)
theorem cd_X12_isWay : Cond.code yX12_isWay cX12_isWay 1 (some .boolean) ∈ tblG := tg 1608 (by decide +kernel) (by decide +kernel)
theorem gW_X12_isWay : GoodIn tblG (wsG yX12_isWay cX12_isWay 1 (some .boolean)) := tgi cd_X12_isWay
theorem gS_X12_394 : GoodIn tblG (va_wsS RX12 394 yX12_isWay (wsG yX12_isWay cX12_isWay 1 (some .boolean))) := tgS ml_X12_394 st_X12_isWay ini_X12 gW_X12_isWay
theorem hs_X12_isWay : yX12_isWay.cls ≠ "java/lang/invoke/MethodHandle" ∧ yX12_isWay.cls ≠ "java/lang/invoke/VarHandle" ∧ (parseMethodDescriptor yX12_isWay.desc).map (fun d => d.parameters.length) = some 1 := by decide +kernel
theorem ml_X12_175 : Cond.methodLink RX12 175 yX12_isHour ∈ tblG := tg 1447 (by decide +kernel) (by decide +kernel)
theorem st_X12_isHour : Cond.static yX12_isHour ∈ tblG := tg 1448 (by decide +kernel) (by decide +kernel)
theorem cd_X12_isHour : Cond.code yX12_isHour cX12_isHour 1 (some .boolean) ∈ tblG := tg 1449 (by decide +kernel) (by decide +kernel)
theorem gW_X12_isHour : GoodIn tblG (wsG yX12_isHour cX12_isHour 1 (some .boolean)) := tgi cd_X12_isHour
theorem gS_X12_175 : GoodIn tblG (va_wsS RX12 175 yX12_isHour (wsG yX12_isHour cX12_isHour 1 (some .boolean))) := tgS ml_X12_175 st_X12_isHour ini_X12 gW_X12_isHour
theorem hs_X12_isHour : yX12_isHour.cls ≠ "java/lang/invoke/MethodHandle" ∧ yX12_isHour.cls ≠ "java/lang/invoke/VarHandle" ∧ (parseMethodDescriptor yX12_isHour.desc).map (fun d => d.parameters.length) = some 1 := by decide +kernel
set_option maxHeartbeats 4000000 in
set_option maxRecDepth 100000 in
theorem n_isLook (l : Launch) (G : g5_G) (sz : Nat) (p_0 : Int32) (p_1 : Int32) (p_2 : Int32) : Met l yX12_isLook (wsG yX12_isLook cX12_isLook 3 (some .boolean)) ({ frames := 2, cells := 0, slots := 0, locals := 45 }) (va_Pc [.int p_0, .int p_1, .int p_2] (g5_P G [] sz)) (va_Qi (fun (r : Int32) (u : va_W) => ((0 ≤ p_0.toInt ∧ p_0.toInt ≤ 63) ∧ (0 ≤ p_1.toInt ∧ p_1.toInt ≤ 3) ∧ (0 ≤ p_2.toInt ∧ p_2.toInt ≤ 23) ∧ (r = 1) ∧ (u = [])) ∨ ((r = 0) ∧ (u = []))) (g5_B G (va_A [] sz)) (va_A [] sz)) 0 0 (va_A [] sz) := by
  refine Met.ofW (cc := cX12_isLook) (maxL := 3) (ret := (some .boolean)) (by decide) rfl ?_
  intro p e s m args below meth c s₁ B hml hv
  obtain ⟨rfl, hsz, hP, hK, hD0, hN, hT⟩ := hv
  have hx := B.exec
  have hb := B.bytes
  have hr := B.returns
  have hts : ∀ w ∈ tblG, w.before _ s = true := fun w h => atoms_spec (ws := (wsG yX12_isLook cX12_isLook 3 (some .boolean))) B.pre w (List.mem_cons_of_mem _ h)
  have hown : s.vm.findClass RX12 = some m.cls := findClass_of_methodNamed B.named
  have hlocks := B.notSynchronized
  subst hsz
  have hD := hD0.self (sz := s.heap.size)
  generalize hAe : va_A [] s.heap.size = A at hD hT ⊢
  have hA : ∀ q : Nat, s.heap.size ≤ q → A q := fun q h => by rw [← hAe]; exact Or.inr h
  have hS : va_S A s.heap s.heap [] := va_S.rf
  have hP : va_P G.1 vwCl [] s.heap := hP
  have hl := lv_entry ([.int p_0, .int p_1, .int p_2]) (n := 3) (Nat.le_of_ble_eq_true rfl)
  rw [lg_entry_eq]
  generalize (lg_sl ([.int p_0, .int p_1, .int p_2]) ++ List.replicate (3 - (lg_sl ([.int p_0, .int p_1, .int p_2])).length) Slot.unset).toArray = ls at hl ⊢
  have hl : lv_has ls 3 [(0, .int p_0), (1, .int p_1), (2, .int p_2)] := hl
  refine lv_iload_n hx hb dX12_isLook_0 rfl (lv_at hl 0 rfl) ?_
  obtain ⟨hPc, hDc, hFc⟩ := g5_sub3 (wc := []) hP hD hS hA [] (by decide) rfl
  refine va_calli (va_runS (As := [.int p_0]) (rest := []) ⟨hx, hb, hml, hown, hts⟩ (n_isCell l G s.heap.size p_0) (va_cwS 1 hts gS_X12_138 rfl rfl rfl hs_X12_isCell ⟨Nat.le_of_ble_eq_true rfl, Nat.le_of_ble_eq_true rfl⟩) (g5_preS hPc hK hDc hN hT hS hFc) rfl rfl hl.1 rfl (lv_room (Nat.le_of_ble_eq_true rfl)) dX12_isLook_1 ⟨Nat.le_of_ble_eq_true rfl, Nat.le_of_ble_eq_true rfl⟩) hS (fun q _ h => hFc q h) hFc (fun r u t H1 locs ht hvm hw hB hz1 hk1 hS => ?_)
  obtain ⟨hP1, hD1⟩ := hB
  rw [ht] at hP1
  rcases hw with ⟨i_1, rfl, rfl⟩ | ⟨rfl, rfl⟩
  ·
    have i_1 : 0 ≤ p_0.toInt ∧ p_0.toInt ≤ 63 := i_1
    have hP := g5_same hP hk1
    generalize H1 = H at hP hS ⊢
    refine lv_if_eq (tgt := 25) hx hb dX12_isLook_4 (by decide) (fun c_2 => ?_) (fun c_2 => ?_)
    ·
      exact absurd c_2 (by decide)
    ·
      refine lv_iload_n hx hb dX12_isLook_7 rfl (lv_at hl 1 rfl) ?_
      obtain ⟨hPc, hDc, hFc⟩ := g5_sub3 (wc := []) hP hD hS hA [] (by decide) rfl
      refine va_calli (va_runS (As := [.int p_1]) (rest := []) ⟨hx, hb, hml, hown, hts⟩ (n_isWay l G H.size p_1) (va_cwS 1 hts gS_X12_394 rfl rfl rfl hs_X12_isWay ⟨Nat.le_of_ble_eq_true rfl, Nat.le_of_ble_eq_true rfl⟩) (g5_preS hPc hK hDc hN hT hS hFc) rfl rfl hl.1 rfl (lv_room (Nat.le_of_ble_eq_true rfl)) dX12_isLook_8 ⟨Nat.le_of_ble_eq_true rfl, Nat.le_of_ble_eq_true rfl⟩) hS (fun q _ h => hFc q h) hFc (fun r u t H1 locs ht hvm hw hB hz1 hk1 hS => ?_)
      obtain ⟨hP1, hD1⟩ := hB
      rw [ht] at hP1
      rcases hw with ⟨i_3, rfl, rfl⟩ | ⟨rfl, rfl⟩
      ·
        have i_3 : 0 ≤ p_1.toInt ∧ p_1.toInt ≤ 3 := i_3
        have hP := g5_same hP hk1
        generalize H1 = H at hP hS ⊢
        refine lv_if_eq (tgt := 25) hx hb dX12_isLook_11 (by decide) (fun c_4 => ?_) (fun c_4 => ?_)
        ·
          exact absurd c_4 (by decide)
        ·
          refine lv_iload_n hx hb dX12_isLook_14 rfl (lv_at hl 2 rfl) ?_
          obtain ⟨hPc, hDc, hFc⟩ := g5_sub3 (wc := []) hP hD hS hA [] (by decide) rfl
          refine va_calli (va_runS (As := [.int p_2]) (rest := []) ⟨hx, hb, hml, hown, hts⟩ (n_isHour l G H.size p_2) (va_cwS 1 hts gS_X12_175 rfl rfl rfl hs_X12_isHour ⟨Nat.le_of_ble_eq_true rfl, Nat.le_of_ble_eq_true rfl⟩) (g5_preS hPc hK hDc hN hT hS hFc) rfl rfl hl.1 rfl (lv_room (Nat.le_of_ble_eq_true rfl)) dX12_isLook_15 ⟨Nat.le_of_ble_eq_true rfl, Nat.le_of_ble_eq_true rfl⟩) hS (fun q _ h => hFc q h) hFc (fun r u t H1 locs ht hvm hw hB hz1 hk1 hS => ?_)
          obtain ⟨hP1, hD1⟩ := hB
          rw [ht] at hP1
          rcases hw with ⟨i_5, rfl, rfl⟩ | ⟨rfl, rfl⟩
          ·
            have i_5 : 0 ≤ p_2.toInt ∧ p_2.toInt ≤ 23 := i_5
            have hP := g5_same hP hk1
            generalize H1 = H at hP hS ⊢
            refine lv_if_eq (tgt := 25) hx hb dX12_isLook_18 (by decide) (fun c_6 => ?_) (fun c_6 => ?_)
            ·
              exact absurd c_6 (by decide)
            ·
              refine lv_iconst (v := 1) hx hb dX12_isLook_21 (by decide) ?_
              refine lv_goto (tgt := 26) hx hb dX12_isLook_22 (by decide) ?_
              exact W.zret (v := 1) hx hb hr rfl (fun t ht hW => ⟨⟨1, [], rfl, Or.inl (⟨i_1, i_3, i_5, rfl, rfl⟩), by rw [ht]; exact hP.sub [] rfl, hD.sub [] (by decide) rfl⟩, hS.F ht⟩) hS.2.2 dX12_isLook_26
          ·
            have hP := g5_same hP hk1
            generalize H1 = H at hP hS ⊢
            refine lv_if_eq (tgt := 25) hx hb dX12_isLook_18 (by decide) (fun c_7 => ?_) (fun c_7 => ?_)
            ·
              refine lv_iconst (v := 0) hx hb dX12_isLook_25 (by decide) ?_
              exact W.zret (v := 0) hx hb hr rfl (fun t ht hW => ⟨⟨0, [], rfl, Or.inr (⟨rfl, rfl⟩), by rw [ht]; exact hP.sub [] rfl, hD.sub [] (by decide) rfl⟩, hS.F ht⟩) hS.2.2 dX12_isLook_26
            ·
              exact absurd c_7 (by decide)
      ·
        have hP := g5_same hP hk1
        generalize H1 = H at hP hS ⊢
        refine lv_if_eq (tgt := 25) hx hb dX12_isLook_11 (by decide) (fun c_8 => ?_) (fun c_8 => ?_)
        ·
          refine lv_iconst (v := 0) hx hb dX12_isLook_25 (by decide) ?_
          exact W.zret (v := 0) hx hb hr rfl (fun t ht hW => ⟨⟨0, [], rfl, Or.inr (⟨rfl, rfl⟩), by rw [ht]; exact hP.sub [] rfl, hD.sub [] (by decide) rfl⟩, hS.F ht⟩) hS.2.2 dX12_isLook_26
        ·
          exact absurd c_8 (by decide)
  ·
    have hP := g5_same hP hk1
    generalize H1 = H at hP hS ⊢
    refine lv_if_eq (tgt := 25) hx hb dX12_isLook_4 (by decide) (fun c_9 => ?_) (fun c_9 => ?_)
    ·
      refine lv_iconst (v := 0) hx hb dX12_isLook_25 (by decide) ?_
      exact W.zret (v := 0) hx hb hr rfl (fun t ht hW => ⟨⟨0, [], rfl, Or.inr (⟨rfl, rfl⟩), by rw [ht]; exact hP.sub [] rfl, hD.sub [] (by decide) rfl⟩, hS.F ht⟩) hS.2.2 dX12_isLook_26
    ·
      exact absurd c_9 (by decide)
theorem dgX12_fits_0 : ∀ r ∈ ([(0, (.iload_n 0, 1)), (1, (.tableswitch 71 0 3 #[31, 41, 51, 61], 31)), (32, (.iload_n 1, 1)), (33, (.i2l, 1)), (34, (.lconst 0, 1)), (35, (.ldc2_w 154, 3)), (38, (.invokestatic 121, 3)), (41, (.ireturn, 1)), (42, (.iload_n 1, 1)), (43, (.i2l, 1)), (44, (.lconst 0, 1)), (45, (.ldc2_w 130, 3)), (48, (.invokestatic 121, 3)), (51, (.ireturn, 1)), (52, (.iload_n 1, 1)), (53, (.i2l, 1)), (54, (.lconst 0, 1)), (55, (.ldc2_w 156, 3)), (58, (.invokestatic 121, 3)), (61, (.ireturn, 1)), (62, (.iload_n 1, 1)), (63, (.i2l, 1)), (64, (.lconst 0, 1)), (65, (.ldc2_w 158, 3)), (68, (.invokestatic 121, 3)), (71, (.ireturn, 1)), (72, (.iconst 0, 1)), (73, (.ireturn, 1))] : List (Nat × (Instr × Nat))), decode cX12_fits r.1 = .ok r.2 := by decide +kernel
theorem dX12_fits_0 : decode cX12_fits 0 = .ok (.iload_n 0, 1) := dgX12_fits_0 (0, (.iload_n 0, 1)) (List.mem_of_getElem? (i := 0) rfl)
theorem dX12_fits_1 : decode cX12_fits 1 = .ok (.tableswitch 71 0 3 #[31, 41, 51, 61], 31) := dgX12_fits_0 (1, (.tableswitch 71 0 3 #[31, 41, 51, 61], 31)) (List.mem_of_getElem? (i := 1) rfl)
theorem dX12_fits_32 : decode cX12_fits 32 = .ok (.iload_n 1, 1) := dgX12_fits_0 (32, (.iload_n 1, 1)) (List.mem_of_getElem? (i := 2) rfl)
theorem dX12_fits_33 : decode cX12_fits 33 = .ok (.i2l, 1) := dgX12_fits_0 (33, (.i2l, 1)) (List.mem_of_getElem? (i := 3) rfl)
theorem dX12_fits_34 : decode cX12_fits 34 = .ok (.lconst 0, 1) := dgX12_fits_0 (34, (.lconst 0, 1)) (List.mem_of_getElem? (i := 4) rfl)
theorem dX12_fits_35 : decode cX12_fits 35 = .ok (.ldc2_w 154, 3) := dgX12_fits_0 (35, (.ldc2_w 154, 3)) (List.mem_of_getElem? (i := 5) rfl)
theorem dX12_fits_38 : decode cX12_fits 38 = .ok (.invokestatic 121, 3) := dgX12_fits_0 (38, (.invokestatic 121, 3)) (List.mem_of_getElem? (i := 6) rfl)
theorem dX12_fits_41 : decode cX12_fits 41 = .ok (.ireturn, 1) := dgX12_fits_0 (41, (.ireturn, 1)) (List.mem_of_getElem? (i := 7) rfl)
theorem dX12_fits_42 : decode cX12_fits 42 = .ok (.iload_n 1, 1) := dgX12_fits_0 (42, (.iload_n 1, 1)) (List.mem_of_getElem? (i := 8) rfl)
theorem dX12_fits_43 : decode cX12_fits 43 = .ok (.i2l, 1) := dgX12_fits_0 (43, (.i2l, 1)) (List.mem_of_getElem? (i := 9) rfl)
theorem dX12_fits_44 : decode cX12_fits 44 = .ok (.lconst 0, 1) := dgX12_fits_0 (44, (.lconst 0, 1)) (List.mem_of_getElem? (i := 10) rfl)
theorem dX12_fits_45 : decode cX12_fits 45 = .ok (.ldc2_w 130, 3) := dgX12_fits_0 (45, (.ldc2_w 130, 3)) (List.mem_of_getElem? (i := 11) rfl)
theorem dX12_fits_48 : decode cX12_fits 48 = .ok (.invokestatic 121, 3) := dgX12_fits_0 (48, (.invokestatic 121, 3)) (List.mem_of_getElem? (i := 12) rfl)
theorem dX12_fits_51 : decode cX12_fits 51 = .ok (.ireturn, 1) := dgX12_fits_0 (51, (.ireturn, 1)) (List.mem_of_getElem? (i := 13) rfl)
theorem dX12_fits_52 : decode cX12_fits 52 = .ok (.iload_n 1, 1) := dgX12_fits_0 (52, (.iload_n 1, 1)) (List.mem_of_getElem? (i := 14) rfl)
theorem dX12_fits_53 : decode cX12_fits 53 = .ok (.i2l, 1) := dgX12_fits_0 (53, (.i2l, 1)) (List.mem_of_getElem? (i := 15) rfl)
theorem dX12_fits_54 : decode cX12_fits 54 = .ok (.lconst 0, 1) := dgX12_fits_0 (54, (.lconst 0, 1)) (List.mem_of_getElem? (i := 16) rfl)
theorem dX12_fits_55 : decode cX12_fits 55 = .ok (.ldc2_w 156, 3) := dgX12_fits_0 (55, (.ldc2_w 156, 3)) (List.mem_of_getElem? (i := 17) rfl)
theorem dX12_fits_58 : decode cX12_fits 58 = .ok (.invokestatic 121, 3) := dgX12_fits_0 (58, (.invokestatic 121, 3)) (List.mem_of_getElem? (i := 18) rfl)
theorem dX12_fits_61 : decode cX12_fits 61 = .ok (.ireturn, 1) := dgX12_fits_0 (61, (.ireturn, 1)) (List.mem_of_getElem? (i := 19) rfl)
theorem dX12_fits_62 : decode cX12_fits 62 = .ok (.iload_n 1, 1) := dgX12_fits_0 (62, (.iload_n 1, 1)) (List.mem_of_getElem? (i := 20) rfl)
theorem dX12_fits_63 : decode cX12_fits 63 = .ok (.i2l, 1) := dgX12_fits_0 (63, (.i2l, 1)) (List.mem_of_getElem? (i := 21) rfl)
theorem dX12_fits_64 : decode cX12_fits 64 = .ok (.lconst 0, 1) := dgX12_fits_0 (64, (.lconst 0, 1)) (List.mem_of_getElem? (i := 22) rfl)
theorem dX12_fits_65 : decode cX12_fits 65 = .ok (.ldc2_w 158, 3) := dgX12_fits_0 (65, (.ldc2_w 158, 3)) (List.mem_of_getElem? (i := 23) rfl)
theorem dX12_fits_68 : decode cX12_fits 68 = .ok (.invokestatic 121, 3) := dgX12_fits_0 (68, (.invokestatic 121, 3)) (List.mem_of_getElem? (i := 24) rfl)
theorem dX12_fits_71 : decode cX12_fits 71 = .ok (.ireturn, 1) := dgX12_fits_0 (71, (.ireturn, 1)) (List.mem_of_getElem? (i := 25) rfl)
theorem dX12_fits_72 : decode cX12_fits 72 = .ok (.iconst 0, 1) := dgX12_fits_0 (72, (.iconst 0, 1)) (List.mem_of_getElem? (i := 26) rfl)
theorem dX12_fits_73 : decode cX12_fits 73 = .ok (.ireturn, 1) := dgX12_fits_0 (73, (.ireturn, 1)) (List.mem_of_getElem? (i := 27) rfl)
theorem kl_X12_154 : Cond.constantLong RX12 154 5 ∈ tblG := tg 1414 (by decide +kernel) (by decide +kernel)
set_option maxHeartbeats 4000000 in
set_option maxRecDepth 100000 in
theorem n_in_0_5 (l : Launch) (G : g5_G) (sz : Nat) (p_x : Int32) : Met l yX12_in (wsG yX12_in cX12_in 6 (some .boolean)) ({ frames := 0, cells := 0, slots := 0, locals := 0 }) (va_Pc [.long p_x.toInt64, .long 0, .long 5] (g5_P G [] sz)) (va_Qi (fun (r : Int32) (u : va_W) => ((p_x.toInt < 0 ∨ 5 < p_x.toInt) ∧ (r = 0) ∧ (u = [])) ∨ ((0 ≤ p_x.toInt ∧ p_x.toInt ≤ 5) ∧ (r = 1) ∧ (u = []))) (g5_B G (va_A [] sz)) (va_A [] sz)) 0 0 (va_A [] sz) := by
  refine Met.ofW (cc := cX12_in) (maxL := 6) (ret := (some .boolean)) (by decide) rfl ?_
  intro p e s m args below meth c s₁ B hml hv
  obtain ⟨rfl, hsz, hP, hK, hD0, hN, hT⟩ := hv
  have hx := B.exec
  have hb := B.bytes
  have hr := B.returns
  have hts : ∀ w ∈ tblG, w.before _ s = true := fun w h => atoms_spec (ws := (wsG yX12_in cX12_in 6 (some .boolean))) B.pre w (List.mem_cons_of_mem _ h)
  have hown : s.vm.findClass RX12 = some m.cls := findClass_of_methodNamed B.named
  have hlocks := B.notSynchronized
  subst hsz
  have hD := hD0.self (sz := s.heap.size)
  generalize hAe : va_A [] s.heap.size = A at hD hT ⊢
  have hA : ∀ q : Nat, s.heap.size ≤ q → A q := fun q h => by rw [← hAe]; exact Or.inr h
  have hS : va_S A s.heap s.heap [] := va_S.rf
  have hP : va_P G.1 vwCl [] s.heap := hP
  have hl := lv_entry ([.long p_x.toInt64, .long 0, .long 5]) (n := 6) (Nat.le_of_ble_eq_true rfl)
  rw [lg_entry_eq]
  generalize (lg_sl ([.long p_x.toInt64, .long 0, .long 5]) ++ List.replicate (6 - (lg_sl ([.long p_x.toInt64, .long 0, .long 5])).length) Slot.unset).toArray = ls at hl ⊢
  have hl : lv_has ls 6 [(0, .long p_x.toInt64), (2, .long 0), (4, .long 5)] := hl
  refine lv_lload_n hx hb dX12_in_0 rfl (lv_at hl 0 rfl) ?_
  refine lv_lload_n hx hb dX12_in_1 rfl (lv_at hl 1 rfl) ?_
  have tl_1 : p_x.toInt64.toInt = p_x.toInt := Int32.toInt_toInt64 _
  have tl_2 : (0 : Int64).toInt = 0 := (by decide)
  have tc_3 := g5_cmpI p_x.toInt64 0
  refine W.lcmp hx hb dX12_in_2 ?_
  refine lv_if_lt (tgt := 17) hx hb dX12_in_3 (by decide) (fun c_4 => ?_) (fun c_4 => ?_)
  ·
    have i_4 : (lg_cmp p_x.toInt64 0).toInt < 0 := by have z := g5_lt (a := (lg_cmp p_x.toInt64 0).toInt) (b := 0) (by rfl) (by decide) c_4; omega
    refine lv_iconst (v := 0) hx hb dX12_in_17 (by decide) ?_
    exact W.zret (v := 0) hx hb hr rfl (fun t ht hW => ⟨⟨0, [], rfl, Or.inl (⟨by omega, rfl, rfl⟩), by rw [ht]; exact hP.sub [] rfl, hD.sub [] (by decide) rfl⟩, hS.F ht⟩) hS.2.2 dX12_in_18
  ·
    have i_4 : (lg_cmp p_x.toInt64 0).toInt ≥ 0 := by have z := g5_ltN (a := (lg_cmp p_x.toInt64 0).toInt) (b := 0) (by rfl) (by decide) c_4; omega
    refine lv_lload_n hx hb dX12_in_6 rfl (lv_at hl 0 rfl) ?_
    refine lv_lload hx hb dX12_in_7 (lv_at hl 2 rfl) ?_
    have tl_5 : p_x.toInt64.toInt = p_x.toInt := Int32.toInt_toInt64 _
    have tl_6 : (5 : Int64).toInt = 5 := (by decide)
    have tc_7 := g5_cmpI p_x.toInt64 5
    refine W.lcmp hx hb dX12_in_9 ?_
    refine lv_if_gt (tgt := 17) hx hb dX12_in_10 (by decide) (fun c_8 => ?_) (fun c_8 => ?_)
    ·
      have i_8 : (lg_cmp p_x.toInt64 5).toInt > 0 := by have z := g5_gt (a := (lg_cmp p_x.toInt64 5).toInt) (b := 0) (by rfl) (by decide) c_8; omega
      refine lv_iconst (v := 0) hx hb dX12_in_17 (by decide) ?_
      exact W.zret (v := 0) hx hb hr rfl (fun t ht hW => ⟨⟨0, [], rfl, Or.inl (⟨by omega, rfl, rfl⟩), by rw [ht]; exact hP.sub [] rfl, hD.sub [] (by decide) rfl⟩, hS.F ht⟩) hS.2.2 dX12_in_18
    ·
      have i_8 : (lg_cmp p_x.toInt64 5).toInt ≤ 0 := by have z := g5_gtN (a := (lg_cmp p_x.toInt64 5).toInt) (b := 0) (by rfl) (by decide) c_8; omega
      refine lv_iconst (v := 1) hx hb dX12_in_13 (by decide) ?_
      refine lv_goto (tgt := 18) hx hb dX12_in_14 (by decide) ?_
      exact W.zret (v := 1) hx hb hr rfl (fun t ht hW => ⟨⟨1, [], rfl, Or.inr (⟨by omega, rfl, rfl⟩), by rw [ht]; exact hP.sub [] rfl, hD.sub [] (by decide) rfl⟩, hS.F ht⟩) hS.2.2 dX12_in_18
theorem kl_X12_156 : Cond.constantLong RX12 156 10 ∈ tblG := tg 1416 (by decide +kernel) (by decide +kernel)
set_option maxHeartbeats 4000000 in
set_option maxRecDepth 100000 in
theorem n_in_0_10 (l : Launch) (G : g5_G) (sz : Nat) (p_x : Int32) : Met l yX12_in (wsG yX12_in cX12_in 6 (some .boolean)) ({ frames := 0, cells := 0, slots := 0, locals := 0 }) (va_Pc [.long p_x.toInt64, .long 0, .long 10] (g5_P G [] sz)) (va_Qi (fun (r : Int32) (u : va_W) => ((p_x.toInt < 0 ∨ 10 < p_x.toInt) ∧ (r = 0) ∧ (u = [])) ∨ ((0 ≤ p_x.toInt ∧ p_x.toInt ≤ 10) ∧ (r = 1) ∧ (u = []))) (g5_B G (va_A [] sz)) (va_A [] sz)) 0 0 (va_A [] sz) := by
  refine Met.ofW (cc := cX12_in) (maxL := 6) (ret := (some .boolean)) (by decide) rfl ?_
  intro p e s m args below meth c s₁ B hml hv
  obtain ⟨rfl, hsz, hP, hK, hD0, hN, hT⟩ := hv
  have hx := B.exec
  have hb := B.bytes
  have hr := B.returns
  have hts : ∀ w ∈ tblG, w.before _ s = true := fun w h => atoms_spec (ws := (wsG yX12_in cX12_in 6 (some .boolean))) B.pre w (List.mem_cons_of_mem _ h)
  have hown : s.vm.findClass RX12 = some m.cls := findClass_of_methodNamed B.named
  have hlocks := B.notSynchronized
  subst hsz
  have hD := hD0.self (sz := s.heap.size)
  generalize hAe : va_A [] s.heap.size = A at hD hT ⊢
  have hA : ∀ q : Nat, s.heap.size ≤ q → A q := fun q h => by rw [← hAe]; exact Or.inr h
  have hS : va_S A s.heap s.heap [] := va_S.rf
  have hP : va_P G.1 vwCl [] s.heap := hP
  have hl := lv_entry ([.long p_x.toInt64, .long 0, .long 10]) (n := 6) (Nat.le_of_ble_eq_true rfl)
  rw [lg_entry_eq]
  generalize (lg_sl ([.long p_x.toInt64, .long 0, .long 10]) ++ List.replicate (6 - (lg_sl ([.long p_x.toInt64, .long 0, .long 10])).length) Slot.unset).toArray = ls at hl ⊢
  have hl : lv_has ls 6 [(0, .long p_x.toInt64), (2, .long 0), (4, .long 10)] := hl
  refine lv_lload_n hx hb dX12_in_0 rfl (lv_at hl 0 rfl) ?_
  refine lv_lload_n hx hb dX12_in_1 rfl (lv_at hl 1 rfl) ?_
  have tl_1 : p_x.toInt64.toInt = p_x.toInt := Int32.toInt_toInt64 _
  have tl_2 : (0 : Int64).toInt = 0 := (by decide)
  have tc_3 := g5_cmpI p_x.toInt64 0
  refine W.lcmp hx hb dX12_in_2 ?_
  refine lv_if_lt (tgt := 17) hx hb dX12_in_3 (by decide) (fun c_4 => ?_) (fun c_4 => ?_)
  ·
    have i_4 : (lg_cmp p_x.toInt64 0).toInt < 0 := by have z := g5_lt (a := (lg_cmp p_x.toInt64 0).toInt) (b := 0) (by rfl) (by decide) c_4; omega
    refine lv_iconst (v := 0) hx hb dX12_in_17 (by decide) ?_
    exact W.zret (v := 0) hx hb hr rfl (fun t ht hW => ⟨⟨0, [], rfl, Or.inl (⟨by omega, rfl, rfl⟩), by rw [ht]; exact hP.sub [] rfl, hD.sub [] (by decide) rfl⟩, hS.F ht⟩) hS.2.2 dX12_in_18
  ·
    have i_4 : (lg_cmp p_x.toInt64 0).toInt ≥ 0 := by have z := g5_ltN (a := (lg_cmp p_x.toInt64 0).toInt) (b := 0) (by rfl) (by decide) c_4; omega
    refine lv_lload_n hx hb dX12_in_6 rfl (lv_at hl 0 rfl) ?_
    refine lv_lload hx hb dX12_in_7 (lv_at hl 2 rfl) ?_
    have tl_5 : p_x.toInt64.toInt = p_x.toInt := Int32.toInt_toInt64 _
    have tl_6 : (10 : Int64).toInt = 10 := (by decide)
    have tc_7 := g5_cmpI p_x.toInt64 10
    refine W.lcmp hx hb dX12_in_9 ?_
    refine lv_if_gt (tgt := 17) hx hb dX12_in_10 (by decide) (fun c_8 => ?_) (fun c_8 => ?_)
    ·
      have i_8 : (lg_cmp p_x.toInt64 10).toInt > 0 := by have z := g5_gt (a := (lg_cmp p_x.toInt64 10).toInt) (b := 0) (by rfl) (by decide) c_8; omega
      refine lv_iconst (v := 0) hx hb dX12_in_17 (by decide) ?_
      exact W.zret (v := 0) hx hb hr rfl (fun t ht hW => ⟨⟨0, [], rfl, Or.inl (⟨by omega, rfl, rfl⟩), by rw [ht]; exact hP.sub [] rfl, hD.sub [] (by decide) rfl⟩, hS.F ht⟩) hS.2.2 dX12_in_18
    ·
      have i_8 : (lg_cmp p_x.toInt64 10).toInt ≤ 0 := by have z := g5_gtN (a := (lg_cmp p_x.toInt64 10).toInt) (b := 0) (by rfl) (by decide) c_8; omega
      refine lv_iconst (v := 1) hx hb dX12_in_13 (by decide) ?_
      refine lv_goto (tgt := 18) hx hb dX12_in_14 (by decide) ?_
      exact W.zret (v := 1) hx hb hr rfl (fun t ht hW => ⟨⟨1, [], rfl, Or.inr (⟨by omega, rfl, rfl⟩), by rw [ht]; exact hP.sub [] rfl, hD.sub [] (by decide) rfl⟩, hS.F ht⟩) hS.2.2 dX12_in_18
theorem kl_X12_158 : Cond.constantLong RX12 158 16777215 ∈ tblG := tg 1417 (by decide +kernel) (by decide +kernel)
set_option maxHeartbeats 4000000 in
set_option maxRecDepth 100000 in
theorem n_in_0_16777215 (l : Launch) (G : g5_G) (sz : Nat) (p_x : Int32) : Met l yX12_in (wsG yX12_in cX12_in 6 (some .boolean)) ({ frames := 0, cells := 0, slots := 0, locals := 0 }) (va_Pc [.long p_x.toInt64, .long 0, .long 16777215] (g5_P G [] sz)) (va_Qi (fun (r : Int32) (u : va_W) => ((p_x.toInt < 0 ∨ 16777215 < p_x.toInt) ∧ (r = 0) ∧ (u = [])) ∨ ((0 ≤ p_x.toInt ∧ p_x.toInt ≤ 16777215) ∧ (r = 1) ∧ (u = []))) (g5_B G (va_A [] sz)) (va_A [] sz)) 0 0 (va_A [] sz) := by
  refine Met.ofW (cc := cX12_in) (maxL := 6) (ret := (some .boolean)) (by decide) rfl ?_
  intro p e s m args below meth c s₁ B hml hv
  obtain ⟨rfl, hsz, hP, hK, hD0, hN, hT⟩ := hv
  have hx := B.exec
  have hb := B.bytes
  have hr := B.returns
  have hts : ∀ w ∈ tblG, w.before _ s = true := fun w h => atoms_spec (ws := (wsG yX12_in cX12_in 6 (some .boolean))) B.pre w (List.mem_cons_of_mem _ h)
  have hown : s.vm.findClass RX12 = some m.cls := findClass_of_methodNamed B.named
  have hlocks := B.notSynchronized
  subst hsz
  have hD := hD0.self (sz := s.heap.size)
  generalize hAe : va_A [] s.heap.size = A at hD hT ⊢
  have hA : ∀ q : Nat, s.heap.size ≤ q → A q := fun q h => by rw [← hAe]; exact Or.inr h
  have hS : va_S A s.heap s.heap [] := va_S.rf
  have hP : va_P G.1 vwCl [] s.heap := hP
  have hl := lv_entry ([.long p_x.toInt64, .long 0, .long 16777215]) (n := 6) (Nat.le_of_ble_eq_true rfl)
  rw [lg_entry_eq]
  generalize (lg_sl ([.long p_x.toInt64, .long 0, .long 16777215]) ++ List.replicate (6 - (lg_sl ([.long p_x.toInt64, .long 0, .long 16777215])).length) Slot.unset).toArray = ls at hl ⊢
  have hl : lv_has ls 6 [(0, .long p_x.toInt64), (2, .long 0), (4, .long 16777215)] := hl
  refine lv_lload_n hx hb dX12_in_0 rfl (lv_at hl 0 rfl) ?_
  refine lv_lload_n hx hb dX12_in_1 rfl (lv_at hl 1 rfl) ?_
  have tl_1 : p_x.toInt64.toInt = p_x.toInt := Int32.toInt_toInt64 _
  have tl_2 : (0 : Int64).toInt = 0 := (by decide)
  have tc_3 := g5_cmpI p_x.toInt64 0
  refine W.lcmp hx hb dX12_in_2 ?_
  refine lv_if_lt (tgt := 17) hx hb dX12_in_3 (by decide) (fun c_4 => ?_) (fun c_4 => ?_)
  ·
    have i_4 : (lg_cmp p_x.toInt64 0).toInt < 0 := by have z := g5_lt (a := (lg_cmp p_x.toInt64 0).toInt) (b := 0) (by rfl) (by decide) c_4; omega
    refine lv_iconst (v := 0) hx hb dX12_in_17 (by decide) ?_
    exact W.zret (v := 0) hx hb hr rfl (fun t ht hW => ⟨⟨0, [], rfl, Or.inl (⟨by omega, rfl, rfl⟩), by rw [ht]; exact hP.sub [] rfl, hD.sub [] (by decide) rfl⟩, hS.F ht⟩) hS.2.2 dX12_in_18
  ·
    have i_4 : (lg_cmp p_x.toInt64 0).toInt ≥ 0 := by have z := g5_ltN (a := (lg_cmp p_x.toInt64 0).toInt) (b := 0) (by rfl) (by decide) c_4; omega
    refine lv_lload_n hx hb dX12_in_6 rfl (lv_at hl 0 rfl) ?_
    refine lv_lload hx hb dX12_in_7 (lv_at hl 2 rfl) ?_
    have tl_5 : p_x.toInt64.toInt = p_x.toInt := Int32.toInt_toInt64 _
    have tl_6 : (16777215 : Int64).toInt = 16777215 := (by decide)
    have tc_7 := g5_cmpI p_x.toInt64 16777215
    refine W.lcmp hx hb dX12_in_9 ?_
    refine lv_if_gt (tgt := 17) hx hb dX12_in_10 (by decide) (fun c_8 => ?_) (fun c_8 => ?_)
    ·
      have i_8 : (lg_cmp p_x.toInt64 16777215).toInt > 0 := by have z := g5_gt (a := (lg_cmp p_x.toInt64 16777215).toInt) (b := 0) (by rfl) (by decide) c_8; omega
      refine lv_iconst (v := 0) hx hb dX12_in_17 (by decide) ?_
      exact W.zret (v := 0) hx hb hr rfl (fun t ht hW => ⟨⟨0, [], rfl, Or.inl (⟨by omega, rfl, rfl⟩), by rw [ht]; exact hP.sub [] rfl, hD.sub [] (by decide) rfl⟩, hS.F ht⟩) hS.2.2 dX12_in_18
    ·
      have i_8 : (lg_cmp p_x.toInt64 16777215).toInt ≤ 0 := by have z := g5_gtN (a := (lg_cmp p_x.toInt64 16777215).toInt) (b := 0) (by rfl) (by decide) c_8; omega
      refine lv_iconst (v := 1) hx hb dX12_in_13 (by decide) ?_
      refine lv_goto (tgt := 18) hx hb dX12_in_14 (by decide) ?_
      exact W.zret (v := 1) hx hb hr rfl (fun t ht hW => ⟨⟨1, [], rfl, Or.inr (⟨by omega, rfl, rfl⟩), by rw [ht]; exact hP.sub [] rfl, hD.sub [] (by decide) rfl⟩, hS.F ht⟩) hS.2.2 dX12_in_18
theorem dgX12_beside_0 : ∀ r ∈ ([(0, (.iload_n 1, 1)), (1, (.tableswitch 74 0 2 #[27, 42, 59], 27)), (28, (.iload_n 0, 1)), (29, (.bipush 8, 2)), (31, (.if_icmp .lt 10, 3)), (34, (.iload_n 0, 1)), (35, (.bipush 8, 2)), (37, (.isub, 1)), (38, (.goto 4, 3)), (41, (.iconst (-1), 1)), (42, (.ireturn, 1)), (43, (.iload_n 0, 1)), (44, (.bipush 8, 2)), (46, (.irem, 1)), (47, (.bipush 7, 2)), (49, (.if_icmp .ge 9, 3)), (52, (.iload_n 0, 1)), (53, (.iconst 1, 1)), (54, (.iadd, 1)), (55, (.goto 4, 3)), (58, (.iconst (-1), 1)), (59, (.ireturn, 1)), (60, (.iload_n 0, 1)), (61, (.bipush 56, 2)), (63, (.if_icmp .ge 10, 3)), (66, (.iload_n 0, 1)), (67, (.bipush 8, 2)), (69, (.iadd, 1)), (70, (.goto 4, 3)), (73, (.iconst (-1), 1)), (74, (.ireturn, 1)), (75, (.iload_n 0, 1)), (76, (.bipush 8, 2)), (78, (.irem, 1)), (79, (.ifCond .le 9, 3)), (82, (.iload_n 0, 1)), (83, (.iconst 1, 1)), (84, (.isub, 1)), (85, (.goto 4, 3)), (88, (.iconst (-1), 1))] : List (Nat × (Instr × Nat))), decode cX12_beside r.1 = .ok r.2 := by decide +kernel
theorem dX12_beside_0 : decode cX12_beside 0 = .ok (.iload_n 1, 1) := dgX12_beside_0 (0, (.iload_n 1, 1)) (List.mem_of_getElem? (i := 0) rfl)
theorem dX12_beside_1 : decode cX12_beside 1 = .ok (.tableswitch 74 0 2 #[27, 42, 59], 27) := dgX12_beside_0 (1, (.tableswitch 74 0 2 #[27, 42, 59], 27)) (List.mem_of_getElem? (i := 1) rfl)
theorem dX12_beside_28 : decode cX12_beside 28 = .ok (.iload_n 0, 1) := dgX12_beside_0 (28, (.iload_n 0, 1)) (List.mem_of_getElem? (i := 2) rfl)
theorem dX12_beside_29 : decode cX12_beside 29 = .ok (.bipush 8, 2) := dgX12_beside_0 (29, (.bipush 8, 2)) (List.mem_of_getElem? (i := 3) rfl)
theorem dX12_beside_31 : decode cX12_beside 31 = .ok (.if_icmp .lt 10, 3) := dgX12_beside_0 (31, (.if_icmp .lt 10, 3)) (List.mem_of_getElem? (i := 4) rfl)
theorem dX12_beside_34 : decode cX12_beside 34 = .ok (.iload_n 0, 1) := dgX12_beside_0 (34, (.iload_n 0, 1)) (List.mem_of_getElem? (i := 5) rfl)
theorem dX12_beside_35 : decode cX12_beside 35 = .ok (.bipush 8, 2) := dgX12_beside_0 (35, (.bipush 8, 2)) (List.mem_of_getElem? (i := 6) rfl)
theorem dX12_beside_37 : decode cX12_beside 37 = .ok (.isub, 1) := dgX12_beside_0 (37, (.isub, 1)) (List.mem_of_getElem? (i := 7) rfl)
theorem dX12_beside_38 : decode cX12_beside 38 = .ok (.goto 4, 3) := dgX12_beside_0 (38, (.goto 4, 3)) (List.mem_of_getElem? (i := 8) rfl)
theorem dX12_beside_41 : decode cX12_beside 41 = .ok (.iconst (-1), 1) := dgX12_beside_0 (41, (.iconst (-1), 1)) (List.mem_of_getElem? (i := 9) rfl)
theorem dX12_beside_42 : decode cX12_beside 42 = .ok (.ireturn, 1) := dgX12_beside_0 (42, (.ireturn, 1)) (List.mem_of_getElem? (i := 10) rfl)
theorem dX12_beside_43 : decode cX12_beside 43 = .ok (.iload_n 0, 1) := dgX12_beside_0 (43, (.iload_n 0, 1)) (List.mem_of_getElem? (i := 11) rfl)
theorem dX12_beside_44 : decode cX12_beside 44 = .ok (.bipush 8, 2) := dgX12_beside_0 (44, (.bipush 8, 2)) (List.mem_of_getElem? (i := 12) rfl)
theorem dX12_beside_46 : decode cX12_beside 46 = .ok (.irem, 1) := dgX12_beside_0 (46, (.irem, 1)) (List.mem_of_getElem? (i := 13) rfl)
theorem dX12_beside_47 : decode cX12_beside 47 = .ok (.bipush 7, 2) := dgX12_beside_0 (47, (.bipush 7, 2)) (List.mem_of_getElem? (i := 14) rfl)
theorem dX12_beside_49 : decode cX12_beside 49 = .ok (.if_icmp .ge 9, 3) := dgX12_beside_0 (49, (.if_icmp .ge 9, 3)) (List.mem_of_getElem? (i := 15) rfl)
theorem dX12_beside_52 : decode cX12_beside 52 = .ok (.iload_n 0, 1) := dgX12_beside_0 (52, (.iload_n 0, 1)) (List.mem_of_getElem? (i := 16) rfl)
theorem dX12_beside_53 : decode cX12_beside 53 = .ok (.iconst 1, 1) := dgX12_beside_0 (53, (.iconst 1, 1)) (List.mem_of_getElem? (i := 17) rfl)
theorem dX12_beside_54 : decode cX12_beside 54 = .ok (.iadd, 1) := dgX12_beside_0 (54, (.iadd, 1)) (List.mem_of_getElem? (i := 18) rfl)
theorem dX12_beside_55 : decode cX12_beside 55 = .ok (.goto 4, 3) := dgX12_beside_0 (55, (.goto 4, 3)) (List.mem_of_getElem? (i := 19) rfl)
theorem dX12_beside_58 : decode cX12_beside 58 = .ok (.iconst (-1), 1) := dgX12_beside_0 (58, (.iconst (-1), 1)) (List.mem_of_getElem? (i := 20) rfl)
theorem dX12_beside_59 : decode cX12_beside 59 = .ok (.ireturn, 1) := dgX12_beside_0 (59, (.ireturn, 1)) (List.mem_of_getElem? (i := 21) rfl)
theorem dX12_beside_60 : decode cX12_beside 60 = .ok (.iload_n 0, 1) := dgX12_beside_0 (60, (.iload_n 0, 1)) (List.mem_of_getElem? (i := 22) rfl)
theorem dX12_beside_61 : decode cX12_beside 61 = .ok (.bipush 56, 2) := dgX12_beside_0 (61, (.bipush 56, 2)) (List.mem_of_getElem? (i := 23) rfl)
theorem dX12_beside_63 : decode cX12_beside 63 = .ok (.if_icmp .ge 10, 3) := dgX12_beside_0 (63, (.if_icmp .ge 10, 3)) (List.mem_of_getElem? (i := 24) rfl)
theorem dX12_beside_66 : decode cX12_beside 66 = .ok (.iload_n 0, 1) := dgX12_beside_0 (66, (.iload_n 0, 1)) (List.mem_of_getElem? (i := 25) rfl)
theorem dX12_beside_67 : decode cX12_beside 67 = .ok (.bipush 8, 2) := dgX12_beside_0 (67, (.bipush 8, 2)) (List.mem_of_getElem? (i := 26) rfl)
theorem dX12_beside_69 : decode cX12_beside 69 = .ok (.iadd, 1) := dgX12_beside_0 (69, (.iadd, 1)) (List.mem_of_getElem? (i := 27) rfl)
theorem dX12_beside_70 : decode cX12_beside 70 = .ok (.goto 4, 3) := dgX12_beside_0 (70, (.goto 4, 3)) (List.mem_of_getElem? (i := 28) rfl)
theorem dX12_beside_73 : decode cX12_beside 73 = .ok (.iconst (-1), 1) := dgX12_beside_0 (73, (.iconst (-1), 1)) (List.mem_of_getElem? (i := 29) rfl)
theorem dX12_beside_74 : decode cX12_beside 74 = .ok (.ireturn, 1) := dgX12_beside_0 (74, (.ireturn, 1)) (List.mem_of_getElem? (i := 30) rfl)
theorem dX12_beside_75 : decode cX12_beside 75 = .ok (.iload_n 0, 1) := dgX12_beside_0 (75, (.iload_n 0, 1)) (List.mem_of_getElem? (i := 31) rfl)
theorem dX12_beside_76 : decode cX12_beside 76 = .ok (.bipush 8, 2) := dgX12_beside_0 (76, (.bipush 8, 2)) (List.mem_of_getElem? (i := 32) rfl)
theorem dX12_beside_78 : decode cX12_beside 78 = .ok (.irem, 1) := dgX12_beside_0 (78, (.irem, 1)) (List.mem_of_getElem? (i := 33) rfl)
theorem dX12_beside_79 : decode cX12_beside 79 = .ok (.ifCond .le 9, 3) := dgX12_beside_0 (79, (.ifCond .le 9, 3)) (List.mem_of_getElem? (i := 34) rfl)
theorem dX12_beside_82 : decode cX12_beside 82 = .ok (.iload_n 0, 1) := dgX12_beside_0 (82, (.iload_n 0, 1)) (List.mem_of_getElem? (i := 35) rfl)
theorem dX12_beside_83 : decode cX12_beside 83 = .ok (.iconst 1, 1) := dgX12_beside_0 (83, (.iconst 1, 1)) (List.mem_of_getElem? (i := 36) rfl)
theorem dX12_beside_84 : decode cX12_beside 84 = .ok (.isub, 1) := dgX12_beside_0 (84, (.isub, 1)) (List.mem_of_getElem? (i := 37) rfl)
theorem dX12_beside_85 : decode cX12_beside 85 = .ok (.goto 4, 3) := dgX12_beside_0 (85, (.goto 4, 3)) (List.mem_of_getElem? (i := 38) rfl)
theorem dX12_beside_88 : decode cX12_beside 88 = .ok (.iconst (-1), 1) := dgX12_beside_0 (88, (.iconst (-1), 1)) (List.mem_of_getElem? (i := 39) rfl)
theorem dgX12_beside_1 : ∀ r ∈ ([(89, (.ireturn, 1))] : List (Nat × (Instr × Nat))), decode cX12_beside r.1 = .ok r.2 := by decide +kernel
theorem dX12_beside_89 : decode cX12_beside 89 = .ok (.ireturn, 1) := dgX12_beside_1 (89, (.ireturn, 1)) (List.mem_of_getElem? (i := 0) rfl)
set_option maxHeartbeats 4000000 in
set_option maxRecDepth 100000 in
theorem n_beside (l : Launch) (G : g5_G) (sz : Nat) (p_0 : Int32) (p_1 : Int32) (h_p_0 : 0 ≤ p_0.toInt ∧ p_0.toInt ≤ 63) : Met l yX12_beside (wsG yX12_beside cX12_beside 2 (some .int)) ({ frames := 0, cells := 0, slots := 0, locals := 0 }) (va_Pc [.int p_0, .int p_1] (g5_P G [] sz)) (va_Qi (fun (r : Int32) (u : va_W) => (∃ (o_r : Int32), (-1 ≤ o_r.toInt ∧ o_r.toInt ≤ 63) ∧ (r = o_r) ∧ (u = []))) (g5_B G (va_A [] sz)) (va_A [] sz)) 0 0 (va_A [] sz) := by
  refine Met.ofW (cc := cX12_beside) (maxL := 2) (ret := (some .int)) (by decide) rfl ?_
  intro p e s m args below meth c s₁ B hml hv
  obtain ⟨rfl, hsz, hP, hK, hD0, hN, hT⟩ := hv
  have hx := B.exec
  have hb := B.bytes
  have hr := B.returns
  have hts : ∀ w ∈ tblG, w.before _ s = true := fun w h => atoms_spec (ws := (wsG yX12_beside cX12_beside 2 (some .int))) B.pre w (List.mem_cons_of_mem _ h)
  have hown : s.vm.findClass RX12 = some m.cls := findClass_of_methodNamed B.named
  have hlocks := B.notSynchronized
  subst hsz
  have hD := hD0.self (sz := s.heap.size)
  generalize hAe : va_A [] s.heap.size = A at hD hT ⊢
  have hA : ∀ q : Nat, s.heap.size ≤ q → A q := fun q h => by rw [← hAe]; exact Or.inr h
  have hS : va_S A s.heap s.heap [] := va_S.rf
  have hP : va_P G.1 vwCl [] s.heap := hP
  have hl := lv_entry ([.int p_0, .int p_1]) (n := 2) (Nat.le_of_ble_eq_true rfl)
  rw [lg_entry_eq]
  generalize (lg_sl ([.int p_0, .int p_1]) ++ List.replicate (2 - (lg_sl ([.int p_0, .int p_1])).length) Slot.unset).toArray = ls at hl ⊢
  have hl : lv_has ls 2 [(0, .int p_0), (1, .int p_1)] := hl
  refine lv_iload_n hx hb dX12_beside_0 rfl (lv_at hl 1 rfl) ?_
  rcases (show p_1.toInt = 0 ∨ p_1.toInt = 1 ∨ p_1.toInt = 2 ∨ p_1.toInt < 0 ∨ p_1.toInt > 2 by omega) with s_1 | s_1 | s_1 | s_1 | s_1
  ·
    have i_1 : p_1.toInt = 0 := by omega
    refine lv_tableIn (tgt := 28) hx hb dX12_beside_1 (by omega) (by omega) (by rw [s_1]; rfl) (by decide) ?_
    refine lv_iload_n hx hb dX12_beside_28 rfl (lv_at hl 0 rfl) ?_
    refine lv_bipush (v := 8) hx hb dX12_beside_29 (by decide) ?_
    refine lv_icmp_lt (tgt := 41) hx hb dX12_beside_31 (by decide) (fun c_2 => ?_) (fun c_2 => ?_)
    ·
      have i_2 : p_0.toInt < 8 := by have z := g5_lt (a := p_0.toInt) (b := 8) (by rfl) (by decide) c_2; omega
      refine lv_iconst (v := (-1)) hx hb dX12_beside_41 (by decide) ?_
      exact W.iret (v := (-1)) hx hb hr (fun t ht hW => ⟨⟨(-1), [], rfl, ⟨(-1), ⟨by have zc_o_r : ((-1) : Int32).toInt = (-1) := (by decide); omega, by have zc_o_r : ((-1) : Int32).toInt = (-1) := (by decide); omega⟩, rfl, rfl⟩, by rw [ht]; exact hP.sub [] rfl, hD.sub [] (by decide) rfl⟩, hS.F ht⟩) hS.2.2 dX12_beside_42
    ·
      have i_2 : p_0.toInt ≥ 8 := by have z := g5_ltN (a := p_0.toInt) (b := 8) (by rfl) (by decide) c_2; omega
      refine lv_iload_n hx hb dX12_beside_34 rfl (lv_at hl 0 rfl) ?_
      refine lv_bipush (v := 8) hx hb dX12_beside_35 (by decide) ?_
      refine lv_isub hx hb dX12_beside_37 ?_
      have t_3 : (p_0 - 8).toInt = p_0.toInt - 8 := g5_isub (a := p_0.toInt) (b := 8) (by rfl) (by decide) (by omega) (by omega)
      refine lv_goto (tgt := 42) hx hb dX12_beside_38 (by decide) ?_
      exact W.iret (v := (p_0 - 8)) hx hb hr (fun t ht hW => ⟨⟨(p_0 - 8), [], rfl, ⟨(p_0 - 8), ⟨by omega, by omega⟩, rfl, rfl⟩, by rw [ht]; exact hP.sub [] rfl, hD.sub [] (by decide) rfl⟩, hS.F ht⟩) hS.2.2 dX12_beside_42
  ·
    have i_1 : p_1.toInt = 1 := by omega
    refine lv_tableIn (tgt := 43) hx hb dX12_beside_1 (by omega) (by omega) (by rw [s_1]; rfl) (by decide) ?_
    refine lv_iload_n hx hb dX12_beside_43 rfl (lv_at hl 0 rfl) ?_
    refine lv_bipush (v := 8) hx hb dX12_beside_44 (by decide) ?_
    refine lv_irem hx hb dX12_beside_46 (by decide) ?_
    have t_4 : (p_0 - p_0 / 8 * 8).toInt = p_0.toInt % 8 := g5_irem (a := p_0.toInt) (b := 8) rfl (by decide) (by omega) (by decide)
    refine lv_bipush (v := 7) hx hb dX12_beside_47 (by decide) ?_
    refine lv_icmp_ge (tgt := 58) hx hb dX12_beside_49 (by decide) (fun c_5 => ?_) (fun c_5 => ?_)
    ·
      have i_5 : (p_0.toInt % 8) ≥ 7 := by have z := g5_ge (a := (p_0 - p_0 / 8 * 8).toInt) (b := 7) (by rfl) (by decide) c_5; omega
      refine lv_iconst (v := (-1)) hx hb dX12_beside_58 (by decide) ?_
      exact W.iret (v := (-1)) hx hb hr (fun t ht hW => ⟨⟨(-1), [], rfl, ⟨(-1), ⟨by have zc_o_r : ((-1) : Int32).toInt = (-1) := (by decide); omega, by have zc_o_r : ((-1) : Int32).toInt = (-1) := (by decide); omega⟩, rfl, rfl⟩, by rw [ht]; exact hP.sub [] rfl, hD.sub [] (by decide) rfl⟩, hS.F ht⟩) hS.2.2 dX12_beside_59
    ·
      have i_5 : (p_0.toInt % 8) < 7 := by have z := g5_geN (a := (p_0 - p_0 / 8 * 8).toInt) (b := 7) (by rfl) (by decide) c_5; omega
      refine lv_iload_n hx hb dX12_beside_52 rfl (lv_at hl 0 rfl) ?_
      refine lv_iconst (v := 1) hx hb dX12_beside_53 (by decide) ?_
      refine lv_iadd hx hb dX12_beside_54 ?_
      have t_6 : (p_0 + 1).toInt = p_0.toInt + 1 := g5_iadd (a := p_0.toInt) (b := 1) (by rfl) (by decide) (by omega) (by omega)
      refine lv_goto (tgt := 59) hx hb dX12_beside_55 (by decide) ?_
      exact W.iret (v := (p_0 + 1)) hx hb hr (fun t ht hW => ⟨⟨(p_0 + 1), [], rfl, ⟨(p_0 + 1), ⟨by omega, by omega⟩, rfl, rfl⟩, by rw [ht]; exact hP.sub [] rfl, hD.sub [] (by decide) rfl⟩, hS.F ht⟩) hS.2.2 dX12_beside_59
  ·
    have i_1 : p_1.toInt = 2 := by omega
    refine lv_tableIn (tgt := 60) hx hb dX12_beside_1 (by omega) (by omega) (by rw [s_1]; rfl) (by decide) ?_
    refine lv_iload_n hx hb dX12_beside_60 rfl (lv_at hl 0 rfl) ?_
    refine lv_bipush (v := 56) hx hb dX12_beside_61 (by decide) ?_
    refine lv_icmp_ge (tgt := 73) hx hb dX12_beside_63 (by decide) (fun c_7 => ?_) (fun c_7 => ?_)
    ·
      have i_7 : p_0.toInt ≥ 56 := by have z := g5_ge (a := p_0.toInt) (b := 56) (by rfl) (by decide) c_7; omega
      refine lv_iconst (v := (-1)) hx hb dX12_beside_73 (by decide) ?_
      exact W.iret (v := (-1)) hx hb hr (fun t ht hW => ⟨⟨(-1), [], rfl, ⟨(-1), ⟨by have zc_o_r : ((-1) : Int32).toInt = (-1) := (by decide); omega, by have zc_o_r : ((-1) : Int32).toInt = (-1) := (by decide); omega⟩, rfl, rfl⟩, by rw [ht]; exact hP.sub [] rfl, hD.sub [] (by decide) rfl⟩, hS.F ht⟩) hS.2.2 dX12_beside_74
    ·
      have i_7 : p_0.toInt < 56 := by have z := g5_geN (a := p_0.toInt) (b := 56) (by rfl) (by decide) c_7; omega
      refine lv_iload_n hx hb dX12_beside_66 rfl (lv_at hl 0 rfl) ?_
      refine lv_bipush (v := 8) hx hb dX12_beside_67 (by decide) ?_
      refine lv_iadd hx hb dX12_beside_69 ?_
      have t_8 : (p_0 + 8).toInt = p_0.toInt + 8 := g5_iadd (a := p_0.toInt) (b := 8) (by rfl) (by decide) (by omega) (by omega)
      refine lv_goto (tgt := 74) hx hb dX12_beside_70 (by decide) ?_
      exact W.iret (v := (p_0 + 8)) hx hb hr (fun t ht hW => ⟨⟨(p_0 + 8), [], rfl, ⟨(p_0 + 8), ⟨by omega, by omega⟩, rfl, rfl⟩, by rw [ht]; exact hP.sub [] rfl, hD.sub [] (by decide) rfl⟩, hS.F ht⟩) hS.2.2 dX12_beside_74
  ·
    have i_1 : p_1.toInt < 0 := by omega
    refine lv_tableOut (tgt := 75) hx hb dX12_beside_1 (by omega) (by decide) ?_
    refine lv_iload_n hx hb dX12_beside_75 rfl (lv_at hl 0 rfl) ?_
    refine lv_bipush (v := 8) hx hb dX12_beside_76 (by decide) ?_
    refine lv_irem hx hb dX12_beside_78 (by decide) ?_
    have t_9 : (p_0 - p_0 / 8 * 8).toInt = p_0.toInt % 8 := g5_irem (a := p_0.toInt) (b := 8) rfl (by decide) (by omega) (by decide)
    refine lv_if_le (tgt := 88) hx hb dX12_beside_79 (by decide) (fun c_10 => ?_) (fun c_10 => ?_)
    ·
      have i_10 : (p_0.toInt % 8) ≤ 0 := by have z := g5_le (a := (p_0 - p_0 / 8 * 8).toInt) (b := 0) (by rfl) (by decide) c_10; omega
      refine lv_iconst (v := (-1)) hx hb dX12_beside_88 (by decide) ?_
      exact W.iret (v := (-1)) hx hb hr (fun t ht hW => ⟨⟨(-1), [], rfl, ⟨(-1), ⟨by have zc_o_r : ((-1) : Int32).toInt = (-1) := (by decide); omega, by have zc_o_r : ((-1) : Int32).toInt = (-1) := (by decide); omega⟩, rfl, rfl⟩, by rw [ht]; exact hP.sub [] rfl, hD.sub [] (by decide) rfl⟩, hS.F ht⟩) hS.2.2 dX12_beside_89
    ·
      have i_10 : (p_0.toInt % 8) > 0 := by have z := g5_leN (a := (p_0 - p_0 / 8 * 8).toInt) (b := 0) (by rfl) (by decide) c_10; omega
      refine lv_iload_n hx hb dX12_beside_82 rfl (lv_at hl 0 rfl) ?_
      refine lv_iconst (v := 1) hx hb dX12_beside_83 (by decide) ?_
      refine lv_isub hx hb dX12_beside_84 ?_
      have t_11 : (p_0 - 1).toInt = p_0.toInt - 1 := g5_isub (a := p_0.toInt) (b := 1) (by rfl) (by decide) (by omega) (by omega)
      refine lv_goto (tgt := 89) hx hb dX12_beside_85 (by decide) ?_
      exact W.iret (v := (p_0 - 1)) hx hb hr (fun t ht hW => ⟨⟨(p_0 - 1), [], rfl, ⟨(p_0 - 1), ⟨by omega, by omega⟩, rfl, rfl⟩, by rw [ht]; exact hP.sub [] rfl, hD.sub [] (by decide) rfl⟩, hS.F ht⟩) hS.2.2 dX12_beside_89
  ·
    have i_1 : p_1.toInt > 2 := by omega
    refine lv_tableOut (tgt := 75) hx hb dX12_beside_1 (by omega) (by decide) ?_
    refine lv_iload_n hx hb dX12_beside_75 rfl (lv_at hl 0 rfl) ?_
    refine lv_bipush (v := 8) hx hb dX12_beside_76 (by decide) ?_
    refine lv_irem hx hb dX12_beside_78 (by decide) ?_
    have t_12 : (p_0 - p_0 / 8 * 8).toInt = p_0.toInt % 8 := g5_irem (a := p_0.toInt) (b := 8) rfl (by decide) (by omega) (by decide)
    refine lv_if_le (tgt := 88) hx hb dX12_beside_79 (by decide) (fun c_13 => ?_) (fun c_13 => ?_)
    ·
      have i_13 : (p_0.toInt % 8) ≤ 0 := by have z := g5_le (a := (p_0 - p_0 / 8 * 8).toInt) (b := 0) (by rfl) (by decide) c_13; omega
      refine lv_iconst (v := (-1)) hx hb dX12_beside_88 (by decide) ?_
      exact W.iret (v := (-1)) hx hb hr (fun t ht hW => ⟨⟨(-1), [], rfl, ⟨(-1), ⟨by have zc_o_r : ((-1) : Int32).toInt = (-1) := (by decide); omega, by have zc_o_r : ((-1) : Int32).toInt = (-1) := (by decide); omega⟩, rfl, rfl⟩, by rw [ht]; exact hP.sub [] rfl, hD.sub [] (by decide) rfl⟩, hS.F ht⟩) hS.2.2 dX12_beside_89
    ·
      have i_13 : (p_0.toInt % 8) > 0 := by have z := g5_leN (a := (p_0 - p_0 / 8 * 8).toInt) (b := 0) (by rfl) (by decide) c_13; omega
      refine lv_iload_n hx hb dX12_beside_82 rfl (lv_at hl 0 rfl) ?_
      refine lv_iconst (v := 1) hx hb dX12_beside_83 (by decide) ?_
      refine lv_isub hx hb dX12_beside_84 ?_
      have t_14 : (p_0 - 1).toInt = p_0.toInt - 1 := g5_isub (a := p_0.toInt) (b := 1) (by rfl) (by decide) (by omega) (by omega)
      refine lv_goto (tgt := 89) hx hb dX12_beside_85 (by decide) ?_
      exact W.iret (v := (p_0 - 1)) hx hb hr (fun t ht hW => ⟨⟨(p_0 - 1), [], rfl, ⟨(p_0 - 1), ⟨by omega, by omega⟩, rfl, rfl⟩, by rw [ht]; exact hP.sub [] rfl, hD.sub [] (by decide) rfl⟩, hS.F ht⟩) hS.2.2 dX12_beside_89
theorem dgX12_isSmall_0 : ∀ r ∈ ([(0, (.iload_n 0, 1)), (1, (.bipush 97, 2)), (3, (.if_icmp .lt 13, 3)), (6, (.iload_n 0, 1)), (7, (.bipush 122, 2)), (9, (.if_icmp .gt 7, 3)), (12, (.iconst 1, 1)), (13, (.goto 4, 3)), (16, (.iconst 0, 1)), (17, (.ireturn, 1))] : List (Nat × (Instr × Nat))), decode cX12_isSmall r.1 = .ok r.2 := by decide +kernel
theorem dX12_isSmall_0 : decode cX12_isSmall 0 = .ok (.iload_n 0, 1) := dgX12_isSmall_0 (0, (.iload_n 0, 1)) (List.mem_of_getElem? (i := 0) rfl)
theorem dX12_isSmall_1 : decode cX12_isSmall 1 = .ok (.bipush 97, 2) := dgX12_isSmall_0 (1, (.bipush 97, 2)) (List.mem_of_getElem? (i := 1) rfl)
theorem dX12_isSmall_3 : decode cX12_isSmall 3 = .ok (.if_icmp .lt 13, 3) := dgX12_isSmall_0 (3, (.if_icmp .lt 13, 3)) (List.mem_of_getElem? (i := 2) rfl)
theorem dX12_isSmall_6 : decode cX12_isSmall 6 = .ok (.iload_n 0, 1) := dgX12_isSmall_0 (6, (.iload_n 0, 1)) (List.mem_of_getElem? (i := 3) rfl)
theorem dX12_isSmall_7 : decode cX12_isSmall 7 = .ok (.bipush 122, 2) := dgX12_isSmall_0 (7, (.bipush 122, 2)) (List.mem_of_getElem? (i := 4) rfl)
theorem dX12_isSmall_9 : decode cX12_isSmall 9 = .ok (.if_icmp .gt 7, 3) := dgX12_isSmall_0 (9, (.if_icmp .gt 7, 3)) (List.mem_of_getElem? (i := 5) rfl)
theorem dX12_isSmall_12 : decode cX12_isSmall 12 = .ok (.iconst 1, 1) := dgX12_isSmall_0 (12, (.iconst 1, 1)) (List.mem_of_getElem? (i := 6) rfl)
theorem dX12_isSmall_13 : decode cX12_isSmall 13 = .ok (.goto 4, 3) := dgX12_isSmall_0 (13, (.goto 4, 3)) (List.mem_of_getElem? (i := 7) rfl)
theorem dX12_isSmall_16 : decode cX12_isSmall 16 = .ok (.iconst 0, 1) := dgX12_isSmall_0 (16, (.iconst 0, 1)) (List.mem_of_getElem? (i := 8) rfl)
theorem dX12_isSmall_17 : decode cX12_isSmall 17 = .ok (.ireturn, 1) := dgX12_isSmall_0 (17, (.ireturn, 1)) (List.mem_of_getElem? (i := 9) rfl)
theorem dgX12_isDigit_0 : ∀ r ∈ ([(0, (.iload_n 0, 1)), (1, (.bipush 48, 2)), (3, (.if_icmp .lt 13, 3)), (6, (.iload_n 0, 1)), (7, (.bipush 57, 2)), (9, (.if_icmp .gt 7, 3)), (12, (.iconst 1, 1)), (13, (.goto 4, 3)), (16, (.iconst 0, 1)), (17, (.ireturn, 1))] : List (Nat × (Instr × Nat))), decode cX12_isDigit r.1 = .ok r.2 := by decide +kernel
theorem dX12_isDigit_0 : decode cX12_isDigit 0 = .ok (.iload_n 0, 1) := dgX12_isDigit_0 (0, (.iload_n 0, 1)) (List.mem_of_getElem? (i := 0) rfl)
theorem dX12_isDigit_1 : decode cX12_isDigit 1 = .ok (.bipush 48, 2) := dgX12_isDigit_0 (1, (.bipush 48, 2)) (List.mem_of_getElem? (i := 1) rfl)
theorem dX12_isDigit_3 : decode cX12_isDigit 3 = .ok (.if_icmp .lt 13, 3) := dgX12_isDigit_0 (3, (.if_icmp .lt 13, 3)) (List.mem_of_getElem? (i := 2) rfl)
theorem dX12_isDigit_6 : decode cX12_isDigit 6 = .ok (.iload_n 0, 1) := dgX12_isDigit_0 (6, (.iload_n 0, 1)) (List.mem_of_getElem? (i := 3) rfl)
theorem dX12_isDigit_7 : decode cX12_isDigit 7 = .ok (.bipush 57, 2) := dgX12_isDigit_0 (7, (.bipush 57, 2)) (List.mem_of_getElem? (i := 4) rfl)
theorem dX12_isDigit_9 : decode cX12_isDigit 9 = .ok (.if_icmp .gt 7, 3) := dgX12_isDigit_0 (9, (.if_icmp .gt 7, 3)) (List.mem_of_getElem? (i := 5) rfl)
theorem dX12_isDigit_12 : decode cX12_isDigit 12 = .ok (.iconst 1, 1) := dgX12_isDigit_0 (12, (.iconst 1, 1)) (List.mem_of_getElem? (i := 6) rfl)
theorem dX12_isDigit_13 : decode cX12_isDigit 13 = .ok (.goto 4, 3) := dgX12_isDigit_0 (13, (.goto 4, 3)) (List.mem_of_getElem? (i := 7) rfl)
theorem dX12_isDigit_16 : decode cX12_isDigit 16 = .ok (.iconst 0, 1) := dgX12_isDigit_0 (16, (.iconst 0, 1)) (List.mem_of_getElem? (i := 8) rfl)
theorem dX12_isDigit_17 : decode cX12_isDigit 17 = .ok (.ireturn, 1) := dgX12_isDigit_0 (17, (.ireturn, 1)) (List.mem_of_getElem? (i := 9) rfl)
theorem dgX12_is_0 : ∀ r ∈ ([(0, (.iload_n 0, 1)), (1, (.iload_n 1, 1)), (2, (.ishr, 1)), (3, (.iconst 1, 1)), (4, (.iand, 1)), (5, (.iconst 1, 1)), (6, (.if_icmp .ne 7, 3)), (9, (.iconst 1, 1)), (10, (.goto 4, 3)), (13, (.iconst 0, 1)), (14, (.ireturn, 1))] : List (Nat × (Instr × Nat))), decode cX12_is r.1 = .ok r.2 := by decide +kernel
theorem dX12_is_0 : decode cX12_is 0 = .ok (.iload_n 0, 1) := dgX12_is_0 (0, (.iload_n 0, 1)) (List.mem_of_getElem? (i := 0) rfl)
theorem dX12_is_1 : decode cX12_is 1 = .ok (.iload_n 1, 1) := dgX12_is_0 (1, (.iload_n 1, 1)) (List.mem_of_getElem? (i := 1) rfl)
theorem dX12_is_2 : decode cX12_is 2 = .ok (.ishr, 1) := dgX12_is_0 (2, (.ishr, 1)) (List.mem_of_getElem? (i := 2) rfl)
theorem dX12_is_3 : decode cX12_is 3 = .ok (.iconst 1, 1) := dgX12_is_0 (3, (.iconst 1, 1)) (List.mem_of_getElem? (i := 3) rfl)
theorem dX12_is_4 : decode cX12_is 4 = .ok (.iand, 1) := dgX12_is_0 (4, (.iand, 1)) (List.mem_of_getElem? (i := 4) rfl)
theorem dX12_is_5 : decode cX12_is 5 = .ok (.iconst 1, 1) := dgX12_is_0 (5, (.iconst 1, 1)) (List.mem_of_getElem? (i := 5) rfl)
theorem dX12_is_6 : decode cX12_is 6 = .ok (.if_icmp .ne 7, 3) := dgX12_is_0 (6, (.if_icmp .ne 7, 3)) (List.mem_of_getElem? (i := 6) rfl)
theorem dX12_is_9 : decode cX12_is 9 = .ok (.iconst 1, 1) := dgX12_is_0 (9, (.iconst 1, 1)) (List.mem_of_getElem? (i := 7) rfl)
theorem dX12_is_10 : decode cX12_is 10 = .ok (.goto 4, 3) := dgX12_is_0 (10, (.goto 4, 3)) (List.mem_of_getElem? (i := 8) rfl)
theorem dX12_is_13 : decode cX12_is 13 = .ok (.iconst 0, 1) := dgX12_is_0 (13, (.iconst 0, 1)) (List.mem_of_getElem? (i := 9) rfl)
theorem dX12_is_14 : decode cX12_is 14 = .ok (.ireturn, 1) := dgX12_is_0 (14, (.ireturn, 1)) (List.mem_of_getElem? (i := 10) rfl)
