theorem dgX12_in_0 : ∀ r ∈ ([(0, (.lload_n 0, 1)), (1, (.lload_n 2, 1)), (2, (.lcmp, 1)), (3, (.ifCond .lt 14, 3)), (6, (.lload_n 0, 1)), (7, (.lload 4, 2)), (9, (.lcmp, 1)), (10, (.ifCond .gt 7, 3)), (13, (.iconst 1, 1)), (14, (.goto 4, 3)), (17, (.iconst 0, 1)), (18, (.ireturn, 1))] : List (Nat × (Instr × Nat))), decode cX12_in r.1 = .ok r.2 := by decide +kernel
theorem dX12_in_0 : decode cX12_in 0 = .ok (.lload_n 0, 1) := dgX12_in_0 (0, (.lload_n 0, 1)) (List.mem_of_getElem? (i := 0) rfl)
theorem dX12_in_1 : decode cX12_in 1 = .ok (.lload_n 2, 1) := dgX12_in_0 (1, (.lload_n 2, 1)) (List.mem_of_getElem? (i := 1) rfl)
theorem dX12_in_2 : decode cX12_in 2 = .ok (.lcmp, 1) := dgX12_in_0 (2, (.lcmp, 1)) (List.mem_of_getElem? (i := 2) rfl)
theorem dX12_in_3 : decode cX12_in 3 = .ok (.ifCond .lt 14, 3) := dgX12_in_0 (3, (.ifCond .lt 14, 3)) (List.mem_of_getElem? (i := 3) rfl)
theorem dX12_in_6 : decode cX12_in 6 = .ok (.lload_n 0, 1) := dgX12_in_0 (6, (.lload_n 0, 1)) (List.mem_of_getElem? (i := 4) rfl)
theorem dX12_in_7 : decode cX12_in 7 = .ok (.lload 4, 2) := dgX12_in_0 (7, (.lload 4, 2)) (List.mem_of_getElem? (i := 5) rfl)
theorem dX12_in_9 : decode cX12_in 9 = .ok (.lcmp, 1) := dgX12_in_0 (9, (.lcmp, 1)) (List.mem_of_getElem? (i := 6) rfl)
theorem dX12_in_10 : decode cX12_in 10 = .ok (.ifCond .gt 7, 3) := dgX12_in_0 (10, (.ifCond .gt 7, 3)) (List.mem_of_getElem? (i := 7) rfl)
theorem dX12_in_13 : decode cX12_in 13 = .ok (.iconst 1, 1) := dgX12_in_0 (13, (.iconst 1, 1)) (List.mem_of_getElem? (i := 8) rfl)
theorem dX12_in_14 : decode cX12_in 14 = .ok (.goto 4, 3) := dgX12_in_0 (14, (.goto 4, 3)) (List.mem_of_getElem? (i := 9) rfl)
theorem dX12_in_17 : decode cX12_in 17 = .ok (.iconst 0, 1) := dgX12_in_0 (17, (.iconst 0, 1)) (List.mem_of_getElem? (i := 10) rfl)
theorem dX12_in_18 : decode cX12_in 18 = .ok (.ireturn, 1) := dgX12_in_0 (18, (.ireturn, 1)) (List.mem_of_getElem? (i := 11) rfl)
set_option maxHeartbeats 4000000 in
set_option maxRecDepth 100000 in
theorem n_in_n (l : Launch) (G : g5_G) (sz : Nat) (p_x : Int32) (p_n : Int32) (h_p_n : 0 ≤ p_n.toInt ∧ p_n.toInt ≤ 5740) : Met l yX12_in (wsG yX12_in cX12_in 6 (some .boolean)) ({ frames := 0, cells := 0, slots := 0, locals := 0 }) (va_Pc [.long p_x.toInt64, .long 0, .long (p_n.toInt64 - 1)] (g5_P G [] sz)) (va_Qi (fun (r : Int32) (u : va_W) => ((p_x.toInt < 0 ∨ p_n.toInt ≤ p_x.toInt) ∧ (r = 0) ∧ (u = [])) ∨ ((0 ≤ p_x.toInt ∧ p_x.toInt < p_n.toInt) ∧ (r = 1) ∧ (u = []))) (g5_B G (va_A [] sz)) (va_A [] sz)) 0 0 (va_A [] sz) := by
  refine Met.ofW (cc := cX12_in) (maxL := 6) (ret := (some .boolean)) (by decide) rfl ?_
  intro p e s m args below meth c s₁ B hml hv
  obtain ⟨rfl, hsz, hP, hK, hD0, hN, hT⟩ := hv
  have hx := B.exec
  have hb := B.bytes
  have hr := B.returns
  have hts : ∀ w ∈ tblG, w.before _ s = true := fun w h => atoms_spec (ws := (wsG yX12_in cX12_in 6 (some .boolean))) B.pre w (List.mem_cons_of_mem _ h)
  have hown : s.vm.findClass RX12 = some m.cls := findClass_of_methodNamed B.named
  have hlocks := B.notSynchronized
  subst hsz
  have hD := hD0.self (sz := s.heap.size)
  generalize hAe : va_A [] s.heap.size = A at hD hT ⊢
  have hA : ∀ q : Nat, s.heap.size ≤ q → A q := fun q h => by rw [← hAe]; exact Or.inr h
  have hS : va_S A s.heap s.heap [] := va_S.rf
  have hP : va_P G.1 vwCl [] s.heap := hP
  have hl := lv_entry ([.long p_x.toInt64, .long 0, .long (p_n.toInt64 - 1)]) (n := 6) (Nat.le_of_ble_eq_true rfl)
  rw [lg_entry_eq]
  generalize (lg_sl ([.long p_x.toInt64, .long 0, .long (p_n.toInt64 - 1)]) ++ List.replicate (6 - (lg_sl ([.long p_x.toInt64, .long 0, .long (p_n.toInt64 - 1)])).length) Slot.unset).toArray = ls at hl ⊢
  have hl : lv_has ls 6 [(0, .long p_x.toInt64), (2, .long 0), (4, .long (p_n.toInt64 - 1))] := hl
  refine lv_lload_n hx hb dX12_in_0 rfl (lv_at hl 0 rfl) ?_
  refine lv_lload_n hx hb dX12_in_1 rfl (lv_at hl 1 rfl) ?_
  have tl_1 : p_x.toInt64.toInt = p_x.toInt := Int32.toInt_toInt64 _
  have tl_2 : (0 : Int64).toInt = 0 := (by decide)
  have tc_3 := g5_cmpI p_x.toInt64 0
  refine W.lcmp hx hb dX12_in_2 ?_
  refine lv_if_lt (tgt := 17) hx hb dX12_in_3 (by decide) (fun c_4 => ?_) (fun c_4 => ?_)
  ·
    have i_4 : (lg_cmp p_x.toInt64 0).toInt < 0 := by have z := g5_lt (a := (lg_cmp p_x.toInt64 0).toInt) (b := 0) (by rfl) (by decide) c_4; omega
    refine lv_iconst (v := 0) hx hb dX12_in_17 (by decide) ?_
    exact W.zret (v := 0) hx hb hr rfl (fun t ht hW => ⟨⟨0, [], rfl, Or.inl (⟨by omega, rfl, rfl⟩), by rw [ht]; exact hP.sub [] rfl, hD.sub [] (by decide) rfl⟩, hS.F ht⟩) hS.2.2 dX12_in_18
  ·
    have i_4 : (lg_cmp p_x.toInt64 0).toInt ≥ 0 := by have z := g5_ltN (a := (lg_cmp p_x.toInt64 0).toInt) (b := 0) (by rfl) (by decide) c_4; omega
    refine lv_lload_n hx hb dX12_in_6 rfl (lv_at hl 0 rfl) ?_
    refine lv_lload hx hb dX12_in_7 (lv_at hl 2 rfl) ?_
    have tl_5 : p_x.toInt64.toInt = p_x.toInt := Int32.toInt_toInt64 _
    have tl_6 : (p_n.toInt64 - 1).toInt = p_n.toInt - 1 := g5_lsub (Int32.toInt_toInt64 _) (by decide) (by omega) (by omega)
    have tc_7 := g5_cmpI p_x.toInt64 (p_n.toInt64 - 1)
    refine W.lcmp hx hb dX12_in_9 ?_
    refine lv_if_gt (tgt := 17) hx hb dX12_in_10 (by decide) (fun c_8 => ?_) (fun c_8 => ?_)
    ·
      have i_8 : (lg_cmp p_x.toInt64 (p_n.toInt64 - 1)).toInt > 0 := by have z := g5_gt (a := (lg_cmp p_x.toInt64 (p_n.toInt64 - 1)).toInt) (b := 0) (by rfl) (by decide) c_8; omega
      refine lv_iconst (v := 0) hx hb dX12_in_17 (by decide) ?_
      exact W.zret (v := 0) hx hb hr rfl (fun t ht hW => ⟨⟨0, [], rfl, Or.inl (⟨by omega, rfl, rfl⟩), by rw [ht]; exact hP.sub [] rfl, hD.sub [] (by decide) rfl⟩, hS.F ht⟩) hS.2.2 dX12_in_18
    ·
      have i_8 : (lg_cmp p_x.toInt64 (p_n.toInt64 - 1)).toInt ≤ 0 := by have z := g5_gtN (a := (lg_cmp p_x.toInt64 (p_n.toInt64 - 1)).toInt) (b := 0) (by rfl) (by decide) c_8; omega
      refine lv_iconst (v := 1) hx hb dX12_in_13 (by decide) ?_
      refine lv_goto (tgt := 18) hx hb dX12_in_14 (by decide) ?_
      exact W.zret (v := 1) hx hb hr rfl (fun t ht hW => ⟨⟨1, [], rfl, Or.inr (⟨by omega, rfl, rfl⟩), by rw [ht]; exact hP.sub [] rfl, hD.sub [] (by decide) rfl⟩, hS.F ht⟩) hS.2.2 dX12_in_18
theorem dgX12_isCell_0 : ∀ r ∈ ([(0, (.iload_n 0, 1)), (1, (.i2l, 1)), (2, (.lconst 0, 1)), (3, (.ldc2_w 128, 3)), (6, (.invokestatic 121, 3)), (9, (.ireturn, 1))] : List (Nat × (Instr × Nat))), decode cX12_isCell r.1 = .ok r.2 := by decide +kernel
theorem dX12_isCell_0 : decode cX12_isCell 0 = .ok (.iload_n 0, 1) := dgX12_isCell_0 (0, (.iload_n 0, 1)) (List.mem_of_getElem? (i := 0) rfl)
theorem dX12_isCell_1 : decode cX12_isCell 1 = .ok (.i2l, 1) := dgX12_isCell_0 (1, (.i2l, 1)) (List.mem_of_getElem? (i := 1) rfl)
theorem dX12_isCell_2 : decode cX12_isCell 2 = .ok (.lconst 0, 1) := dgX12_isCell_0 (2, (.lconst 0, 1)) (List.mem_of_getElem? (i := 2) rfl)
theorem dX12_isCell_3 : decode cX12_isCell 3 = .ok (.ldc2_w 128, 3) := dgX12_isCell_0 (3, (.ldc2_w 128, 3)) (List.mem_of_getElem? (i := 3) rfl)
theorem dX12_isCell_6 : decode cX12_isCell 6 = .ok (.invokestatic 121, 3) := dgX12_isCell_0 (6, (.invokestatic 121, 3)) (List.mem_of_getElem? (i := 4) rfl)
theorem dX12_isCell_9 : decode cX12_isCell 9 = .ok (.ireturn, 1) := dgX12_isCell_0 (9, (.ireturn, 1)) (List.mem_of_getElem? (i := 5) rfl)
theorem kl_X12_128 : Cond.constantLong RX12 128 63 ∈ tblG := tg 1382 (by decide +kernel) (by decide +kernel)
set_option maxHeartbeats 4000000 in
set_option maxRecDepth 100000 in
theorem n_in_0_63 (l : Launch) (G : g5_G) (sz : Nat) (p_x : Int32) : Met l yX12_in (wsG yX12_in cX12_in 6 (some .boolean)) ({ frames := 0, cells := 0, slots := 0, locals := 0 }) (va_Pc [.long p_x.toInt64, .long 0, .long 63] (g5_P G [] sz)) (va_Qi (fun (r : Int32) (u : va_W) => ((p_x.toInt < 0 ∨ 63 < p_x.toInt) ∧ (r = 0) ∧ (u = [])) ∨ ((0 ≤ p_x.toInt ∧ p_x.toInt ≤ 63) ∧ (r = 1) ∧ (u = []))) (g5_B G (va_A [] sz)) (va_A [] sz)) 0 0 (va_A [] sz) := by
  refine Met.ofW (cc := cX12_in) (maxL := 6) (ret := (some .boolean)) (by decide) rfl ?_
  intro p e s m args below meth c s₁ B hml hv
  obtain ⟨rfl, hsz, hP, hK, hD0, hN, hT⟩ := hv
  have hx := B.exec
  have hb := B.bytes
  have hr := B.returns
  have hts : ∀ w ∈ tblG, w.before _ s = true := fun w h => atoms_spec (ws := (wsG yX12_in cX12_in 6 (some .boolean))) B.pre w (List.mem_cons_of_mem _ h)
  have hown : s.vm.findClass RX12 = some m.cls := findClass_of_methodNamed B.named
  have hlocks := B.notSynchronized
  subst hsz
  have hD := hD0.self (sz := s.heap.size)
  generalize hAe : va_A [] s.heap.size = A at hD hT ⊢
  have hA : ∀ q : Nat, s.heap.size ≤ q → A q := fun q h => by rw [← hAe]; exact Or.inr h
  have hS : va_S A s.heap s.heap [] := va_S.rf
  have hP : va_P G.1 vwCl [] s.heap := hP
  have hl := lv_entry ([.long p_x.toInt64, .long 0, .long 63]) (n := 6) (Nat.le_of_ble_eq_true rfl)
  rw [lg_entry_eq]
  generalize (lg_sl ([.long p_x.toInt64, .long 0, .long 63]) ++ List.replicate (6 - (lg_sl ([.long p_x.toInt64, .long 0, .long 63])).length) Slot.unset).toArray = ls at hl ⊢
  have hl : lv_has ls 6 [(0, .long p_x.toInt64), (2, .long 0), (4, .long 63)] := hl
  refine lv_lload_n hx hb dX12_in_0 rfl (lv_at hl 0 rfl) ?_
  refine lv_lload_n hx hb dX12_in_1 rfl (lv_at hl 1 rfl) ?_
  have tl_1 : p_x.toInt64.toInt = p_x.toInt := Int32.toInt_toInt64 _
  have tl_2 : (0 : Int64).toInt = 0 := (by decide)
  have tc_3 := g5_cmpI p_x.toInt64 0
  refine W.lcmp hx hb dX12_in_2 ?_
  refine lv_if_lt (tgt := 17) hx hb dX12_in_3 (by decide) (fun c_4 => ?_) (fun c_4 => ?_)
  ·
    have i_4 : (lg_cmp p_x.toInt64 0).toInt < 0 := by have z := g5_lt (a := (lg_cmp p_x.toInt64 0).toInt) (b := 0) (by rfl) (by decide) c_4; omega
    refine lv_iconst (v := 0) hx hb dX12_in_17 (by decide) ?_
    exact W.zret (v := 0) hx hb hr rfl (fun t ht hW => ⟨⟨0, [], rfl, Or.inl (⟨by omega, rfl, rfl⟩), by rw [ht]; exact hP.sub [] rfl, hD.sub [] (by decide) rfl⟩, hS.F ht⟩) hS.2.2 dX12_in_18
  ·
    have i_4 : (lg_cmp p_x.toInt64 0).toInt ≥ 0 := by have z := g5_ltN (a := (lg_cmp p_x.toInt64 0).toInt) (b := 0) (by rfl) (by decide) c_4; omega
    refine lv_lload_n hx hb dX12_in_6 rfl (lv_at hl 0 rfl) ?_
    refine lv_lload hx hb dX12_in_7 (lv_at hl 2 rfl) ?_
    have tl_5 : p_x.toInt64.toInt = p_x.toInt := Int32.toInt_toInt64 _
    have tl_6 : (63 : Int64).toInt = 63 := (by decide)
    have tc_7 := g5_cmpI p_x.toInt64 63
    refine W.lcmp hx hb dX12_in_9 ?_
    refine lv_if_gt (tgt := 17) hx hb dX12_in_10 (by decide) (fun c_8 => ?_) (fun c_8 => ?_)
    ·
      have i_8 : (lg_cmp p_x.toInt64 63).toInt > 0 := by have z := g5_gt (a := (lg_cmp p_x.toInt64 63).toInt) (b := 0) (by rfl) (by decide) c_8; omega
      refine lv_iconst (v := 0) hx hb dX12_in_17 (by decide) ?_
      exact W.zret (v := 0) hx hb hr rfl (fun t ht hW => ⟨⟨0, [], rfl, Or.inl (⟨by omega, rfl, rfl⟩), by rw [ht]; exact hP.sub [] rfl, hD.sub [] (by decide) rfl⟩, hS.F ht⟩) hS.2.2 dX12_in_18
    ·
      have i_8 : (lg_cmp p_x.toInt64 63).toInt ≤ 0 := by have z := g5_gtN (a := (lg_cmp p_x.toInt64 63).toInt) (b := 0) (by rfl) (by decide) c_8; omega
      refine lv_iconst (v := 1) hx hb dX12_in_13 (by decide) ?_
      refine lv_goto (tgt := 18) hx hb dX12_in_14 (by decide) ?_
      exact W.zret (v := 1) hx hb hr rfl (fun t ht hW => ⟨⟨1, [], rfl, Or.inr (⟨by omega, rfl, rfl⟩), by rw [ht]; exact hP.sub [] rfl, hD.sub [] (by decide) rfl⟩, hS.F ht⟩) hS.2.2 dX12_in_18
theorem ml_X12_121 : Cond.methodLink RX12 121 yX12_in ∈ tblG := tg 1364 (by decide +kernel) (by decide +kernel)
theorem st_X12_in : Cond.static yX12_in ∈ tblG := tg 1365 (by decide +kernel) (by decide +kernel)
theorem ini_X12 : Cond.initialized RX12 ∈ tblG := tg 99 (by decide +kernel) (by decide +kernel)
theorem cd_X12_in : Cond.code yX12_in cX12_in 6 (some .boolean) ∈ tblG := tg 1366 (by decide +kernel) (by decide +kernel)
theorem gW_X12_in : GoodIn tblG (wsG yX12_in cX12_in 6 (some .boolean)) := tgi cd_X12_in
theorem gS_X12_121 : GoodIn tblG (va_wsS RX12 121 yX12_in (wsG yX12_in cX12_in 6 (some .boolean))) := tgS ml_X12_121 st_X12_in ini_X12 gW_X12_in
theorem hs_X12_in : yX12_in.cls ≠ "java/lang/invoke/MethodHandle" ∧ yX12_in.cls ≠ "java/lang/invoke/VarHandle" ∧ (parseMethodDescriptor yX12_in.desc).map (fun d => d.parameters.length) = some 3 := by decide +kernel
set_option maxHeartbeats 4000000 in
set_option maxRecDepth 100000 in
theorem n_isCell (l : Launch) (G : g5_G) (sz : Nat) (p_0 : Int32) : Met l yX12_isCell (wsG yX12_isCell cX12_isCell 1 (some .boolean)) ({ frames := 1, cells := 0, slots := 0, locals := 25 }) (va_Pc [.int p_0] (g5_P G [] sz)) (va_Qi (fun (r : Int32) (u : va_W) => ((0 ≤ p_0.toInt ∧ p_0.toInt ≤ 63) ∧ (r = 1) ∧ (u = [])) ∨ ((r = 0) ∧ (u = []))) (g5_B G (va_A [] sz)) (va_A [] sz)) 0 0 (va_A [] sz) := by
  refine Met.ofW (cc := cX12_isCell) (maxL := 1) (ret := (some .boolean)) (by decide +kernel) rfl ?_
  intro p e s m args below meth c s₁ B hml hv
  obtain ⟨rfl, hsz, hP, hK, hD0, hN, hT⟩ := hv
  have hx := B.exec
  have hb := B.bytes
  have hr := B.returns
  have hts : ∀ w ∈ tblG, w.before _ s = true := fun w h => atoms_spec (ws := (wsG yX12_isCell cX12_isCell 1 (some .boolean))) B.pre w (List.mem_cons_of_mem _ h)
  have hown : s.vm.findClass RX12 = some m.cls := findClass_of_methodNamed B.named
  have hlocks := B.notSynchronized
  subst hsz
  have hD := hD0.self (sz := s.heap.size)
  generalize hAe : va_A [] s.heap.size = A at hD hT ⊢
  have hA : ∀ q : Nat, s.heap.size ≤ q → A q := fun q h => by rw [← hAe]; exact Or.inr h
  have hS : va_S A s.heap s.heap [] := va_S.rf
  replace hP : va_P G.1 vwCl [] s.heap := hP
  have hl := lv_entry ([.int p_0]) (n := 1) (Nat.le_of_ble_eq_true rfl)
  rw [lg_entry_eq]
  generalize (lg_sl ([.int p_0]) ++ List.replicate (1 - (lg_sl ([.int p_0])).length) Slot.unset).toArray = ls at hl ⊢
  replace hl : lv_has ls 1 [(0, .int p_0)] := hl
  refine lv_iload_n hx hb dX12_isCell_0 rfl (lv_at hl 0 rfl) ?_
  refine lv_i2l (v := p_0.toInt64) hx hb dX12_isCell_1 rfl ?_
  refine lv_lconst (v := 0) hx hb dX12_isCell_2 (by decide +kernel) ?_
  refine lv_ldc2 (v := 63) hx hb hown (hts _ kl_X12_128) dX12_isCell_3 ?_
  refine W.eq (g2 := F0 m 6 ls [.long 63, .long 0, .long p_0.toInt64]) rfl ?_
  obtain ⟨hPc, hDc, hFc⟩ := g5_sub3 (wc := []) hP hD hS hA [] (by decide +kernel) rfl
  refine va_calli (va_runS (As := [.long p_0.toInt64, .long 0, .long 63]) (rest := []) ⟨hx, hb, hml, hown, hts⟩ (n_in_0_63 l G s.heap.size p_0) (va_cwS 3 hts gS_X12_121 rfl rfl rfl hs_X12_in ⟨Nat.le_of_ble_eq_true rfl, Nat.le_of_ble_eq_true rfl⟩) (g5_preS hPc hK hDc hN hT hS hFc) rfl rfl hl.1 rfl (lv_room (Nat.le_of_ble_eq_true rfl)) dX12_isCell_6 ⟨Nat.le_of_ble_eq_true rfl, Nat.le_of_ble_eq_true rfl⟩) hS (fun q _ h => hFc q h) hFc (fun r u t H locs ht hvm hw hB hz1 hk1 hS => ?_)
  obtain ⟨hP1, hD1⟩ := hB
  have hP1 := g5_ht ht hP1
  rcases hw with ⟨(i_1 : p_0.toInt < 0 ∨ 63 < p_0.toInt), rfl, rfl⟩ | ⟨(i_2 : 0 ≤ p_0.toInt ∧ p_0.toInt ≤ 63), rfl, rfl⟩
  ·
    have hJ9 := g5_same hP hk1
    clear hP hPc hDc hFc ht hvm hz1 hk1 hP1 hD1
    have hP := hJ9
    clear hJ9
    exact W.zret (v := 0) hx hb hr rfl (fun t ht hW => ⟨⟨0, [], rfl, Or.inr (⟨rfl, rfl⟩), by rw [ht]; exact hP.sub [] rfl, hD.sub [] (by decide +kernel) rfl⟩, hS.F ht⟩) hS.2.2 dX12_isCell_9
  ·
    have hJ9 := g5_same hP hk1
    clear hP hPc hDc hFc ht hvm hz1 hk1 hP1 hD1
    have hP := hJ9
    clear hJ9
    exact W.zret (v := 1) hx hb hr rfl (fun t ht hW => ⟨⟨1, [], rfl, Or.inl (⟨i_2, rfl, rfl⟩), by rw [ht]; exact hP.sub [] rfl, hD.sub [] (by decide +kernel) rfl⟩, hS.F ht⟩) hS.2.2 dX12_isCell_9
theorem dgX12_isHour_0 : ∀ r ∈ ([(0, (.iload_n 0, 1)), (1, (.i2l, 1)), (2, (.lconst 0, 1)), (3, (.ldc2_w 130, 3)), (6, (.invokestatic 121, 3)), (9, (.ireturn, 1))] : List (Nat × (Instr × Nat))), decode cX12_isHour r.1 = .ok r.2 := by decide +kernel
theorem dX12_isHour_0 : decode cX12_isHour 0 = .ok (.iload_n 0, 1) := dgX12_isHour_0 (0, (.iload_n 0, 1)) (List.mem_of_getElem? (i := 0) rfl)
theorem dX12_isHour_1 : decode cX12_isHour 1 = .ok (.i2l, 1) := dgX12_isHour_0 (1, (.i2l, 1)) (List.mem_of_getElem? (i := 1) rfl)
theorem dX12_isHour_2 : decode cX12_isHour 2 = .ok (.lconst 0, 1) := dgX12_isHour_0 (2, (.lconst 0, 1)) (List.mem_of_getElem? (i := 2) rfl)
theorem dX12_isHour_3 : decode cX12_isHour 3 = .ok (.ldc2_w 130, 3) := dgX12_isHour_0 (3, (.ldc2_w 130, 3)) (List.mem_of_getElem? (i := 3) rfl)
theorem dX12_isHour_6 : decode cX12_isHour 6 = .ok (.invokestatic 121, 3) := dgX12_isHour_0 (6, (.invokestatic 121, 3)) (List.mem_of_getElem? (i := 4) rfl)
theorem dX12_isHour_9 : decode cX12_isHour 9 = .ok (.ireturn, 1) := dgX12_isHour_0 (9, (.ireturn, 1)) (List.mem_of_getElem? (i := 5) rfl)
theorem kl_X12_130 : Cond.constantLong RX12 130 23 ∈ tblG := tg 1415 (by decide +kernel) (by decide +kernel)
set_option maxHeartbeats 4000000 in
set_option maxRecDepth 100000 in
theorem n_in_0_23 (l : Launch) (G : g5_G) (sz : Nat) (p_x : Int32) : Met l yX12_in (wsG yX12_in cX12_in 6 (some .boolean)) ({ frames := 0, cells := 0, slots := 0, locals := 0 }) (va_Pc [.long p_x.toInt64, .long 0, .long 23] (g5_P G [] sz)) (va_Qi (fun (r : Int32) (u : va_W) => ((p_x.toInt < 0 ∨ 23 < p_x.toInt) ∧ (r = 0) ∧ (u = [])) ∨ ((0 ≤ p_x.toInt ∧ p_x.toInt ≤ 23) ∧ (r = 1) ∧ (u = []))) (g5_B G (va_A [] sz)) (va_A [] sz)) 0 0 (va_A [] sz) := by
  refine Met.ofW (cc := cX12_in) (maxL := 6) (ret := (some .boolean)) (by decide) rfl ?_
  intro p e s m args below meth c s₁ B hml hv
  obtain ⟨rfl, hsz, hP, hK, hD0, hN, hT⟩ := hv
  have hx := B.exec
  have hb := B.bytes
  have hr := B.returns
  have hts : ∀ w ∈ tblG, w.before _ s = true := fun w h => atoms_spec (ws := (wsG yX12_in cX12_in 6 (some .boolean))) B.pre w (List.mem_cons_of_mem _ h)
  have hown : s.vm.findClass RX12 = some m.cls := findClass_of_methodNamed B.named
  have hlocks := B.notSynchronized
  subst hsz
  have hD := hD0.self (sz := s.heap.size)
  generalize hAe : va_A [] s.heap.size = A at hD hT ⊢
  have hA : ∀ q : Nat, s.heap.size ≤ q → A q := fun q h => by rw [← hAe]; exact Or.inr h
  have hS : va_S A s.heap s.heap [] := va_S.rf
  have hP : va_P G.1 vwCl [] s.heap := hP
  have hl := lv_entry ([.long p_x.toInt64, .long 0, .long 23]) (n := 6) (Nat.le_of_ble_eq_true rfl)
  rw [lg_entry_eq]
  generalize (lg_sl ([.long p_x.toInt64, .long 0, .long 23]) ++ List.replicate (6 - (lg_sl ([.long p_x.toInt64, .long 0, .long 23])).length) Slot.unset).toArray = ls at hl ⊢
  have hl : lv_has ls 6 [(0, .long p_x.toInt64), (2, .long 0), (4, .long 23)] := hl
  refine lv_lload_n hx hb dX12_in_0 rfl (lv_at hl 0 rfl) ?_
  refine lv_lload_n hx hb dX12_in_1 rfl (lv_at hl 1 rfl) ?_
  have tl_1 : p_x.toInt64.toInt = p_x.toInt := Int32.toInt_toInt64 _
  have tl_2 : (0 : Int64).toInt = 0 := (by decide)
  have tc_3 := g5_cmpI p_x.toInt64 0
  refine W.lcmp hx hb dX12_in_2 ?_
  refine lv_if_lt (tgt := 17) hx hb dX12_in_3 (by decide) (fun c_4 => ?_) (fun c_4 => ?_)
  ·
    have i_4 : (lg_cmp p_x.toInt64 0).toInt < 0 := by have z := g5_lt (a := (lg_cmp p_x.toInt64 0).toInt) (b := 0) (by rfl) (by decide) c_4; omega
    refine lv_iconst (v := 0) hx hb dX12_in_17 (by decide) ?_
    exact W.zret (v := 0) hx hb hr rfl (fun t ht hW => ⟨⟨0, [], rfl, Or.inl (⟨by omega, rfl, rfl⟩), by rw [ht]; exact hP.sub [] rfl, hD.sub [] (by decide) rfl⟩, hS.F ht⟩) hS.2.2 dX12_in_18
  ·
    have i_4 : (lg_cmp p_x.toInt64 0).toInt ≥ 0 := by have z := g5_ltN (a := (lg_cmp p_x.toInt64 0).toInt) (b := 0) (by rfl) (by decide) c_4; omega
    refine lv_lload_n hx hb dX12_in_6 rfl (lv_at hl 0 rfl) ?_
    refine lv_lload hx hb dX12_in_7 (lv_at hl 2 rfl) ?_
    have tl_5 : p_x.toInt64.toInt = p_x.toInt := Int32.toInt_toInt64 _
    have tl_6 : (23 : Int64).toInt = 23 := (by decide)
    have tc_7 := g5_cmpI p_x.toInt64 23
    refine W.lcmp hx hb dX12_in_9 ?_
    refine lv_if_gt (tgt := 17) hx hb dX12_in_10 (by decide) (fun c_8 => ?_) (fun c_8 => ?_)
    ·
      have i_8 : (lg_cmp p_x.toInt64 23).toInt > 0 := by have z := g5_gt (a := (lg_cmp p_x.toInt64 23).toInt) (b := 0) (by rfl) (by decide) c_8; omega
      refine lv_iconst (v := 0) hx hb dX12_in_17 (by decide) ?_
      exact W.zret (v := 0) hx hb hr rfl (fun t ht hW => ⟨⟨0, [], rfl, Or.inl (⟨by omega, rfl, rfl⟩), by rw [ht]; exact hP.sub [] rfl, hD.sub [] (by decide) rfl⟩, hS.F ht⟩) hS.2.2 dX12_in_18
    ·
      have i_8 : (lg_cmp p_x.toInt64 23).toInt ≤ 0 := by have z := g5_gtN (a := (lg_cmp p_x.toInt64 23).toInt) (b := 0) (by rfl) (by decide) c_8; omega
      refine lv_iconst (v := 1) hx hb dX12_in_13 (by decide) ?_
      refine lv_goto (tgt := 18) hx hb dX12_in_14 (by decide) ?_
      exact W.zret (v := 1) hx hb hr rfl (fun t ht hW => ⟨⟨1, [], rfl, Or.inr (⟨by omega, rfl, rfl⟩), by rw [ht]; exact hP.sub [] rfl, hD.sub [] (by decide) rfl⟩, hS.F ht⟩) hS.2.2 dX12_in_18
set_option maxHeartbeats 4000000 in
set_option maxRecDepth 100000 in
theorem n_isHour (l : Launch) (G : g5_G) (sz : Nat) (p_0 : Int32) : Met l yX12_isHour (wsG yX12_isHour cX12_isHour 1 (some .boolean)) ({ frames := 1, cells := 0, slots := 0, locals := 25 }) (va_Pc [.int p_0] (g5_P G [] sz)) (va_Qi (fun (r : Int32) (u : va_W) => ((0 ≤ p_0.toInt ∧ p_0.toInt ≤ 23) ∧ (r = 1) ∧ (u = [])) ∨ ((r = 0) ∧ (u = []))) (g5_B G (va_A [] sz)) (va_A [] sz)) 0 0 (va_A [] sz) := by
  refine Met.ofW (cc := cX12_isHour) (maxL := 1) (ret := (some .boolean)) (by decide +kernel) rfl ?_
  intro p e s m args below meth c s₁ B hml hv
  obtain ⟨rfl, hsz, hP, hK, hD0, hN, hT⟩ := hv
  have hx := B.exec
  have hb := B.bytes
  have hr := B.returns
  have hts : ∀ w ∈ tblG, w.before _ s = true := fun w h => atoms_spec (ws := (wsG yX12_isHour cX12_isHour 1 (some .boolean))) B.pre w (List.mem_cons_of_mem _ h)
  have hown : s.vm.findClass RX12 = some m.cls := findClass_of_methodNamed B.named
  have hlocks := B.notSynchronized
  subst hsz
  have hD := hD0.self (sz := s.heap.size)
  generalize hAe : va_A [] s.heap.size = A at hD hT ⊢
  have hA : ∀ q : Nat, s.heap.size ≤ q → A q := fun q h => by rw [← hAe]; exact Or.inr h
  have hS : va_S A s.heap s.heap [] := va_S.rf
  replace hP : va_P G.1 vwCl [] s.heap := hP
  have hl := lv_entry ([.int p_0]) (n := 1) (Nat.le_of_ble_eq_true rfl)
  rw [lg_entry_eq]
  generalize (lg_sl ([.int p_0]) ++ List.replicate (1 - (lg_sl ([.int p_0])).length) Slot.unset).toArray = ls at hl ⊢
  replace hl : lv_has ls 1 [(0, .int p_0)] := hl
  refine lv_iload_n hx hb dX12_isHour_0 rfl (lv_at hl 0 rfl) ?_
  refine lv_i2l (v := p_0.toInt64) hx hb dX12_isHour_1 rfl ?_
  refine lv_lconst (v := 0) hx hb dX12_isHour_2 (by decide +kernel) ?_
  refine lv_ldc2 (v := 23) hx hb hown (hts _ kl_X12_130) dX12_isHour_3 ?_
  refine W.eq (g2 := F0 m 6 ls [.long 23, .long 0, .long p_0.toInt64]) rfl ?_
  obtain ⟨hPc, hDc, hFc⟩ := g5_sub3 (wc := []) hP hD hS hA [] (by decide +kernel) rfl
  refine va_calli (va_runS (As := [.long p_0.toInt64, .long 0, .long 23]) (rest := []) ⟨hx, hb, hml, hown, hts⟩ (n_in_0_23 l G s.heap.size p_0) (va_cwS 3 hts gS_X12_121 rfl rfl rfl hs_X12_in ⟨Nat.le_of_ble_eq_true rfl, Nat.le_of_ble_eq_true rfl⟩) (g5_preS hPc hK hDc hN hT hS hFc) rfl rfl hl.1 rfl (lv_room (Nat.le_of_ble_eq_true rfl)) dX12_isHour_6 ⟨Nat.le_of_ble_eq_true rfl, Nat.le_of_ble_eq_true rfl⟩) hS (fun q _ h => hFc q h) hFc (fun r u t H locs ht hvm hw hB hz1 hk1 hS => ?_)
  obtain ⟨hP1, hD1⟩ := hB
  have hP1 := g5_ht ht hP1
  rcases hw with ⟨(i_1 : p_0.toInt < 0 ∨ 23 < p_0.toInt), rfl, rfl⟩ | ⟨(i_2 : 0 ≤ p_0.toInt ∧ p_0.toInt ≤ 23), rfl, rfl⟩
  ·
    have hJ9 := g5_same hP hk1
    clear hP hPc hDc hFc ht hvm hz1 hk1 hP1 hD1
    have hP := hJ9
    clear hJ9
    exact W.zret (v := 0) hx hb hr rfl (fun t ht hW => ⟨⟨0, [], rfl, Or.inr (⟨rfl, rfl⟩), by rw [ht]; exact hP.sub [] rfl, hD.sub [] (by decide +kernel) rfl⟩, hS.F ht⟩) hS.2.2 dX12_isHour_9
  ·
    have hJ9 := g5_same hP hk1
    clear hP hPc hDc hFc ht hvm hz1 hk1 hP1 hD1
    have hP := hJ9
    clear hJ9
    exact W.zret (v := 1) hx hb hr rfl (fun t ht hW => ⟨⟨1, [], rfl, Or.inl (⟨i_2, rfl, rfl⟩), by rw [ht]; exact hP.sub [] rfl, hD.sub [] (by decide +kernel) rfl⟩, hS.F ht⟩) hS.2.2 dX12_isHour_9
theorem dgX12_isWay_0 : ∀ r ∈ ([(0, (.iload_n 0, 1)), (1, (.i2l, 1)), (2, (.lconst 0, 1)), (3, (.ldc2_w 132, 3)), (6, (.invokestatic 121, 3)), (9, (.ireturn, 1))] : List (Nat × (Instr × Nat))), decode cX12_isWay r.1 = .ok r.2 := by decide +kernel
theorem dX12_isWay_0 : decode cX12_isWay 0 = .ok (.iload_n 0, 1) := dgX12_isWay_0 (0, (.iload_n 0, 1)) (List.mem_of_getElem? (i := 0) rfl)
theorem dX12_isWay_1 : decode cX12_isWay 1 = .ok (.i2l, 1) := dgX12_isWay_0 (1, (.i2l, 1)) (List.mem_of_getElem? (i := 1) rfl)
theorem dX12_isWay_2 : decode cX12_isWay 2 = .ok (.lconst 0, 1) := dgX12_isWay_0 (2, (.lconst 0, 1)) (List.mem_of_getElem? (i := 2) rfl)
theorem dX12_isWay_3 : decode cX12_isWay 3 = .ok (.ldc2_w 132, 3) := dgX12_isWay_0 (3, (.ldc2_w 132, 3)) (List.mem_of_getElem? (i := 3) rfl)
theorem dX12_isWay_6 : decode cX12_isWay 6 = .ok (.invokestatic 121, 3) := dgX12_isWay_0 (6, (.invokestatic 121, 3)) (List.mem_of_getElem? (i := 4) rfl)
theorem dX12_isWay_9 : decode cX12_isWay 9 = .ok (.ireturn, 1) := dgX12_isWay_0 (9, (.ireturn, 1)) (List.mem_of_getElem? (i := 5) rfl)
theorem kl_X12_132 : Cond.constantLong RX12 132 3 ∈ tblG := tg 1609 (by decide +kernel) (by decide +kernel)
set_option maxHeartbeats 4000000 in
set_option maxRecDepth 100000 in
theorem n_in_0_3 (l : Launch) (G : g5_G) (sz : Nat) (p_x : Int32) : Met l yX12_in (wsG yX12_in cX12_in 6 (some .boolean)) ({ frames := 0, cells := 0, slots := 0, locals := 0 }) (va_Pc [.long p_x.toInt64, .long 0, .long 3] (g5_P G [] sz)) (va_Qi (fun (r : Int32) (u : va_W) => ((p_x.toInt < 0 ∨ 3 < p_x.toInt) ∧ (r = 0) ∧ (u = [])) ∨ ((0 ≤ p_x.toInt ∧ p_x.toInt ≤ 3) ∧ (r = 1) ∧ (u = []))) (g5_B G (va_A [] sz)) (va_A [] sz)) 0 0 (va_A [] sz) := by
  refine Met.ofW (cc := cX12_in) (maxL := 6) (ret := (some .boolean)) (by decide) rfl ?_
  intro p e s m args below meth c s₁ B hml hv
  obtain ⟨rfl, hsz, hP, hK, hD0, hN, hT⟩ := hv
  have hx := B.exec
  have hb := B.bytes
  have hr := B.returns
  have hts : ∀ w ∈ tblG, w.before _ s = true := fun w h => atoms_spec (ws := (wsG yX12_in cX12_in 6 (some .boolean))) B.pre w (List.mem_cons_of_mem _ h)
  have hown : s.vm.findClass RX12 = some m.cls := findClass_of_methodNamed B.named
  have hlocks := B.notSynchronized
  subst hsz
  have hD := hD0.self (sz := s.heap.size)
  generalize hAe : va_A [] s.heap.size = A at hD hT ⊢
  have hA : ∀ q : Nat, s.heap.size ≤ q → A q := fun q h => by rw [← hAe]; exact Or.inr h
  have hS : va_S A s.heap s.heap [] := va_S.rf
  have hP : va_P G.1 vwCl [] s.heap := hP
  have hl := lv_entry ([.long p_x.toInt64, .long 0, .long 3]) (n := 6) (Nat.le_of_ble_eq_true rfl)
  rw [lg_entry_eq]
  generalize (lg_sl ([.long p_x.toInt64, .long 0, .long 3]) ++ List.replicate (6 - (lg_sl ([.long p_x.toInt64, .long 0, .long 3])).length) Slot.unset).toArray = ls at hl ⊢
  have hl : lv_has ls 6 [(0, .long p_x.toInt64), (2, .long 0), (4, .long 3)] := hl
  refine lv_lload_n hx hb dX12_in_0 rfl (lv_at hl 0 rfl) ?_
  refine lv_lload_n hx hb dX12_in_1 rfl (lv_at hl 1 rfl) ?_
  have tl_1 : p_x.toInt64.toInt = p_x.toInt := Int32.toInt_toInt64 _
  have tl_2 : (0 : Int64).toInt = 0 := (by decide)
  have tc_3 := g5_cmpI p_x.toInt64 0
  refine W.lcmp hx hb dX12_in_2 ?_
  refine lv_if_lt (tgt := 17) hx hb dX12_in_3 (by decide) (fun c_4 => ?_) (fun c_4 => ?_)
  ·
    have i_4 : (lg_cmp p_x.toInt64 0).toInt < 0 := by have z := g5_lt (a := (lg_cmp p_x.toInt64 0).toInt) (b := 0) (by rfl) (by decide) c_4; omega
    refine lv_iconst (v := 0) hx hb dX12_in_17 (by decide) ?_
    exact W.zret (v := 0) hx hb hr rfl (fun t ht hW => ⟨⟨0, [], rfl, Or.inl (⟨by omega, rfl, rfl⟩), by rw [ht]; exact hP.sub [] rfl, hD.sub [] (by decide) rfl⟩, hS.F ht⟩) hS.2.2 dX12_in_18
  ·
    have i_4 : (lg_cmp p_x.toInt64 0).toInt ≥ 0 := by have z := g5_ltN (a := (lg_cmp p_x.toInt64 0).toInt) (b := 0) (by rfl) (by decide) c_4; omega
    refine lv_lload_n hx hb dX12_in_6 rfl (lv_at hl 0 rfl) ?_
    refine lv_lload hx hb dX12_in_7 (lv_at hl 2 rfl) ?_
    have tl_5 : p_x.toInt64.toInt = p_x.toInt := Int32.toInt_toInt64 _
    have tl_6 : (3 : Int64).toInt = 3 := (by decide)
    have tc_7 := g5_cmpI p_x.toInt64 3
    refine W.lcmp hx hb dX12_in_9 ?_
    refine lv_if_gt (tgt := 17) hx hb dX12_in_10 (by decide) (fun c_8 => ?_) (fun c_8 => ?_)
    ·
      have i_8 : (lg_cmp p_x.toInt64 3).toInt > 0 := by have z := g5_gt (a := (lg_cmp p_x.toInt64 3).toInt) (b := 0) (by rfl) (by decide) c_8; omega
      refine lv_iconst (v := 0) hx hb dX12_in_17 (by decide) ?_
      exact W.zret (v := 0) hx hb hr rfl (fun t ht hW => ⟨⟨0, [], rfl, Or.inl (⟨by omega, rfl, rfl⟩), by rw [ht]; exact hP.sub [] rfl, hD.sub [] (by decide) rfl⟩, hS.F ht⟩) hS.2.2 dX12_in_18
    ·
      have i_8 : (lg_cmp p_x.toInt64 3).toInt ≤ 0 := by have z := g5_gtN (a := (lg_cmp p_x.toInt64 3).toInt) (b := 0) (by rfl) (by decide) c_8; omega
      refine lv_iconst (v := 1) hx hb dX12_in_13 (by decide) ?_
      refine lv_goto (tgt := 18) hx hb dX12_in_14 (by decide) ?_
      exact W.zret (v := 1) hx hb hr rfl (fun t ht hW => ⟨⟨1, [], rfl, Or.inr (⟨by omega, rfl, rfl⟩), by rw [ht]; exact hP.sub [] rfl, hD.sub [] (by decide) rfl⟩, hS.F ht⟩) hS.2.2 dX12_in_18
set_option maxHeartbeats 4000000 in
set_option maxRecDepth 100000 in
theorem n_isWay (l : Launch) (G : g5_G) (sz : Nat) (p_0 : Int32) : Met l yX12_isWay (wsG yX12_isWay cX12_isWay 1 (some .boolean)) ({ frames := 1, cells := 0, slots := 0, locals := 25 }) (va_Pc [.int p_0] (g5_P G [] sz)) (va_Qi (fun (r : Int32) (u : va_W) => ((0 ≤ p_0.toInt ∧ p_0.toInt ≤ 3) ∧ (r = 1) ∧ (u = [])) ∨ ((r = 0) ∧ (u = []))) (g5_B G (va_A [] sz)) (va_A [] sz)) 0 0 (va_A [] sz) := by
  refine Met.ofW (cc := cX12_isWay) (maxL := 1) (ret := (some .boolean)) (by decide +kernel) rfl ?_
  intro p e s m args below meth c s₁ B hml hv
  obtain ⟨rfl, hsz, hP, hK, hD0, hN, hT⟩ := hv
  have hx := B.exec
  have hb := B.bytes
  have hr := B.returns
  have hts : ∀ w ∈ tblG, w.before _ s = true := fun w h => atoms_spec (ws := (wsG yX12_isWay cX12_isWay 1 (some .boolean))) B.pre w (List.mem_cons_of_mem _ h)
  have hown : s.vm.findClass RX12 = some m.cls := findClass_of_methodNamed B.named
  have hlocks := B.notSynchronized
  subst hsz
  have hD := hD0.self (sz := s.heap.size)
  generalize hAe : va_A [] s.heap.size = A at hD hT ⊢
  have hA : ∀ q : Nat, s.heap.size ≤ q → A q := fun q h => by rw [← hAe]; exact Or.inr h
  have hS : va_S A s.heap s.heap [] := va_S.rf
  replace hP : va_P G.1 vwCl [] s.heap := hP
  have hl := lv_entry ([.int p_0]) (n := 1) (Nat.le_of_ble_eq_true rfl)
  rw [lg_entry_eq]
  generalize (lg_sl ([.int p_0]) ++ List.replicate (1 - (lg_sl ([.int p_0])).length) Slot.unset).toArray = ls at hl ⊢
  replace hl : lv_has ls 1 [(0, .int p_0)] := hl
  refine lv_iload_n hx hb dX12_isWay_0 rfl (lv_at hl 0 rfl) ?_
  refine lv_i2l (v := p_0.toInt64) hx hb dX12_isWay_1 rfl ?_
  refine lv_lconst (v := 0) hx hb dX12_isWay_2 (by decide +kernel) ?_
  refine lv_ldc2 (v := 3) hx hb hown (hts _ kl_X12_132) dX12_isWay_3 ?_
  refine W.eq (g2 := F0 m 6 ls [.long 3, .long 0, .long p_0.toInt64]) rfl ?_
  obtain ⟨hPc, hDc, hFc⟩ := g5_sub3 (wc := []) hP hD hS hA [] (by decide +kernel) rfl
  refine va_calli (va_runS (As := [.long p_0.toInt64, .long 0, .long 3]) (rest := []) ⟨hx, hb, hml, hown, hts⟩ (n_in_0_3 l G s.heap.size p_0) (va_cwS 3 hts gS_X12_121 rfl rfl rfl hs_X12_in ⟨Nat.le_of_ble_eq_true rfl, Nat.le_of_ble_eq_true rfl⟩) (g5_preS hPc hK hDc hN hT hS hFc) rfl rfl hl.1 rfl (lv_room (Nat.le_of_ble_eq_true rfl)) dX12_isWay_6 ⟨Nat.le_of_ble_eq_true rfl, Nat.le_of_ble_eq_true rfl⟩) hS (fun q _ h => hFc q h) hFc (fun r u t H locs ht hvm hw hB hz1 hk1 hS => ?_)
  obtain ⟨hP1, hD1⟩ := hB
  have hP1 := g5_ht ht hP1
  rcases hw with ⟨(i_1 : p_0.toInt < 0 ∨ 3 < p_0.toInt), rfl, rfl⟩ | ⟨(i_2 : 0 ≤ p_0.toInt ∧ p_0.toInt ≤ 3), rfl, rfl⟩
  ·
    have hJ9 := g5_same hP hk1
    clear hP hPc hDc hFc ht hvm hz1 hk1 hP1 hD1
    have hP := hJ9
    clear hJ9
    exact W.zret (v := 0) hx hb hr rfl (fun t ht hW => ⟨⟨0, [], rfl, Or.inr (⟨rfl, rfl⟩), by rw [ht]; exact hP.sub [] rfl, hD.sub [] (by decide +kernel) rfl⟩, hS.F ht⟩) hS.2.2 dX12_isWay_9
  ·
    have hJ9 := g5_same hP hk1
    clear hP hPc hDc hFc ht hvm hz1 hk1 hP1 hD1
    have hP := hJ9
    clear hJ9
    exact W.zret (v := 1) hx hb hr rfl (fun t ht hW => ⟨⟨1, [], rfl, Or.inl (⟨i_2, rfl, rfl⟩), by rw [ht]; exact hP.sub [] rfl, hD.sub [] (by decide +kernel) rfl⟩, hS.F ht⟩) hS.2.2 dX12_isWay_9
theorem dgX12_isLook_0 : ∀ r ∈ ([(0, (.iload_n 0, 1)), (1, (.invokestatic 138, 3)), (4, (.ifCond .eq 21, 3)), (7, (.iload_n 1, 1)), (8, (.invokestatic 394, 3)), (11, (.ifCond .eq 14, 3)), (14, (.iload_n 2, 1)), (15, (.invokestatic 175, 3)), (18, (.ifCond .eq 7, 3)), (21, (.iconst 1, 1)), (22, (.goto 4, 3)), (25, (.iconst 0, 1)), (26, (.ireturn, 1))] : List (Nat × (Instr × Nat))), decode cX12_isLook r.1 = .ok r.2 := by decide +kernel
theorem dX12_isLook_0 : decode cX12_isLook 0 = .ok (.iload_n 0, 1) := dgX12_isLook_0 (0, (.iload_n 0, 1)) (List.mem_of_getElem? (i := 0) rfl)
theorem dX12_isLook_1 : decode cX12_isLook 1 = .ok (.invokestatic 138, 3) := dgX12_isLook_0 (1, (.invokestatic 138, 3)) (List.mem_of_getElem? (i := 1) rfl)
theorem dX12_isLook_4 : decode cX12_isLook 4 = .ok (.ifCond .eq 21, 3) := dgX12_isLook_0 (4, (.ifCond .eq 21, 3)) (List.mem_of_getElem? (i := 2) rfl)
theorem dX12_isLook_7 : decode cX12_isLook 7 = .ok (.iload_n 1, 1) := dgX12_isLook_0 (7, (.iload_n 1, 1)) (List.mem_of_getElem? (i := 3) rfl)
theorem dX12_isLook_8 : decode cX12_isLook 8 = .ok (.invokestatic 394, 3) := dgX12_isLook_0 (8, (.invokestatic 394, 3)) (List.mem_of_getElem? (i := 4) rfl)
theorem dX12_isLook_11 : decode cX12_isLook 11 = .ok (.ifCond .eq 14, 3) := dgX12_isLook_0 (11, (.ifCond .eq 14, 3)) (List.mem_of_getElem? (i := 5) rfl)
theorem dX12_isLook_14 : decode cX12_isLook 14 = .ok (.iload_n 2, 1) := dgX12_isLook_0 (14, (.iload_n 2, 1)) (List.mem_of_getElem? (i := 6) rfl)
theorem dX12_isLook_15 : decode cX12_isLook 15 = .ok (.invokestatic 175, 3) := dgX12_isLook_0 (15, (.invokestatic 175, 3)) (List.mem_of_getElem? (i := 7) rfl)
theorem dX12_isLook_18 : decode cX12_isLook 18 = .ok (.ifCond .eq 7, 3) := dgX12_isLook_0 (18, (.ifCond .eq 7, 3)) (List.mem_of_getElem? (i := 8) rfl)
theorem dX12_isLook_21 : decode cX12_isLook 21 = .ok (.iconst 1, 1) := dgX12_isLook_0 (21, (.iconst 1, 1)) (List.mem_of_getElem? (i := 9) rfl)
theorem dX12_isLook_22 : decode cX12_isLook 22 = .ok (.goto 4, 3) := dgX12_isLook_0 (22, (.goto 4, 3)) (List.mem_of_getElem? (i := 10) rfl)
theorem dX12_isLook_25 : decode cX12_isLook 25 = .ok (.iconst 0, 1) := dgX12_isLook_0 (25, (.iconst 0, 1)) (List.mem_of_getElem? (i := 11) rfl)
theorem dX12_isLook_26 : decode cX12_isLook 26 = .ok (.ireturn, 1) := dgX12_isLook_0 (26, (.ireturn, 1)) (List.mem_of_getElem? (i := 12) rfl)
theorem ml_X12_138 : Cond.methodLink RX12 138 yX12_isCell ∈ tblG := tg 1379 (by decide +kernel) (by decide +kernel)
theorem st_X12_isCell : Cond.static yX12_isCell ∈ tblG := tg 1380 (by decide +kernel) (by decide +kernel)
theorem cd_X12_isCell : Cond.code yX12_isCell cX12_isCell 1 (some .boolean) ∈ tblG := tg 1381 (by decide +kernel) (by decide +kernel)
theorem gW_X12_isCell : GoodIn tblG (wsG yX12_isCell cX12_isCell 1 (some .boolean)) := tgi cd_X12_isCell
theorem gS_X12_138 : GoodIn tblG (va_wsS RX12 138 yX12_isCell (wsG yX12_isCell cX12_isCell 1 (some .boolean))) := tgS ml_X12_138 st_X12_isCell ini_X12 gW_X12_isCell
theorem hs_X12_isCell : yX12_isCell.cls ≠ "java/lang/invoke/MethodHandle" ∧ yX12_isCell.cls ≠ "java/lang/invoke/VarHandle" ∧ (parseMethodDescriptor yX12_isCell.desc).map (fun d => d.parameters.length) = some 1 := by decide +kernel
theorem ml_X12_394 : Cond.methodLink RX12 394 yX12_isWay ∈ tblG := tg 1606 (by decide +kernel) (by decide +kernel)
theorem st_X12_isWay : Cond.static yX12_isWay ∈ tblG := tg 1607 (by decide +kernel) (by decide +kernel)
theorem cd_X12_isWay : Cond.code yX12_isWay cX12_isWay 1 (some .boolean) ∈ tblG := tg 1608 (by decide +kernel) (by decide +kernel)
theorem gW_X12_isWay : GoodIn tblG (wsG yX12_isWay cX12_isWay 1 (some .boolean)) := tgi cd_X12_isWay
theorem gS_X12_394 : GoodIn tblG (va_wsS RX12 394 yX12_isWay (wsG yX12_isWay cX12_isWay 1 (some .boolean))) := tgS ml_X12_394 st_X12_isWay ini_X12 gW_X12_isWay
theorem hs_X12_isWay : yX12_isWay.cls ≠ "java/lang/invoke/MethodHandle" ∧ yX12_isWay.cls ≠ "java/lang/invoke/VarHandle" ∧ (parseMethodDescriptor yX12_isWay.desc).map (fun d => d.parameters.length) = some 1 := by decide +kernel
theorem ml_X12_175 : Cond.methodLink RX12 175 yX12_isHour ∈ tblG := tg 1447 (by decide +kernel) (by decide +kernel)
theorem st_X12_isHour : Cond.static yX12_isHour ∈ tblG := tg 1448 (by decide +kernel) (by decide +kernel)
theorem cd_X12_isHour : Cond.code yX12_isHour cX12_isHour 1 (some .boolean) ∈ tblG := tg 1449 (by decide +kernel) (by decide +kernel)
theorem gW_X12_isHour : GoodIn tblG (wsG yX12_isHour cX12_isHour 1 (some .boolean)) := tgi cd_X12_isHour
theorem gS_X12_175 : GoodIn tblG (va_wsS RX12 175 yX12_isHour (wsG yX12_isHour cX12_isHour 1 (some .boolean))) := tgS ml_X12_175 st_X12_isHour ini_X12 gW_X12_isHour
theorem hs_X12_isHour : yX12_isHour.cls ≠ "java/lang/invoke/MethodHandle" ∧ yX12_isHour.cls ≠ "java/lang/invoke/VarHandle" ∧ (parseMethodDescriptor yX12_isHour.desc).map (fun d => d.parameters.length) = some 1 := by decide +kernel
set_option maxHeartbeats 4000000 in
set_option maxRecDepth 100000 in
theorem n_isLook (l : Launch) (G : g5_G) (sz : Nat) (p_0 : Int32) (p_1 : Int32) (p_2 : Int32) : Met l yX12_isLook (wsG yX12_isLook cX12_isLook 3 (some .boolean)) ({ frames := 2, cells := 0, slots := 0, locals := 45 }) (va_Pc [.int p_0, .int p_1, .int p_2] (g5_P G [] sz)) (va_Qi (fun (r : Int32) (u : va_W) => ((0 ≤ p_0.toInt ∧ p_0.toInt ≤ 63) ∧ (0 ≤ p_1.toInt ∧ p_1.toInt ≤ 3) ∧ (0 ≤ p_2.toInt ∧ p_2.toInt ≤ 23) ∧ (r = 1) ∧ (u = [])) ∨ ((r = 0) ∧ (u = []))) (g5_B G (va_A [] sz)) (va_A [] sz)) 0 0 (va_A [] sz) := by
  refine Met.ofW (cc := cX12_isLook) (maxL := 3) (ret := (some .boolean)) (by decide +kernel) rfl ?_
  intro p e s m args below meth c s₁ B hml hv
  obtain ⟨rfl, hsz, hP, hK, hD0, hN, hT⟩ := hv
  have hx := B.exec
  have hb := B.bytes
  have hr := B.returns
  have hts : ∀ w ∈ tblG, w.before _ s = true := fun w h => atoms_spec (ws := (wsG yX12_isLook cX12_isLook 3 (some .boolean))) B.pre w (List.mem_cons_of_mem _ h)
  have hown : s.vm.findClass RX12 = some m.cls := findClass_of_methodNamed B.named
  have hlocks := B.notSynchronized
  subst hsz
  have hD := hD0.self (sz := s.heap.size)
  generalize hAe : va_A [] s.heap.size = A at hD hT ⊢
  have hA : ∀ q : Nat, s.heap.size ≤ q → A q := fun q h => by rw [← hAe]; exact Or.inr h
  have hS : va_S A s.heap s.heap [] := va_S.rf
  replace hP : va_P G.1 vwCl [] s.heap := hP
  have hl := lv_entry ([.int p_0, .int p_1, .int p_2]) (n := 3) (Nat.le_of_ble_eq_true rfl)
  rw [lg_entry_eq]
  generalize (lg_sl ([.int p_0, .int p_1, .int p_2]) ++ List.replicate (3 - (lg_sl ([.int p_0, .int p_1, .int p_2])).length) Slot.unset).toArray = ls at hl ⊢
  replace hl : lv_has ls 3 [(0, .int p_0), (1, .int p_1), (2, .int p_2)] := hl
  refine lv_iload_n hx hb dX12_isLook_0 rfl (lv_at hl 0 rfl) ?_
  obtain ⟨hPc, hDc, hFc⟩ := g5_sub3 (wc := []) hP hD hS hA [] (by decide +kernel) rfl
  refine va_calli (va_runS (As := [.int p_0]) (rest := []) ⟨hx, hb, hml, hown, hts⟩ (n_isCell l G s.heap.size p_0) (va_cwS 1 hts gS_X12_138 rfl rfl rfl hs_X12_isCell ⟨Nat.le_of_ble_eq_true rfl, Nat.le_of_ble_eq_true rfl⟩) (g5_preS hPc hK hDc hN hT hS hFc) rfl rfl hl.1 rfl (lv_room (Nat.le_of_ble_eq_true rfl)) dX12_isLook_1 ⟨Nat.le_of_ble_eq_true rfl, Nat.le_of_ble_eq_true rfl⟩) hS (fun q _ h => hFc q h) hFc (fun r u t H locs ht hvm hw hB hz1 hk1 hS => ?_)
  obtain ⟨hP1, hD1⟩ := hB
  have hP1 := g5_ht ht hP1
  rcases hw with ⟨(i_1 : 0 ≤ p_0.toInt ∧ p_0.toInt ≤ 63), rfl, rfl⟩ | ⟨rfl, rfl⟩
  ·
    have hJ9 := g5_same hP hk1
    clear hP hPc hDc hFc ht hvm hz1 hk1 hP1 hD1
    have hP := hJ9
    clear hJ9
    refine lv_if_eq (tgt := 25) hx hb dX12_isLook_4 (by decide +kernel) (fun c_2 => ?_) (fun c_2 => ?_)
    ·
      exact absurd c_2 (by decide +kernel)
    ·
      refine lv_iload_n hx hb dX12_isLook_7 rfl (lv_at hl 1 rfl) ?_
      obtain ⟨hPc, hDc, hFc⟩ := g5_sub3 (wc := []) hP hD hS hA [] (by decide +kernel) rfl
      refine va_calli (va_runS (As := [.int p_1]) (rest := []) ⟨hx, hb, hml, hown, hts⟩ (n_isWay l G H.size p_1) (va_cwS 1 hts gS_X12_394 rfl rfl rfl hs_X12_isWay ⟨Nat.le_of_ble_eq_true rfl, Nat.le_of_ble_eq_true rfl⟩) (g5_preS hPc hK hDc hN hT hS hFc) rfl rfl hl.1 rfl (lv_room (Nat.le_of_ble_eq_true rfl)) dX12_isLook_8 ⟨Nat.le_of_ble_eq_true rfl, Nat.le_of_ble_eq_true rfl⟩) hS (fun q _ h => hFc q h) hFc (fun r u t H locs ht hvm hw hB hz1 hk1 hS => ?_)
      obtain ⟨hP1, hD1⟩ := hB
      have hP1 := g5_ht ht hP1
      rcases hw with ⟨(i_3 : 0 ≤ p_1.toInt ∧ p_1.toInt ≤ 3), rfl, rfl⟩ | ⟨rfl, rfl⟩
      ·
        have hJ9 := g5_same hP hk1
        clear hP hPc hDc hFc ht hvm hz1 hk1 hP1 hD1
        have hP := hJ9
        clear hJ9
        refine lv_if_eq (tgt := 25) hx hb dX12_isLook_11 (by decide +kernel) (fun c_4 => ?_) (fun c_4 => ?_)
        ·
          exact absurd c_4 (by decide +kernel)
        ·
          refine lv_iload_n hx hb dX12_isLook_14 rfl (lv_at hl 2 rfl) ?_
          obtain ⟨hPc, hDc, hFc⟩ := g5_sub3 (wc := []) hP hD hS hA [] (by decide +kernel) rfl
          refine va_calli (va_runS (As := [.int p_2]) (rest := []) ⟨hx, hb, hml, hown, hts⟩ (n_isHour l G H.size p_2) (va_cwS 1 hts gS_X12_175 rfl rfl rfl hs_X12_isHour ⟨Nat.le_of_ble_eq_true rfl, Nat.le_of_ble_eq_true rfl⟩) (g5_preS hPc hK hDc hN hT hS hFc) rfl rfl hl.1 rfl (lv_room (Nat.le_of_ble_eq_true rfl)) dX12_isLook_15 ⟨Nat.le_of_ble_eq_true rfl, Nat.le_of_ble_eq_true rfl⟩) hS (fun q _ h => hFc q h) hFc (fun r u t H locs ht hvm hw hB hz1 hk1 hS => ?_)
          obtain ⟨hP1, hD1⟩ := hB
          have hP1 := g5_ht ht hP1
          rcases hw with ⟨(i_5 : 0 ≤ p_2.toInt ∧ p_2.toInt ≤ 23), rfl, rfl⟩ | ⟨rfl, rfl⟩
          ·
            have hJ9 := g5_same hP hk1
            clear hP hPc hDc hFc ht hvm hz1 hk1 hP1 hD1
            have hP := hJ9
            clear hJ9
            refine lv_if_eq (tgt := 25) hx hb dX12_isLook_18 (by decide +kernel) (fun c_6 => ?_) (fun c_6 => ?_)
            ·
              exact absurd c_6 (by decide +kernel)
            ·
              refine lv_iconst (v := 1) hx hb dX12_isLook_21 (by decide +kernel) ?_
              refine lv_goto (tgt := 26) hx hb dX12_isLook_22 (by decide +kernel) ?_
              exact W.zret (v := 1) hx hb hr rfl (fun t ht hW => ⟨⟨1, [], rfl, Or.inl (⟨i_1, i_3, i_5, rfl, rfl⟩), by rw [ht]; exact hP.sub [] rfl, hD.sub [] (by decide +kernel) rfl⟩, hS.F ht⟩) hS.2.2 dX12_isLook_26
          ·
            have hJ9 := g5_same hP hk1
            clear hP hPc hDc hFc ht hvm hz1 hk1 hP1 hD1
            have hP := hJ9
            clear hJ9
            refine lv_if_eq (tgt := 25) hx hb dX12_isLook_18 (by decide +kernel) (fun c_7 => ?_) (fun c_7 => ?_)
            ·
              refine lv_iconst (v := 0) hx hb dX12_isLook_25 (by decide +kernel) ?_
              exact W.zret (v := 0) hx hb hr rfl (fun t ht hW => ⟨⟨0, [], rfl, Or.inr (⟨rfl, rfl⟩), by rw [ht]; exact hP.sub [] rfl, hD.sub [] (by decide +kernel) rfl⟩, hS.F ht⟩) hS.2.2 dX12_isLook_26
            ·
              exact absurd c_7 (by decide +kernel)
      ·
        have hJ9 := g5_same hP hk1
        clear hP hPc hDc hFc ht hvm hz1 hk1 hP1 hD1
        have hP := hJ9
        clear hJ9
        refine lv_if_eq (tgt := 25) hx hb dX12_isLook_11 (by decide +kernel) (fun c_8 => ?_) (fun c_8 => ?_)
        ·
          refine lv_iconst (v := 0) hx hb dX12_isLook_25 (by decide +kernel) ?_
          exact W.zret (v := 0) hx hb hr rfl (fun t ht hW => ⟨⟨0, [], rfl, Or.inr (⟨rfl, rfl⟩), by rw [ht]; exact hP.sub [] rfl, hD.sub [] (by decide +kernel) rfl⟩, hS.F ht⟩) hS.2.2 dX12_isLook_26
        ·
          exact absurd c_8 (by decide +kernel)
  ·
    have hJ9 := g5_same hP hk1
    clear hP hPc hDc hFc ht hvm hz1 hk1 hP1 hD1
    have hP := hJ9
    clear hJ9
    refine lv_if_eq (tgt := 25) hx hb dX12_isLook_4 (by decide +kernel) (fun c_9 => ?_) (fun c_9 => ?_)
    ·
      refine lv_iconst (v := 0) hx hb dX12_isLook_25 (by decide +kernel) ?_
      exact W.zret (v := 0) hx hb hr rfl (fun t ht hW => ⟨⟨0, [], rfl, Or.inr (⟨rfl, rfl⟩), by rw [ht]; exact hP.sub [] rfl, hD.sub [] (by decide +kernel) rfl⟩, hS.F ht⟩) hS.2.2 dX12_isLook_26
    ·
      exact absurd c_9 (by decide +kernel)
theorem dgX12_fits_0 : ∀ r ∈ ([(0, (.iload_n 0, 1)), (1, (.tableswitch 71 0 3 #[31, 41, 51, 61], 31)), (32, (.iload_n 1, 1)), (33, (.i2l, 1)), (34, (.lconst 0, 1)), (35, (.ldc2_w 154, 3)), (38, (.invokestatic 121, 3)), (41, (.ireturn, 1)), (42, (.iload_n 1, 1)), (43, (.i2l, 1)), (44, (.lconst 0, 1)), (45, (.ldc2_w 130, 3)), (48, (.invokestatic 121, 3)), (51, (.ireturn, 1)), (52, (.iload_n 1, 1)), (53, (.i2l, 1)), (54, (.lconst 0, 1)), (55, (.ldc2_w 156, 3)), (58, (.invokestatic 121, 3)), (61, (.ireturn, 1)), (62, (.iload_n 1, 1)), (63, (.i2l, 1)), (64, (.lconst 0, 1)), (65, (.ldc2_w 158, 3)), (68, (.invokestatic 121, 3)), (71, (.ireturn, 1)), (72, (.iconst 0, 1)), (73, (.ireturn, 1))] : List (Nat × (Instr × Nat))), decode cX12_fits r.1 = .ok r.2 := by decide +kernel
theorem dX12_fits_0 : decode cX12_fits 0 = .ok (.iload_n 0, 1) := dgX12_fits_0 (0, (.iload_n 0, 1)) (List.mem_of_getElem? (i := 0) rfl)
theorem dX12_fits_1 : decode cX12_fits 1 = .ok (.tableswitch 71 0 3 #[31, 41, 51, 61], 31) := dgX12_fits_0 (1, (.tableswitch 71 0 3 #[31, 41, 51, 61], 31)) (List.mem_of_getElem? (i := 1) rfl)
theorem dX12_fits_32 : decode cX12_fits 32 = .ok (.iload_n 1, 1) := dgX12_fits_0 (32, (.iload_n 1, 1)) (List.mem_of_getElem? (i := 2) rfl)
theorem dX12_fits_33 : decode cX12_fits 33 = .ok (.i2l, 1) := dgX12_fits_0 (33, (.i2l, 1)) (List.mem_of_getElem? (i := 3) rfl)
theorem dX12_fits_34 : decode cX12_fits 34 = .ok (.lconst 0, 1) := dgX12_fits_0 (34, (.lconst 0, 1)) (List.mem_of_getElem? (i := 4) rfl)
theorem dX12_fits_35 : decode cX12_fits 35 = .ok (.ldc2_w 154, 3) := dgX12_fits_0 (35, (.ldc2_w 154, 3)) (List.mem_of_getElem? (i := 5) rfl)
theorem dX12_fits_38 : decode cX12_fits 38 = .ok (.invokestatic 121, 3) := dgX12_fits_0 (38, (.invokestatic 121, 3)) (List.mem_of_getElem? (i := 6) rfl)
theorem dX12_fits_41 : decode cX12_fits 41 = .ok (.ireturn, 1) := dgX12_fits_0 (41, (.ireturn, 1)) (List.mem_of_getElem? (i := 7) rfl)
theorem dX12_fits_42 : decode cX12_fits 42 = .ok (.iload_n 1, 1) := dgX12_fits_0 (42, (.iload_n 1, 1)) (List.mem_of_getElem? (i := 8) rfl)
theorem dX12_fits_43 : decode cX12_fits 43 = .ok (.i2l, 1) := dgX12_fits_0 (43, (.i2l, 1)) (List.mem_of_getElem? (i := 9) rfl)
theorem dX12_fits_44 : decode cX12_fits 44 = .ok (.lconst 0, 1) := dgX12_fits_0 (44, (.lconst 0, 1)) (List.mem_of_getElem? (i := 10) rfl)
theorem dX12_fits_45 : decode cX12_fits 45 = .ok (.ldc2_w 130, 3) := dgX12_fits_0 (45, (.ldc2_w 130, 3)) (List.mem_of_getElem? (i := 11) rfl)
theorem dX12_fits_48 : decode cX12_fits 48 = .ok (.invokestatic 121, 3) := dgX12_fits_0 (48, (.invokestatic 121, 3)) (List.mem_of_getElem? (i := 12) rfl)
theorem dX12_fits_51 : decode cX12_fits 51 = .ok (.ireturn, 1) := dgX12_fits_0 (51, (.ireturn, 1)) (List.mem_of_getElem? (i := 13) rfl)
theorem dX12_fits_52 : decode cX12_fits 52 = .ok (.iload_n 1, 1) := dgX12_fits_0 (52, (.iload_n 1, 1)) (List.mem_of_getElem? (i := 14) rfl)
theorem dX12_fits_53 : decode cX12_fits 53 = .ok (.i2l, 1) := dgX12_fits_0 (53, (.i2l, 1)) (List.mem_of_getElem? (i := 15) rfl)
theorem dX12_fits_54 : decode cX12_fits 54 = .ok (.lconst 0, 1) := dgX12_fits_0 (54, (.lconst 0, 1)) (List.mem_of_getElem? (i := 16) rfl)
theorem dX12_fits_55 : decode cX12_fits 55 = .ok (.ldc2_w 156, 3) := dgX12_fits_0 (55, (.ldc2_w 156, 3)) (List.mem_of_getElem? (i := 17) rfl)
theorem dX12_fits_58 : decode cX12_fits 58 = .ok (.invokestatic 121, 3) := dgX12_fits_0 (58, (.invokestatic 121, 3)) (List.mem_of_getElem? (i := 18) rfl)
theorem dX12_fits_61 : decode cX12_fits 61 = .ok (.ireturn, 1) := dgX12_fits_0 (61, (.ireturn, 1)) (List.mem_of_getElem? (i := 19) rfl)
theorem dX12_fits_62 : decode cX12_fits 62 = .ok (.iload_n 1, 1) := dgX12_fits_0 (62, (.iload_n 1, 1)) (List.mem_of_getElem? (i := 20) rfl)
theorem dX12_fits_63 : decode cX12_fits 63 = .ok (.i2l, 1) := dgX12_fits_0 (63, (.i2l, 1)) (List.mem_of_getElem? (i := 21) rfl)
theorem dX12_fits_64 : decode cX12_fits 64 = .ok (.lconst 0, 1) := dgX12_fits_0 (64, (.lconst 0, 1)) (List.mem_of_getElem? (i := 22) rfl)
theorem dX12_fits_65 : decode cX12_fits 65 = .ok (.ldc2_w 158, 3) := dgX12_fits_0 (65, (.ldc2_w 158, 3)) (List.mem_of_getElem? (i := 23) rfl)
theorem dX12_fits_68 : decode cX12_fits 68 = .ok (.invokestatic 121, 3) := dgX12_fits_0 (68, (.invokestatic 121, 3)) (List.mem_of_getElem? (i := 24) rfl)
theorem dX12_fits_71 : decode cX12_fits 71 = .ok (.ireturn, 1) := dgX12_fits_0 (71, (.ireturn, 1)) (List.mem_of_getElem? (i := 25) rfl)
theorem dX12_fits_72 : decode cX12_fits 72 = .ok (.iconst 0, 1) := dgX12_fits_0 (72, (.iconst 0, 1)) (List.mem_of_getElem? (i := 26) rfl)
theorem dX12_fits_73 : decode cX12_fits 73 = .ok (.ireturn, 1) := dgX12_fits_0 (73, (.ireturn, 1)) (List.mem_of_getElem? (i := 27) rfl)
theorem kl_X12_154 : Cond.constantLong RX12 154 5 ∈ tblG := tg 1414 (by decide +kernel) (by decide +kernel)
set_option maxHeartbeats 4000000 in
set_option maxRecDepth 100000 in
theorem n_in_0_5 (l : Launch) (G : g5_G) (sz : Nat) (p_x : Int32) : Met l yX12_in (wsG yX12_in cX12_in 6 (some .boolean)) ({ frames := 0, cells := 0, slots := 0, locals := 0 }) (va_Pc [.long p_x.toInt64, .long 0, .long 5] (g5_P G [] sz)) (va_Qi (fun (r : Int32) (u : va_W) => ((p_x.toInt < 0 ∨ 5 < p_x.toInt) ∧ (r = 0) ∧ (u = [])) ∨ ((0 ≤ p_x.toInt ∧ p_x.toInt ≤ 5) ∧ (r = 1) ∧ (u = []))) (g5_B G (va_A [] sz)) (va_A [] sz)) 0 0 (va_A [] sz) := by
  refine Met.ofW (cc := cX12_in) (maxL := 6) (ret := (some .boolean)) (by decide) rfl ?_
  intro p e s m args below meth c s₁ B hml hv
  obtain ⟨rfl, hsz, hP, hK, hD0, hN, hT⟩ := hv
  have hx := B.exec
  have hb := B.bytes
  have hr := B.returns
  have hts : ∀ w ∈ tblG, w.before _ s = true := fun w h => atoms_spec (ws := (wsG yX12_in cX12_in 6 (some .boolean))) B.pre w (List.mem_cons_of_mem _ h)
  have hown : s.vm.findClass RX12 = some m.cls := findClass_of_methodNamed B.named
  have hlocks := B.notSynchronized
  subst hsz
  have hD := hD0.self (sz := s.heap.size)
  generalize hAe : va_A [] s.heap.size = A at hD hT ⊢
  have hA : ∀ q : Nat, s.heap.size ≤ q → A q := fun q h => by rw [← hAe]; exact Or.inr h
  have hS : va_S A s.heap s.heap [] := va_S.rf
  have hP : va_P G.1 vwCl [] s.heap := hP
  have hl := lv_entry ([.long p_x.toInt64, .long 0, .long 5]) (n := 6) (Nat.le_of_ble_eq_true rfl)
  rw [lg_entry_eq]
  generalize (lg_sl ([.long p_x.toInt64, .long 0, .long 5]) ++ List.replicate (6 - (lg_sl ([.long p_x.toInt64, .long 0, .long 5])).length) Slot.unset).toArray = ls at hl ⊢
  have hl : lv_has ls 6 [(0, .long p_x.toInt64), (2, .long 0), (4, .long 5)] := hl
  refine lv_lload_n hx hb dX12_in_0 rfl (lv_at hl 0 rfl) ?_
  refine lv_lload_n hx hb dX12_in_1 rfl (lv_at hl 1 rfl) ?_
  have tl_1 : p_x.toInt64.toInt = p_x.toInt := Int32.toInt_toInt64 _
  have tl_2 : (0 : Int64).toInt = 0 := (by decide)
  have tc_3 := g5_cmpI p_x.toInt64 0
  refine W.lcmp hx hb dX12_in_2 ?_
  refine lv_if_lt (tgt := 17) hx hb dX12_in_3 (by decide) (fun c_4 => ?_) (fun c_4 => ?_)
  ·
    have i_4 : (lg_cmp p_x.toInt64 0).toInt < 0 := by have z := g5_lt (a := (lg_cmp p_x.toInt64 0).toInt) (b := 0) (by rfl) (by decide) c_4; omega
    refine lv_iconst (v := 0) hx hb dX12_in_17 (by decide) ?_
    exact W.zret (v := 0) hx hb hr rfl (fun t ht hW => ⟨⟨0, [], rfl, Or.inl (⟨by omega, rfl, rfl⟩), by rw [ht]; exact hP.sub [] rfl, hD.sub [] (by decide) rfl⟩, hS.F ht⟩) hS.2.2 dX12_in_18
  ·
    have i_4 : (lg_cmp p_x.toInt64 0).toInt ≥ 0 := by have z := g5_ltN (a := (lg_cmp p_x.toInt64 0).toInt) (b := 0) (by rfl) (by decide) c_4; omega
    refine lv_lload_n hx hb dX12_in_6 rfl (lv_at hl 0 rfl) ?_
    refine lv_lload hx hb dX12_in_7 (lv_at hl 2 rfl) ?_
    have tl_5 : p_x.toInt64.toInt = p_x.toInt := Int32.toInt_toInt64 _
    have tl_6 : (5 : Int64).toInt = 5 := (by decide)
    have tc_7 := g5_cmpI p_x.toInt64 5
    refine W.lcmp hx hb dX12_in_9 ?_
    refine lv_if_gt (tgt := 17) hx hb dX12_in_10 (by decide) (fun c_8 => ?_) (fun c_8 => ?_)
    ·
      have i_8 : (lg_cmp p_x.toInt64 5).toInt > 0 := by have z := g5_gt (a := (lg_cmp p_x.toInt64 5).toInt) (b := 0) (by rfl) (by decide) c_8; omega
      refine lv_iconst (v := 0) hx hb dX12_in_17 (by decide) ?_
      exact W.zret (v := 0) hx hb hr rfl (fun t ht hW => ⟨⟨0, [], rfl, Or.inl (⟨by omega, rfl, rfl⟩), by rw [ht]; exact hP.sub [] rfl, hD.sub [] (by decide) rfl⟩, hS.F ht⟩) hS.2.2 dX12_in_18
    ·
      have i_8 : (lg_cmp p_x.toInt64 5).toInt ≤ 0 := by have z := g5_gtN (a := (lg_cmp p_x.toInt64 5).toInt) (b := 0) (by rfl) (by decide) c_8; omega
      refine lv_iconst (v := 1) hx hb dX12_in_13 (by decide) ?_
      refine lv_goto (tgt := 18) hx hb dX12_in_14 (by decide) ?_
      exact W.zret (v := 1) hx hb hr rfl (fun t ht hW => ⟨⟨1, [], rfl, Or.inr (⟨by omega, rfl, rfl⟩), by rw [ht]; exact hP.sub [] rfl, hD.sub [] (by decide) rfl⟩, hS.F ht⟩) hS.2.2 dX12_in_18
theorem kl_X12_156 : Cond.constantLong RX12 156 10 ∈ tblG := tg 1416 (by decide +kernel) (by decide +kernel)
set_option maxHeartbeats 4000000 in
set_option maxRecDepth 100000 in
theorem n_in_0_10 (l : Launch) (G : g5_G) (sz : Nat) (p_x : Int32) : Met l yX12_in (wsG yX12_in cX12_in 6 (some .boolean)) ({ frames := 0, cells := 0, slots := 0, locals := 0 }) (va_Pc [.long p_x.toInt64, .long 0, .long 10] (g5_P G [] sz)) (va_Qi (fun (r : Int32) (u : va_W) => ((p_x.toInt < 0 ∨ 10 < p_x.toInt) ∧ (r = 0) ∧ (u = [])) ∨ ((0 ≤ p_x.toInt ∧ p_x.toInt ≤ 10) ∧ (r = 1) ∧ (u = []))) (g5_B G (va_A [] sz)) (va_A [] sz)) 0 0 (va_A [] sz) := by
  refine Met.ofW (cc := cX12_in) (maxL := 6) (ret := (some .boolean)) (by decide) rfl ?_
  intro p e s m args below meth c s₁ B hml hv
  obtain ⟨rfl, hsz, hP, hK, hD0, hN, hT⟩ := hv
  have hx := B.exec
  have hb := B.bytes
  have hr := B.returns
  have hts : ∀ w ∈ tblG, w.before _ s = true := fun w h => atoms_spec (ws := (wsG yX12_in cX12_in 6 (some .boolean))) B.pre w (List.mem_cons_of_mem _ h)
  have hown : s.vm.findClass RX12 = some m.cls := findClass_of_methodNamed B.named
  have hlocks := B.notSynchronized
  subst hsz
  have hD := hD0.self (sz := s.heap.size)
  generalize hAe : va_A [] s.heap.size = A at hD hT ⊢
  have hA : ∀ q : Nat, s.heap.size ≤ q → A q := fun q h => by rw [← hAe]; exact Or.inr h
  have hS : va_S A s.heap s.heap [] := va_S.rf
  have hP : va_P G.1 vwCl [] s.heap := hP
  have hl := lv_entry ([.long p_x.toInt64, .long 0, .long 10]) (n := 6) (Nat.le_of_ble_eq_true rfl)
  rw [lg_entry_eq]
  generalize (lg_sl ([.long p_x.toInt64, .long 0, .long 10]) ++ List.replicate (6 - (lg_sl ([.long p_x.toInt64, .long 0, .long 10])).length) Slot.unset).toArray = ls at hl ⊢
  have hl : lv_has ls 6 [(0, .long p_x.toInt64), (2, .long 0), (4, .long 10)] := hl
  refine lv_lload_n hx hb dX12_in_0 rfl (lv_at hl 0 rfl) ?_
  refine lv_lload_n hx hb dX12_in_1 rfl (lv_at hl 1 rfl) ?_
  have tl_1 : p_x.toInt64.toInt = p_x.toInt := Int32.toInt_toInt64 _
  have tl_2 : (0 : Int64).toInt = 0 := (by decide)
  have tc_3 := g5_cmpI p_x.toInt64 0
  refine W.lcmp hx hb dX12_in_2 ?_
  refine lv_if_lt (tgt := 17) hx hb dX12_in_3 (by decide) (fun c_4 => ?_) (fun c_4 => ?_)
  ·
    have i_4 : (lg_cmp p_x.toInt64 0).toInt < 0 := by have z := g5_lt (a := (lg_cmp p_x.toInt64 0).toInt) (b := 0) (by rfl) (by decide) c_4; omega
    refine lv_iconst (v := 0) hx hb dX12_in_17 (by decide) ?_
    exact W.zret (v := 0) hx hb hr rfl (fun t ht hW => ⟨⟨0, [], rfl, Or.inl (⟨by omega, rfl, rfl⟩), by rw [ht]; exact hP.sub [] rfl, hD.sub [] (by decide) rfl⟩, hS.F ht⟩) hS.2.2 dX12_in_18
  ·
    have i_4 : (lg_cmp p_x.toInt64 0).toInt ≥ 0 := by have z := g5_ltN (a := (lg_cmp p_x.toInt64 0).toInt) (b := 0) (by rfl) (by decide) c_4; omega
    refine lv_lload_n hx hb dX12_in_6 rfl (lv_at hl 0 rfl) ?_
    refine lv_lload hx hb dX12_in_7 (lv_at hl 2 rfl) ?_
    have tl_5 : p_x.toInt64.toInt = p_x.toInt := Int32.toInt_toInt64 _
    have tl_6 : (10 : Int64).toInt = 10 := (by decide)
    have tc_7 := g5_cmpI p_x.toInt64 10
    refine W.lcmp hx hb dX12_in_9 ?_
    refine lv_if_gt (tgt := 17) hx hb dX12_in_10 (by decide) (fun c_8 => ?_) (fun c_8 => ?_)
    ·
      have i_8 : (lg_cmp p_x.toInt64 10).toInt > 0 := by have z := g5_gt (a := (lg_cmp p_x.toInt64 10).toInt) (b := 0) (by rfl) (by decide) c_8; omega
      refine lv_iconst (v := 0) hx hb dX12_in_17 (by decide) ?_
      exact W.zret (v := 0) hx hb hr rfl (fun t ht hW => ⟨⟨0, [], rfl, Or.inl (⟨by omega, rfl, rfl⟩), by rw [ht]; exact hP.sub [] rfl, hD.sub [] (by decide) rfl⟩, hS.F ht⟩) hS.2.2 dX12_in_18
    ·
      have i_8 : (lg_cmp p_x.toInt64 10).toInt ≤ 0 := by have z := g5_gtN (a := (lg_cmp p_x.toInt64 10).toInt) (b := 0) (by rfl) (by decide) c_8; omega
      refine lv_iconst (v := 1) hx hb dX12_in_13 (by decide) ?_
      refine lv_goto (tgt := 18) hx hb dX12_in_14 (by decide) ?_
      exact W.zret (v := 1) hx hb hr rfl (fun t ht hW => ⟨⟨1, [], rfl, Or.inr (⟨by omega, rfl, rfl⟩), by rw [ht]; exact hP.sub [] rfl, hD.sub [] (by decide) rfl⟩, hS.F ht⟩) hS.2.2 dX12_in_18
theorem kl_X12_158 : Cond.constantLong RX12 158 16777215 ∈ tblG := tg 1417 (by decide +kernel) (by decide +kernel)
set_option maxHeartbeats 4000000 in
set_option maxRecDepth 100000 in
theorem n_in_0_16777215 (l : Launch) (G : g5_G) (sz : Nat) (p_x : Int32) : Met l yX12_in (wsG yX12_in cX12_in 6 (some .boolean)) ({ frames := 0, cells := 0, slots := 0, locals := 0 }) (va_Pc [.long p_x.toInt64, .long 0, .long 16777215] (g5_P G [] sz)) (va_Qi (fun (r : Int32) (u : va_W) => ((p_x.toInt < 0 ∨ 16777215 < p_x.toInt) ∧ (r = 0) ∧ (u = [])) ∨ ((0 ≤ p_x.toInt ∧ p_x.toInt ≤ 16777215) ∧ (r = 1) ∧ (u = []))) (g5_B G (va_A [] sz)) (va_A [] sz)) 0 0 (va_A [] sz) := by
  refine Met.ofW (cc := cX12_in) (maxL := 6) (ret := (some .boolean)) (by decide) rfl ?_
  intro p e s m args below meth c s₁ B hml hv
  obtain ⟨rfl, hsz, hP, hK, hD0, hN, hT⟩ := hv
  have hx := B.exec
  have hb := B.bytes
  have hr := B.returns
  have hts : ∀ w ∈ tblG, w.before _ s = true := fun w h => atoms_spec (ws := (wsG yX12_in cX12_in 6 (some .boolean))) B.pre w (List.mem_cons_of_mem _ h)
  have hown : s.vm.findClass RX12 = some m.cls := findClass_of_methodNamed B.named
  have hlocks := B.notSynchronized
  subst hsz
  have hD := hD0.self (sz := s.heap.size)
  generalize hAe : va_A [] s.heap.size = A at hD hT ⊢
  have hA : ∀ q : Nat, s.heap.size ≤ q → A q := fun q h => by rw [← hAe]; exact Or.inr h
  have hS : va_S A s.heap s.heap [] := va_S.rf
  have hP : va_P G.1 vwCl [] s.heap := hP
  have hl := lv_entry ([.long p_x.toInt64, .long 0, .long 16777215]) (n := 6) (Nat.le_of_ble_eq_true rfl)
  rw [lg_entry_eq]
  generalize (lg_sl ([.long p_x.toInt64, .long 0, .long 16777215]) ++ List.replicate (6 - (lg_sl ([.long p_x.toInt64, .long 0, .long 16777215])).length) Slot.unset).toArray = ls at hl ⊢
  have hl : lv_has ls 6 [(0, .long p_x.toInt64), (2, .long 0), (4, .long 16777215)] := hl
  refine lv_lload_n hx hb dX12_in_0 rfl (lv_at hl 0 rfl) ?_
  refine lv_lload_n hx hb dX12_in_1 rfl (lv_at hl 1 rfl) ?_
  have tl_1 : p_x.toInt64.toInt = p_x.toInt := Int32.toInt_toInt64 _
  have tl_2 : (0 : Int64).toInt = 0 := (by decide)
  have tc_3 := g5_cmpI p_x.toInt64 0
  refine W.lcmp hx hb dX12_in_2 ?_
  refine lv_if_lt (tgt := 17) hx hb dX12_in_3 (by decide) (fun c_4 => ?_) (fun c_4 => ?_)
  ·
    have i_4 : (lg_cmp p_x.toInt64 0).toInt < 0 := by have z := g5_lt (a := (lg_cmp p_x.toInt64 0).toInt) (b := 0) (by rfl) (by decide) c_4; omega
    refine lv_iconst (v := 0) hx hb dX12_in_17 (by decide) ?_
    exact W.zret (v := 0) hx hb hr rfl (fun t ht hW => ⟨⟨0, [], rfl, Or.inl (⟨by omega, rfl, rfl⟩), by rw [ht]; exact hP.sub [] rfl, hD.sub [] (by decide) rfl⟩, hS.F ht⟩) hS.2.2 dX12_in_18
  ·
    have i_4 : (lg_cmp p_x.toInt64 0).toInt ≥ 0 := by have z := g5_ltN (a := (lg_cmp p_x.toInt64 0).toInt) (b := 0) (by rfl) (by decide) c_4; omega
    refine lv_lload_n hx hb dX12_in_6 rfl (lv_at hl 0 rfl) ?_
    refine lv_lload hx hb dX12_in_7 (lv_at hl 2 rfl) ?_
    have tl_5 : p_x.toInt64.toInt = p_x.toInt := Int32.toInt_toInt64 _
    have tl_6 : (16777215 : Int64).toInt = 16777215 := (by decide)
    have tc_7 := g5_cmpI p_x.toInt64 16777215
    refine W.lcmp hx hb dX12_in_9 ?_
    refine lv_if_gt (tgt := 17) hx hb dX12_in_10 (by decide) (fun c_8 => ?_) (fun c_8 => ?_)
    ·
      have i_8 : (lg_cmp p_x.toInt64 16777215).toInt > 0 := by have z := g5_gt (a := (lg_cmp p_x.toInt64 16777215).toInt) (b := 0) (by rfl) (by decide) c_8; omega
      refine lv_iconst (v := 0) hx hb dX12_in_17 (by decide) ?_
      exact W.zret (v := 0) hx hb hr rfl (fun t ht hW => ⟨⟨0, [], rfl, Or.inl (⟨by omega, rfl, rfl⟩), by rw [ht]; exact hP.sub [] rfl, hD.sub [] (by decide) rfl⟩, hS.F ht⟩) hS.2.2 dX12_in_18
    ·
      have i_8 : (lg_cmp p_x.toInt64 16777215).toInt ≤ 0 := by have z := g5_gtN (a := (lg_cmp p_x.toInt64 16777215).toInt) (b := 0) (by rfl) (by decide) c_8; omega
      refine lv_iconst (v := 1) hx hb dX12_in_13 (by decide) ?_
      refine lv_goto (tgt := 18) hx hb dX12_in_14 (by decide) ?_
      exact W.zret (v := 1) hx hb hr rfl (fun t ht hW => ⟨⟨1, [], rfl, Or.inr (⟨by omega, rfl, rfl⟩), by rw [ht]; exact hP.sub [] rfl, hD.sub [] (by decide) rfl⟩, hS.F ht⟩) hS.2.2 dX12_in_18
theorem dgX12_beside_0 : ∀ r ∈ ([(0, (.iload_n 1, 1)), (1, (.tableswitch 74 0 2 #[27, 42, 59], 27)), (28, (.iload_n 0, 1)), (29, (.bipush 8, 2)), (31, (.if_icmp .lt 10, 3)), (34, (.iload_n 0, 1)), (35, (.bipush 8, 2)), (37, (.isub, 1)), (38, (.goto 4, 3)), (41, (.iconst (-1), 1)), (42, (.ireturn, 1)), (43, (.iload_n 0, 1)), (44, (.bipush 8, 2)), (46, (.irem, 1)), (47, (.bipush 7, 2)), (49, (.if_icmp .ge 9, 3)), (52, (.iload_n 0, 1)), (53, (.iconst 1, 1)), (54, (.iadd, 1)), (55, (.goto 4, 3)), (58, (.iconst (-1), 1)), (59, (.ireturn, 1)), (60, (.iload_n 0, 1)), (61, (.bipush 56, 2)), (63, (.if_icmp .ge 10, 3)), (66, (.iload_n 0, 1)), (67, (.bipush 8, 2)), (69, (.iadd, 1)), (70, (.goto 4, 3)), (73, (.iconst (-1), 1)), (74, (.ireturn, 1)), (75, (.iload_n 0, 1)), (76, (.bipush 8, 2)), (78, (.irem, 1)), (79, (.ifCond .le 9, 3)), (82, (.iload_n 0, 1)), (83, (.iconst 1, 1)), (84, (.isub, 1)), (85, (.goto 4, 3)), (88, (.iconst (-1), 1))] : List (Nat × (Instr × Nat))), decode cX12_beside r.1 = .ok r.2 := by decide +kernel
theorem dX12_beside_0 : decode cX12_beside 0 = .ok (.iload_n 1, 1) := dgX12_beside_0 (0, (.iload_n 1, 1)) (List.mem_of_getElem? (i := 0) rfl)
theorem dX12_beside_1 : decode cX12_beside 1 = .ok (.tableswitch 74 0 2 #[27, 42, 59], 27) := dgX12_beside_0 (1, (.tableswitch 74 0 2 #[27, 42, 59], 27)) (List.mem_of_getElem? (i := 1) rfl)
theorem dX12_beside_28 : decode cX12_beside 28 = .ok (.iload_n 0, 1) := dgX12_beside_0 (28, (.iload_n 0, 1)) (List.mem_of_getElem? (i := 2) rfl)
theorem dX12_beside_29 : decode cX12_beside 29 = .ok (.bipush 8, 2) := dgX12_beside_0 (29, (.bipush 8, 2)) (List.mem_of_getElem? (i := 3) rfl)
theorem dX12_beside_31 : decode cX12_beside 31 = .ok (.if_icmp .lt 10, 3) := dgX12_beside_0 (31, (.if_icmp .lt 10, 3)) (List.mem_of_getElem? (i := 4) rfl)
theorem dX12_beside_34 : decode cX12_beside 34 = .ok (.iload_n 0, 1) := dgX12_beside_0 (34, (.iload_n 0, 1)) (List.mem_of_getElem? (i := 5) rfl)
theorem dX12_beside_35 : decode cX12_beside 35 = .ok (.bipush 8, 2) := dgX12_beside_0 (35, (.bipush 8, 2)) (List.mem_of_getElem? (i := 6) rfl)
theorem dX12_beside_37 : decode cX12_beside 37 = .ok (.isub, 1) := dgX12_beside_0 (37, (.isub, 1)) (List.mem_of_getElem? (i := 7) rfl)
theorem dX12_beside_38 : decode cX12_beside 38 = .ok (.goto 4, 3) := dgX12_beside_0 (38, (.goto 4, 3)) (List.mem_of_getElem? (i := 8) rfl)
theorem dX12_beside_41 : decode cX12_beside 41 = .ok (.iconst (-1), 1) := dgX12_beside_0 (41, (.iconst (-1), 1)) (List.mem_of_getElem? (i := 9) rfl)
theorem dX12_beside_42 : decode cX12_beside 42 = .ok (.ireturn, 1) := dgX12_beside_0 (42, (.ireturn, 1)) (List.mem_of_getElem? (i := 10) rfl)
theorem dX12_beside_43 : decode cX12_beside 43 = .ok (.iload_n 0, 1) := dgX12_beside_0 (43, (.iload_n 0, 1)) (List.mem_of_getElem? (i := 11) rfl)
theorem dX12_beside_44 : decode cX12_beside 44 = .ok (.bipush 8, 2) := dgX12_beside_0 (44, (.bipush 8, 2)) (List.mem_of_getElem? (i := 12) rfl)
theorem dX12_beside_46 : decode cX12_beside 46 = .ok (.irem, 1) := dgX12_beside_0 (46, (.irem, 1)) (List.mem_of_getElem? (i := 13) rfl)
theorem dX12_beside_47 : decode cX12_beside 47 = .ok (.bipush 7, 2) := dgX12_beside_0 (47, (.bipush 7, 2)) (List.mem_of_getElem? (i := 14) rfl)
theorem dX12_beside_49 : decode cX12_beside 49 = .ok (.if_icmp .ge 9, 3) := dgX12_beside_0 (49, (.if_icmp .ge 9, 3)) (List.mem_of_getElem? (i := 15) rfl)
theorem dX12_beside_52 : decode cX12_beside 52 = .ok (.iload_n 0, 1) := dgX12_beside_0 (52, (.iload_n 0, 1)) (List.mem_of_getElem? (i := 16) rfl)
theorem dX12_beside_53 : decode cX12_beside 53 = .ok (.iconst 1, 1) := dgX12_beside_0 (53, (.iconst 1, 1)) (List.mem_of_getElem? (i := 17) rfl)
theorem dX12_beside_54 : decode cX12_beside 54 = .ok (.iadd, 1) := dgX12_beside_0 (54, (.iadd, 1)) (List.mem_of_getElem? (i := 18) rfl)
theorem dX12_beside_55 : decode cX12_beside 55 = .ok (.goto 4, 3) := dgX12_beside_0 (55, (.goto 4, 3)) (List.mem_of_getElem? (i := 19) rfl)
theorem dX12_beside_58 : decode cX12_beside 58 = .ok (.iconst (-1), 1) := dgX12_beside_0 (58, (.iconst (-1), 1)) (List.mem_of_getElem? (i := 20) rfl)
theorem dX12_beside_59 : decode cX12_beside 59 = .ok (.ireturn, 1) := dgX12_beside_0 (59, (.ireturn, 1)) (List.mem_of_getElem? (i := 21) rfl)
theorem dX12_beside_60 : decode cX12_beside 60 = .ok (.iload_n 0, 1) := dgX12_beside_0 (60, (.iload_n 0, 1)) (List.mem_of_getElem? (i := 22) rfl)
theorem dX12_beside_61 : decode cX12_beside 61 = .ok (.bipush 56, 2) := dgX12_beside_0 (61, (.bipush 56, 2)) (List.mem_of_getElem? (i := 23) rfl)
theorem dX12_beside_63 : decode cX12_beside 63 = .ok (.if_icmp .ge 10, 3) := dgX12_beside_0 (63, (.if_icmp .ge 10, 3)) (List.mem_of_getElem? (i := 24) rfl)
theorem dX12_beside_66 : decode cX12_beside 66 = .ok (.iload_n 0, 1) := dgX12_beside_0 (66, (.iload_n 0, 1)) (List.mem_of_getElem? (i := 25) rfl)
theorem dX12_beside_67 : decode cX12_beside 67 = .ok (.bipush 8, 2) := dgX12_beside_0 (67, (.bipush 8, 2)) (List.mem_of_getElem? (i := 26) rfl)
theorem dX12_beside_69 : decode cX12_beside 69 = .ok (.iadd, 1) := dgX12_beside_0 (69, (.iadd, 1)) (List.mem_of_getElem? (i := 27) rfl)
theorem dX12_beside_70 : decode cX12_beside 70 = .ok (.goto 4, 3) := dgX12_beside_0 (70, (.goto 4, 3)) (List.mem_of_getElem? (i := 28) rfl)
theorem dX12_beside_73 : decode cX12_beside 73 = .ok (.iconst (-1), 1) := dgX12_beside_0 (73, (.iconst (-1), 1)) (List.mem_of_getElem? (i := 29) rfl)
theorem dX12_beside_74 : decode cX12_beside 74 = .ok (.ireturn, 1) := dgX12_beside_0 (74, (.ireturn, 1)) (List.mem_of_getElem? (i := 30) rfl)
theorem dX12_beside_75 : decode cX12_beside 75 = .ok (.iload_n 0, 1) := dgX12_beside_0 (75, (.iload_n 0, 1)) (List.mem_of_getElem? (i := 31) rfl)
theorem dX12_beside_76 : decode cX12_beside 76 = .ok (.bipush 8, 2) := dgX12_beside_0 (76, (.bipush 8, 2)) (List.mem_of_getElem? (i := 32) rfl)
theorem dX12_beside_78 : decode cX12_beside 78 = .ok (.irem, 1) := dgX12_beside_0 (78, (.irem, 1)) (List.mem_of_getElem? (i := 33) rfl)
theorem dX12_beside_79 : decode cX12_beside 79 = .ok (.ifCond .le 9, 3) := dgX12_beside_0 (79, (.ifCond .le 9, 3)) (List.mem_of_getElem? (i := 34) rfl)
theorem dX12_beside_82 : decode cX12_beside 82 = .ok (.iload_n 0, 1) := dgX12_beside_0 (82, (.iload_n 0, 1)) (List.mem_of_getElem? (i := 35) rfl)
theorem dX12_beside_83 : decode cX12_beside 83 = .ok (.iconst 1, 1) := dgX12_beside_0 (83, (.iconst 1, 1)) (List.mem_of_getElem? (i := 36) rfl)
theorem dX12_beside_84 : decode cX12_beside 84 = .ok (.isub, 1) := dgX12_beside_0 (84, (.isub, 1)) (List.mem_of_getElem? (i := 37) rfl)
theorem dX12_beside_85 : decode cX12_beside 85 = .ok (.goto 4, 3) := dgX12_beside_0 (85, (.goto 4, 3)) (List.mem_of_getElem? (i := 38) rfl)
theorem dX12_beside_88 : decode cX12_beside 88 = .ok (.iconst (-1), 1) := dgX12_beside_0 (88, (.iconst (-1), 1)) (List.mem_of_getElem? (i := 39) rfl)
theorem dgX12_beside_1 : ∀ r ∈ ([(89, (.ireturn, 1))] : List (Nat × (Instr × Nat))), decode cX12_beside r.1 = .ok r.2 := by decide +kernel
theorem dX12_beside_89 : decode cX12_beside 89 = .ok (.ireturn, 1) := dgX12_beside_1 (89, (.ireturn, 1)) (List.mem_of_getElem? (i := 0) rfl)
set_option maxHeartbeats 4000000 in
set_option maxRecDepth 100000 in
theorem n_beside (l : Launch) (G : g5_G) (sz : Nat) (p_0 : Int32) (p_1 : Int32) (h_p_0 : 0 ≤ p_0.toInt ∧ p_0.toInt ≤ 63) : Met l yX12_beside (wsG yX12_beside cX12_beside 2 (some .int)) ({ frames := 0, cells := 0, slots := 0, locals := 0 }) (va_Pc [.int p_0, .int p_1] (g5_P G [] sz)) (va_Qi (fun (r : Int32) (u : va_W) => (∃ (o_r : Int32), (-1 ≤ o_r.toInt ∧ o_r.toInt ≤ 63) ∧ (r = o_r) ∧ (u = []))) (g5_B G (va_A [] sz)) (va_A [] sz)) 0 0 (va_A [] sz) := by
  refine Met.ofW (cc := cX12_beside) (maxL := 2) (ret := (some .int)) (by decide) rfl ?_
  intro p e s m args below meth c s₁ B hml hv
  obtain ⟨rfl, hsz, hP, hK, hD0, hN, hT⟩ := hv
  have hx := B.exec
  have hb := B.bytes
  have hr := B.returns
  have hts : ∀ w ∈ tblG, w.before _ s = true := fun w h => atoms_spec (ws := (wsG yX12_beside cX12_beside 2 (some .int))) B.pre w (List.mem_cons_of_mem _ h)
  have hown : s.vm.findClass RX12 = some m.cls := findClass_of_methodNamed B.named
  have hlocks := B.notSynchronized
  subst hsz
  have hD := hD0.self (sz := s.heap.size)
  generalize hAe : va_A [] s.heap.size = A at hD hT ⊢
  have hA : ∀ q : Nat, s.heap.size ≤ q → A q := fun q h => by rw [← hAe]; exact Or.inr h
  have hS : va_S A s.heap s.heap [] := va_S.rf
  have hP : va_P G.1 vwCl [] s.heap := hP
  have hl := lv_entry ([.int p_0, .int p_1]) (n := 2) (Nat.le_of_ble_eq_true rfl)
  rw [lg_entry_eq]
  generalize (lg_sl ([.int p_0, .int p_1]) ++ List.replicate (2 - (lg_sl ([.int p_0, .int p_1])).length) Slot.unset).toArray = ls at hl ⊢
  have hl : lv_has ls 2 [(0, .int p_0), (1, .int p_1)] := hl
  refine lv_iload_n hx hb dX12_beside_0 rfl (lv_at hl 1 rfl) ?_
  rcases (show p_1.toInt = 0 ∨ p_1.toInt = 1 ∨ p_1.toInt = 2 ∨ p_1.toInt < 0 ∨ p_1.toInt > 2 by omega) with s_1 | s_1 | s_1 | s_1 | s_1
  ·
    have i_1 : p_1.toInt = 0 := by omega
    refine lv_tableIn (tgt := 28) hx hb dX12_beside_1 (by omega) (by omega) (by rw [s_1]; rfl) (by decide) ?_
    refine lv_iload_n hx hb dX12_beside_28 rfl (lv_at hl 0 rfl) ?_
    refine lv_bipush (v := 8) hx hb dX12_beside_29 (by decide) ?_
    refine lv_icmp_lt (tgt := 41) hx hb dX12_beside_31 (by decide) (fun c_2 => ?_) (fun c_2 => ?_)
    ·
      have i_2 : p_0.toInt < 8 := by have z := g5_lt (a := p_0.toInt) (b := 8) (by rfl) (by decide) c_2; omega
      refine lv_iconst (v := (-1)) hx hb dX12_beside_41 (by decide) ?_
      exact W.iret (v := (-1)) hx hb hr (fun t ht hW => ⟨⟨(-1), [], rfl, ⟨(-1), ⟨by have zc_o_r : ((-1) : Int32).toInt = (-1) := (by decide); omega, by have zc_o_r : ((-1) : Int32).toInt = (-1) := (by decide); omega⟩, rfl, rfl⟩, by rw [ht]; exact hP.sub [] rfl, hD.sub [] (by decide) rfl⟩, hS.F ht⟩) hS.2.2 dX12_beside_42
    ·
      have i_2 : p_0.toInt ≥ 8 := by have z := g5_ltN (a := p_0.toInt) (b := 8) (by rfl) (by decide) c_2; omega
      refine lv_iload_n hx hb dX12_beside_34 rfl (lv_at hl 0 rfl) ?_
      refine lv_bipush (v := 8) hx hb dX12_beside_35 (by decide) ?_
      refine lv_isub hx hb dX12_beside_37 ?_
      have t_3 : (p_0 - 8).toInt = p_0.toInt - 8 := g5_isub (a := p_0.toInt) (b := 8) (by rfl) (by decide) (by omega) (by omega)
      refine lv_goto (tgt := 42) hx hb dX12_beside_38 (by decide) ?_
      refine W.eq (g2 := F0 m 42 ls [.int (p_0 - 8)]) rfl ?_
      exact W.iret (v := (p_0 - 8)) hx hb hr (fun t ht hW => ⟨⟨(p_0 - 8), [], rfl, ⟨(p_0 - 8), ⟨by omega, by omega⟩, rfl, rfl⟩, by rw [ht]; exact hP.sub [] rfl, hD.sub [] (by decide) rfl⟩, hS.F ht⟩) hS.2.2 dX12_beside_42
  ·
    have i_1 : p_1.toInt = 1 := by omega
    refine lv_tableIn (tgt := 43) hx hb dX12_beside_1 (by omega) (by omega) (by rw [s_1]; rfl) (by decide) ?_
    refine lv_iload_n hx hb dX12_beside_43 rfl (lv_at hl 0 rfl) ?_
    refine lv_bipush (v := 8) hx hb dX12_beside_44 (by decide) ?_
    refine lv_irem hx hb dX12_beside_46 (by decide) ?_
    have t_4 : (p_0 - p_0 / 8 * 8).toInt = p_0.toInt % 8 := g5_irem (a := p_0.toInt) (b := 8) rfl (by decide) (by omega) (by decide)
    refine lv_bipush (v := 7) hx hb dX12_beside_47 (by decide) ?_
    refine W.eq (g2 := F0 m 49 ls [.int 7, .int (p_0 - p_0 / 8 * 8)]) rfl ?_
    refine lv_icmp_ge (tgt := 58) hx hb dX12_beside_49 (by decide) (fun c_5 => ?_) (fun c_5 => ?_)
    ·
      have i_5 : (p_0.toInt % 8) ≥ 7 := by have z := g5_ge (a := (p_0 - p_0 / 8 * 8).toInt) (b := 7) (by rfl) (by decide) c_5; omega
      refine lv_iconst (v := (-1)) hx hb dX12_beside_58 (by decide) ?_
      exact W.iret (v := (-1)) hx hb hr (fun t ht hW => ⟨⟨(-1), [], rfl, ⟨(-1), ⟨by have zc_o_r : ((-1) : Int32).toInt = (-1) := (by decide); omega, by have zc_o_r : ((-1) : Int32).toInt = (-1) := (by decide); omega⟩, rfl, rfl⟩, by rw [ht]; exact hP.sub [] rfl, hD.sub [] (by decide) rfl⟩, hS.F ht⟩) hS.2.2 dX12_beside_59
    ·
      have i_5 : (p_0.toInt % 8) < 7 := by have z := g5_geN (a := (p_0 - p_0 / 8 * 8).toInt) (b := 7) (by rfl) (by decide) c_5; omega
      refine lv_iload_n hx hb dX12_beside_52 rfl (lv_at hl 0 rfl) ?_
      refine lv_iconst (v := 1) hx hb dX12_beside_53 (by decide) ?_
      refine lv_iadd hx hb dX12_beside_54 ?_
      have t_6 : (p_0 + 1).toInt = p_0.toInt + 1 := g5_iadd (a := p_0.toInt) (b := 1) (by rfl) (by decide) (by omega) (by omega)
      refine lv_goto (tgt := 59) hx hb dX12_beside_55 (by decide) ?_
      refine W.eq (g2 := F0 m 59 ls [.int (p_0 + 1)]) rfl ?_
      exact W.iret (v := (p_0 + 1)) hx hb hr (fun t ht hW => ⟨⟨(p_0 + 1), [], rfl, ⟨(p_0 + 1), ⟨by omega, by omega⟩, rfl, rfl⟩, by rw [ht]; exact hP.sub [] rfl, hD.sub [] (by decide) rfl⟩, hS.F ht⟩) hS.2.2 dX12_beside_59
  ·
    have i_1 : p_1.toInt = 2 := by omega
    refine lv_tableIn (tgt := 60) hx hb dX12_beside_1 (by omega) (by omega) (by rw [s_1]; rfl) (by decide) ?_
    refine lv_iload_n hx hb dX12_beside_60 rfl (lv_at hl 0 rfl) ?_
    refine lv_bipush (v := 56) hx hb dX12_beside_61 (by decide) ?_
    refine lv_icmp_ge (tgt := 73) hx hb dX12_beside_63 (by decide) (fun c_7 => ?_) (fun c_7 => ?_)
    ·
      have i_7 : p_0.toInt ≥ 56 := by have z := g5_ge (a := p_0.toInt) (b := 56) (by rfl) (by decide) c_7; omega
      refine lv_iconst (v := (-1)) hx hb dX12_beside_73 (by decide) ?_
      exact W.iret (v := (-1)) hx hb hr (fun t ht hW => ⟨⟨(-1), [], rfl, ⟨(-1), ⟨by have zc_o_r : ((-1) : Int32).toInt = (-1) := (by decide); omega, by have zc_o_r : ((-1) : Int32).toInt = (-1) := (by decide); omega⟩, rfl, rfl⟩, by rw [ht]; exact hP.sub [] rfl, hD.sub [] (by decide) rfl⟩, hS.F ht⟩) hS.2.2 dX12_beside_74
    ·
      have i_7 : p_0.toInt < 56 := by have z := g5_geN (a := p_0.toInt) (b := 56) (by rfl) (by decide) c_7; omega
      refine lv_iload_n hx hb dX12_beside_66 rfl (lv_at hl 0 rfl) ?_
      refine lv_bipush (v := 8) hx hb dX12_beside_67 (by decide) ?_
      refine lv_iadd hx hb dX12_beside_69 ?_
      have t_8 : (p_0 + 8).toInt = p_0.toInt + 8 := g5_iadd (a := p_0.toInt) (b := 8) (by rfl) (by decide) (by omega) (by omega)
      refine lv_goto (tgt := 74) hx hb dX12_beside_70 (by decide) ?_
      refine W.eq (g2 := F0 m 74 ls [.int (p_0 + 8)]) rfl ?_
      exact W.iret (v := (p_0 + 8)) hx hb hr (fun t ht hW => ⟨⟨(p_0 + 8), [], rfl, ⟨(p_0 + 8), ⟨by omega, by omega⟩, rfl, rfl⟩, by rw [ht]; exact hP.sub [] rfl, hD.sub [] (by decide) rfl⟩, hS.F ht⟩) hS.2.2 dX12_beside_74
  ·
    have i_1 : p_1.toInt < 0 := by omega
    refine lv_tableOut (tgt := 75) hx hb dX12_beside_1 (by omega) (by decide) ?_
    refine lv_iload_n hx hb dX12_beside_75 rfl (lv_at hl 0 rfl) ?_
    refine lv_bipush (v := 8) hx hb dX12_beside_76 (by decide) ?_
    refine lv_irem hx hb dX12_beside_78 (by decide) ?_
    have t_9 : (p_0 - p_0 / 8 * 8).toInt = p_0.toInt % 8 := g5_irem (a := p_0.toInt) (b := 8) rfl (by decide) (by omega) (by decide)
    refine lv_if_le (tgt := 88) hx hb dX12_beside_79 (by decide) (fun c_10 => ?_) (fun c_10 => ?_)
    ·
      have i_10 : (p_0.toInt % 8) ≤ 0 := by have z := g5_le (a := (p_0 - p_0 / 8 * 8).toInt) (b := 0) (by rfl) (by decide) c_10; omega
      refine lv_iconst (v := (-1)) hx hb dX12_beside_88 (by decide) ?_
      exact W.iret (v := (-1)) hx hb hr (fun t ht hW => ⟨⟨(-1), [], rfl, ⟨(-1), ⟨by have zc_o_r : ((-1) : Int32).toInt = (-1) := (by decide); omega, by have zc_o_r : ((-1) : Int32).toInt = (-1) := (by decide); omega⟩, rfl, rfl⟩, by rw [ht]; exact hP.sub [] rfl, hD.sub [] (by decide) rfl⟩, hS.F ht⟩) hS.2.2 dX12_beside_89
    ·
      have i_10 : (p_0.toInt % 8) > 0 := by have z := g5_leN (a := (p_0 - p_0 / 8 * 8).toInt) (b := 0) (by rfl) (by decide) c_10; omega
      refine lv_iload_n hx hb dX12_beside_82 rfl (lv_at hl 0 rfl) ?_
      refine lv_iconst (v := 1) hx hb dX12_beside_83 (by decide) ?_
      refine lv_isub hx hb dX12_beside_84 ?_
      have t_11 : (p_0 - 1).toInt = p_0.toInt - 1 := g5_isub (a := p_0.toInt) (b := 1) (by rfl) (by decide) (by omega) (by omega)
      refine lv_goto (tgt := 89) hx hb dX12_beside_85 (by decide) ?_
      refine W.eq (g2 := F0 m 89 ls [.int (p_0 - 1)]) rfl ?_
      exact W.iret (v := (p_0 - 1)) hx hb hr (fun t ht hW => ⟨⟨(p_0 - 1), [], rfl, ⟨(p_0 - 1), ⟨by omega, by omega⟩, rfl, rfl⟩, by rw [ht]; exact hP.sub [] rfl, hD.sub [] (by decide) rfl⟩, hS.F ht⟩) hS.2.2 dX12_beside_89
  ·
    have i_1 : p_1.toInt > 2 := by omega
    refine lv_tableOut (tgt := 75) hx hb dX12_beside_1 (by omega) (by decide) ?_
    refine lv_iload_n hx hb dX12_beside_75 rfl (lv_at hl 0 rfl) ?_
    refine lv_bipush (v := 8) hx hb dX12_beside_76 (by decide) ?_
    refine lv_irem hx hb dX12_beside_78 (by decide) ?_
    have t_12 : (p_0 - p_0 / 8 * 8).toInt = p_0.toInt % 8 := g5_irem (a := p_0.toInt) (b := 8) rfl (by decide) (by omega) (by decide)
    refine lv_if_le (tgt := 88) hx hb dX12_beside_79 (by decide) (fun c_13 => ?_) (fun c_13 => ?_)
    ·
      have i_13 : (p_0.toInt % 8) ≤ 0 := by have z := g5_le (a := (p_0 - p_0 / 8 * 8).toInt) (b := 0) (by rfl) (by decide) c_13; omega
      refine lv_iconst (v := (-1)) hx hb dX12_beside_88 (by decide) ?_
      exact W.iret (v := (-1)) hx hb hr (fun t ht hW => ⟨⟨(-1), [], rfl, ⟨(-1), ⟨by have zc_o_r : ((-1) : Int32).toInt = (-1) := (by decide); omega, by have zc_o_r : ((-1) : Int32).toInt = (-1) := (by decide); omega⟩, rfl, rfl⟩, by rw [ht]; exact hP.sub [] rfl, hD.sub [] (by decide) rfl⟩, hS.F ht⟩) hS.2.2 dX12_beside_89
    ·
      have i_13 : (p_0.toInt % 8) > 0 := by have z := g5_leN (a := (p_0 - p_0 / 8 * 8).toInt) (b := 0) (by rfl) (by decide) c_13; omega
      refine lv_iload_n hx hb dX12_beside_82 rfl (lv_at hl 0 rfl) ?_
      refine lv_iconst (v := 1) hx hb dX12_beside_83 (by decide) ?_
      refine lv_isub hx hb dX12_beside_84 ?_
      have t_14 : (p_0 - 1).toInt = p_0.toInt - 1 := g5_isub (a := p_0.toInt) (b := 1) (by rfl) (by decide) (by omega) (by omega)
      refine lv_goto (tgt := 89) hx hb dX12_beside_85 (by decide) ?_
      refine W.eq (g2 := F0 m 89 ls [.int (p_0 - 1)]) rfl ?_
      exact W.iret (v := (p_0 - 1)) hx hb hr (fun t ht hW => ⟨⟨(p_0 - 1), [], rfl, ⟨(p_0 - 1), ⟨by omega, by omega⟩, rfl, rfl⟩, by rw [ht]; exact hP.sub [] rfl, hD.sub [] (by decide) rfl⟩, hS.F ht⟩) hS.2.2 dX12_beside_89
theorem dgX12_isSmall_0 : ∀ r ∈ ([(0, (.iload_n 0, 1)), (1, (.bipush 97, 2)), (3, (.if_icmp .lt 13, 3)), (6, (.iload_n 0, 1)), (7, (.bipush 122, 2)), (9, (.if_icmp .gt 7, 3)), (12, (.iconst 1, 1)), (13, (.goto 4, 3)), (16, (.iconst 0, 1)), (17, (.ireturn, 1))] : List (Nat × (Instr × Nat))), decode cX12_isSmall r.1 = .ok r.2 := by decide +kernel
theorem dX12_isSmall_0 : decode cX12_isSmall 0 = .ok (.iload_n 0, 1) := dgX12_isSmall_0 (0, (.iload_n 0, 1)) (List.mem_of_getElem? (i := 0) rfl)
theorem dX12_isSmall_1 : decode cX12_isSmall 1 = .ok (.bipush 97, 2) := dgX12_isSmall_0 (1, (.bipush 97, 2)) (List.mem_of_getElem? (i := 1) rfl)
theorem dX12_isSmall_3 : decode cX12_isSmall 3 = .ok (.if_icmp .lt 13, 3) := dgX12_isSmall_0 (3, (.if_icmp .lt 13, 3)) (List.mem_of_getElem? (i := 2) rfl)
theorem dX12_isSmall_6 : decode cX12_isSmall 6 = .ok (.iload_n 0, 1) := dgX12_isSmall_0 (6, (.iload_n 0, 1)) (List.mem_of_getElem? (i := 3) rfl)
theorem dX12_isSmall_7 : decode cX12_isSmall 7 = .ok (.bipush 122, 2) := dgX12_isSmall_0 (7, (.bipush 122, 2)) (List.mem_of_getElem? (i := 4) rfl)
theorem dX12_isSmall_9 : decode cX12_isSmall 9 = .ok (.if_icmp .gt 7, 3) := dgX12_isSmall_0 (9, (.if_icmp .gt 7, 3)) (List.mem_of_getElem? (i := 5) rfl)
theorem dX12_isSmall_12 : decode cX12_isSmall 12 = .ok (.iconst 1, 1) := dgX12_isSmall_0 (12, (.iconst 1, 1)) (List.mem_of_getElem? (i := 6) rfl)
theorem dX12_isSmall_13 : decode cX12_isSmall 13 = .ok (.goto 4, 3) := dgX12_isSmall_0 (13, (.goto 4, 3)) (List.mem_of_getElem? (i := 7) rfl)
theorem dX12_isSmall_16 : decode cX12_isSmall 16 = .ok (.iconst 0, 1) := dgX12_isSmall_0 (16, (.iconst 0, 1)) (List.mem_of_getElem? (i := 8) rfl)
theorem dX12_isSmall_17 : decode cX12_isSmall 17 = .ok (.ireturn, 1) := dgX12_isSmall_0 (17, (.ireturn, 1)) (List.mem_of_getElem? (i := 9) rfl)
theorem dgX12_isDigit_0 : ∀ r ∈ ([(0, (.iload_n 0, 1)), (1, (.bipush 48, 2)), (3, (.if_icmp .lt 13, 3)), (6, (.iload_n 0, 1)), (7, (.bipush 57, 2)), (9, (.if_icmp .gt 7, 3)), (12, (.iconst 1, 1)), (13, (.goto 4, 3)), (16, (.iconst 0, 1)), (17, (.ireturn, 1))] : List (Nat × (Instr × Nat))), decode cX12_isDigit r.1 = .ok r.2 := by decide +kernel
theorem dX12_isDigit_0 : decode cX12_isDigit 0 = .ok (.iload_n 0, 1) := dgX12_isDigit_0 (0, (.iload_n 0, 1)) (List.mem_of_getElem? (i := 0) rfl)
theorem dX12_isDigit_1 : decode cX12_isDigit 1 = .ok (.bipush 48, 2) := dgX12_isDigit_0 (1, (.bipush 48, 2)) (List.mem_of_getElem? (i := 1) rfl)
theorem dX12_isDigit_3 : decode cX12_isDigit 3 = .ok (.if_icmp .lt 13, 3) := dgX12_isDigit_0 (3, (.if_icmp .lt 13, 3)) (List.mem_of_getElem? (i := 2) rfl)
theorem dX12_isDigit_6 : decode cX12_isDigit 6 = .ok (.iload_n 0, 1) := dgX12_isDigit_0 (6, (.iload_n 0, 1)) (List.mem_of_getElem? (i := 3) rfl)
theorem dX12_isDigit_7 : decode cX12_isDigit 7 = .ok (.bipush 57, 2) := dgX12_isDigit_0 (7, (.bipush 57, 2)) (List.mem_of_getElem? (i := 4) rfl)
theorem dX12_isDigit_9 : decode cX12_isDigit 9 = .ok (.if_icmp .gt 7, 3) := dgX12_isDigit_0 (9, (.if_icmp .gt 7, 3)) (List.mem_of_getElem? (i := 5) rfl)
theorem dX12_isDigit_12 : decode cX12_isDigit 12 = .ok (.iconst 1, 1) := dgX12_isDigit_0 (12, (.iconst 1, 1)) (List.mem_of_getElem? (i := 6) rfl)
theorem dX12_isDigit_13 : decode cX12_isDigit 13 = .ok (.goto 4, 3) := dgX12_isDigit_0 (13, (.goto 4, 3)) (List.mem_of_getElem? (i := 7) rfl)
theorem dX12_isDigit_16 : decode cX12_isDigit 16 = .ok (.iconst 0, 1) := dgX12_isDigit_0 (16, (.iconst 0, 1)) (List.mem_of_getElem? (i := 8) rfl)
theorem dX12_isDigit_17 : decode cX12_isDigit 17 = .ok (.ireturn, 1) := dgX12_isDigit_0 (17, (.ireturn, 1)) (List.mem_of_getElem? (i := 9) rfl)
theorem dgX12_is_0 : ∀ r ∈ ([(0, (.iload_n 0, 1)), (1, (.iload_n 1, 1)), (2, (.ishr, 1)), (3, (.iconst 1, 1)), (4, (.iand, 1)), (5, (.iconst 1, 1)), (6, (.if_icmp .ne 7, 3)), (9, (.iconst 1, 1)), (10, (.goto 4, 3)), (13, (.iconst 0, 1)), (14, (.ireturn, 1))] : List (Nat × (Instr × Nat))), decode cX12_is r.1 = .ok r.2 := by decide +kernel
theorem dX12_is_0 : decode cX12_is 0 = .ok (.iload_n 0, 1) := dgX12_is_0 (0, (.iload_n 0, 1)) (List.mem_of_getElem? (i := 0) rfl)
theorem dX12_is_1 : decode cX12_is 1 = .ok (.iload_n 1, 1) := dgX12_is_0 (1, (.iload_n 1, 1)) (List.mem_of_getElem? (i := 1) rfl)
theorem dX12_is_2 : decode cX12_is 2 = .ok (.ishr, 1) := dgX12_is_0 (2, (.ishr, 1)) (List.mem_of_getElem? (i := 2) rfl)
theorem dX12_is_3 : decode cX12_is 3 = .ok (.iconst 1, 1) := dgX12_is_0 (3, (.iconst 1, 1)) (List.mem_of_getElem? (i := 3) rfl)
theorem dX12_is_4 : decode cX12_is 4 = .ok (.iand, 1) := dgX12_is_0 (4, (.iand, 1)) (List.mem_of_getElem? (i := 4) rfl)
theorem dX12_is_5 : decode cX12_is 5 = .ok (.iconst 1, 1) := dgX12_is_0 (5, (.iconst 1, 1)) (List.mem_of_getElem? (i := 5) rfl)
theorem dX12_is_6 : decode cX12_is 6 = .ok (.if_icmp .ne 7, 3) := dgX12_is_0 (6, (.if_icmp .ne 7, 3)) (List.mem_of_getElem? (i := 6) rfl)
theorem dX12_is_9 : decode cX12_is 9 = .ok (.iconst 1, 1) := dgX12_is_0 (9, (.iconst 1, 1)) (List.mem_of_getElem? (i := 7) rfl)
theorem dX12_is_10 : decode cX12_is 10 = .ok (.goto 4, 3) := dgX12_is_0 (10, (.goto 4, 3)) (List.mem_of_getElem? (i := 8) rfl)
theorem dX12_is_13 : decode cX12_is 13 = .ok (.iconst 0, 1) := dgX12_is_0 (13, (.iconst 0, 1)) (List.mem_of_getElem? (i := 9) rfl)
theorem dX12_is_14 : decode cX12_is 14 = .ok (.ireturn, 1) := dgX12_is_0 (14, (.ireturn, 1)) (List.mem_of_getElem? (i := 10) rfl)
set_option maxHeartbeats 4000000 in
set_option maxRecDepth 100000 in
theorem n_is (l : Launch) (G : g5_G) (sz : Nat) (p_0 : Int32) (p_1 : Int32) : Met l yX12_is (wsG yX12_is cX12_is 2 (some .boolean)) ({ frames := 0, cells := 0, slots := 0, locals := 0 }) (va_Pc [.int p_0, .int p_1] (g5_P G [] sz)) (va_Qi (fun (r : Int32) (u : va_W) => (∃ (o_r : Int32), (0 ≤ o_r.toInt ∧ o_r.toInt ≤ 1) ∧ (r = o_r) ∧ (u = []))) (g5_B G (va_A [] sz)) (va_A [] sz)) 0 0 (va_A [] sz) := by
  refine Met.ofW (cc := cX12_is) (maxL := 2) (ret := (some .boolean)) (by decide) rfl ?_
  intro p e s m args below meth c s₁ B hml hv
  obtain ⟨rfl, hsz, hP, hK, hD0, hN, hT⟩ := hv
  have hx := B.exec
  have hb := B.bytes
  have hr := B.returns
  have hts : ∀ w ∈ tblG, w.before _ s = true := fun w h => atoms_spec (ws := (wsG yX12_is cX12_is 2 (some .boolean))) B.pre w (List.mem_cons_of_mem _ h)
  have hown : s.vm.findClass RX12 = some m.cls := findClass_of_methodNamed B.named
  have hlocks := B.notSynchronized
  subst hsz
  have hD := hD0.self (sz := s.heap.size)
  generalize hAe : va_A [] s.heap.size = A at hD hT ⊢
  have hA : ∀ q : Nat, s.heap.size ≤ q → A q := fun q h => by rw [← hAe]; exact Or.inr h
  have hS : va_S A s.heap s.heap [] := va_S.rf
  have hP : va_P G.1 vwCl [] s.heap := hP
  have hl := lv_entry ([.int p_0, .int p_1]) (n := 2) (Nat.le_of_ble_eq_true rfl)
  rw [lg_entry_eq]
  generalize (lg_sl ([.int p_0, .int p_1]) ++ List.replicate (2 - (lg_sl ([.int p_0, .int p_1])).length) Slot.unset).toArray = ls at hl ⊢
  have hl : lv_has ls 2 [(0, .int p_0), (1, .int p_1)] := hl
  refine lv_iload_n hx hb dX12_is_0 rfl (lv_at hl 0 rfl) ?_
  refine lv_iload_n hx hb dX12_is_1 rfl (lv_at hl 1 rfl) ?_
  refine lv_ishr hx hb dX12_is_2 ?_
  refine lv_iconst (v := 1) hx hb dX12_is_3 (by decide) ?_
  refine W.eq (g2 := F0 m 4 ls [.int 1, .int (p_0 >>> (p_1 &&& 31))]) rfl ?_
  refine lv_iand hx hb dX12_is_4 ?_
  refine lv_iconst (v := 1) hx hb dX12_is_5 (by decide) ?_
  refine lv_icmp_ne (tgt := 13) hx hb dX12_is_6 (by decide) (fun c_1 => ?_) (fun c_1 => ?_)
  ·
    have n_1 : gNe (((p_0 >>> (p_1 &&& 31)) &&& 1).toInt) (1) := by have z := g5_ne (a := ((p_0 >>> (p_1 &&& 31)) &&& 1).toInt) (b := 1) (by rfl) (by decide) c_1; unfold gNe; omega
    refine lv_iconst (v := 0) hx hb dX12_is_13 (by decide) ?_
    exact W.zret (v := 0) hx hb hr rfl (fun t ht hW => ⟨⟨0, [], rfl, ⟨0, ⟨by have zc_o_r : (0 : Int32).toInt = 0 := (by decide); omega, by have zc_o_r : (0 : Int32).toInt = 0 := (by decide); omega⟩, rfl, rfl⟩, by rw [ht]; exact hP.sub [] rfl, hD.sub [] (by decide) rfl⟩, hS.F ht⟩) hS.2.2 dX12_is_14
  ·
    have i_1 : ((p_0 >>> (p_1 &&& 31)) &&& 1).toInt = 1 := by have z := g5_neN (a := ((p_0 >>> (p_1 &&& 31)) &&& 1).toInt) (b := 1) (by rfl) (by decide) c_1; omega
    refine lv_iconst (v := 1) hx hb dX12_is_9 (by decide) ?_
    refine lv_goto (tgt := 14) hx hb dX12_is_10 (by decide) ?_
    exact W.zret (v := 1) hx hb hr rfl (fun t ht hW => ⟨⟨1, [], rfl, ⟨1, ⟨by have zc_o_r : (1 : Int32).toInt = 1 := (by decide); omega, by have zc_o_r : (1 : Int32).toInt = 1 := (by decide); omega⟩, rfl, rfl⟩, by rw [ht]; exact hP.sub [] rfl, hD.sub [] (by decide) rfl⟩, hS.F ht⟩) hS.2.2 dX12_is_14
theorem dgX12_tell_0 : ∀ r ∈ ([(0, (.aload_n 0, 1)), (1, (.iload_n 1, 1)), (2, (.ifCond .ge 7, 3)), (5, (.iload_n 1, 1)), (6, (.goto 4, 3)), (9, (.iconst 0, 1)), (10, (.putfield 110, 3)), (13, (.aload_n 0, 1)), (14, (.aload_n 0, 1)), (15, (.getfield 113, 3)), (18, (.ifCond .eq 11, 3)), (21, (.iload_n 1, 1)), (22, (.ifCond .ge 7, 3)), (25, (.iconst 1, 1)), (26, (.goto 4, 3)), (29, (.iconst 0, 1)), (30, (.putfield 113, 3)), (33, (.iload_n 1, 1)), (34, (.ifCond .ge 14, 3)), (37, (.aload_n 0, 1)), (38, (.getfield 7, 3)), (41, (.iload_n 1, 1)), (42, (.ineg, 1)), (43, (.dup2, 1)), (44, (.iaload, 1)), (45, (.iconst 1, 1)), (46, (.iadd, 1)), (47, (.iastore, 1)), (48, (.iload_n 1, 1)), (49, (.ireturn, 1))] : List (Nat × (Instr × Nat))), decode cX12_tell r.1 = .ok r.2 := by decide +kernel
theorem dX12_tell_0 : decode cX12_tell 0 = .ok (.aload_n 0, 1) := dgX12_tell_0 (0, (.aload_n 0, 1)) (List.mem_of_getElem? (i := 0) rfl)
theorem dX12_tell_1 : decode cX12_tell 1 = .ok (.iload_n 1, 1) := dgX12_tell_0 (1, (.iload_n 1, 1)) (List.mem_of_getElem? (i := 1) rfl)
theorem dX12_tell_2 : decode cX12_tell 2 = .ok (.ifCond .ge 7, 3) := dgX12_tell_0 (2, (.ifCond .ge 7, 3)) (List.mem_of_getElem? (i := 2) rfl)
theorem dX12_tell_5 : decode cX12_tell 5 = .ok (.iload_n 1, 1) := dgX12_tell_0 (5, (.iload_n 1, 1)) (List.mem_of_getElem? (i := 3) rfl)
theorem dX12_tell_6 : decode cX12_tell 6 = .ok (.goto 4, 3) := dgX12_tell_0 (6, (.goto 4, 3)) (List.mem_of_getElem? (i := 4) rfl)
theorem dX12_tell_9 : decode cX12_tell 9 = .ok (.iconst 0, 1) := dgX12_tell_0 (9, (.iconst 0, 1)) (List.mem_of_getElem? (i := 5) rfl)
theorem dX12_tell_10 : decode cX12_tell 10 = .ok (.putfield 110, 3) := dgX12_tell_0 (10, (.putfield 110, 3)) (List.mem_of_getElem? (i := 6) rfl)
theorem dX12_tell_13 : decode cX12_tell 13 = .ok (.aload_n 0, 1) := dgX12_tell_0 (13, (.aload_n 0, 1)) (List.mem_of_getElem? (i := 7) rfl)
theorem dX12_tell_14 : decode cX12_tell 14 = .ok (.aload_n 0, 1) := dgX12_tell_0 (14, (.aload_n 0, 1)) (List.mem_of_getElem? (i := 8) rfl)
theorem dX12_tell_15 : decode cX12_tell 15 = .ok (.getfield 113, 3) := dgX12_tell_0 (15, (.getfield 113, 3)) (List.mem_of_getElem? (i := 9) rfl)
theorem dX12_tell_18 : decode cX12_tell 18 = .ok (.ifCond .eq 11, 3) := dgX12_tell_0 (18, (.ifCond .eq 11, 3)) (List.mem_of_getElem? (i := 10) rfl)
theorem dX12_tell_21 : decode cX12_tell 21 = .ok (.iload_n 1, 1) := dgX12_tell_0 (21, (.iload_n 1, 1)) (List.mem_of_getElem? (i := 11) rfl)
theorem dX12_tell_22 : decode cX12_tell 22 = .ok (.ifCond .ge 7, 3) := dgX12_tell_0 (22, (.ifCond .ge 7, 3)) (List.mem_of_getElem? (i := 12) rfl)
theorem dX12_tell_25 : decode cX12_tell 25 = .ok (.iconst 1, 1) := dgX12_tell_0 (25, (.iconst 1, 1)) (List.mem_of_getElem? (i := 13) rfl)
theorem dX12_tell_26 : decode cX12_tell 26 = .ok (.goto 4, 3) := dgX12_tell_0 (26, (.goto 4, 3)) (List.mem_of_getElem? (i := 14) rfl)
theorem dX12_tell_29 : decode cX12_tell 29 = .ok (.iconst 0, 1) := dgX12_tell_0 (29, (.iconst 0, 1)) (List.mem_of_getElem? (i := 15) rfl)
theorem dX12_tell_30 : decode cX12_tell 30 = .ok (.putfield 113, 3) := dgX12_tell_0 (30, (.putfield 113, 3)) (List.mem_of_getElem? (i := 16) rfl)
theorem dX12_tell_33 : decode cX12_tell 33 = .ok (.iload_n 1, 1) := dgX12_tell_0 (33, (.iload_n 1, 1)) (List.mem_of_getElem? (i := 17) rfl)
theorem dX12_tell_34 : decode cX12_tell 34 = .ok (.ifCond .ge 14, 3) := dgX12_tell_0 (34, (.ifCond .ge 14, 3)) (List.mem_of_getElem? (i := 18) rfl)
theorem dX12_tell_37 : decode cX12_tell 37 = .ok (.aload_n 0, 1) := dgX12_tell_0 (37, (.aload_n 0, 1)) (List.mem_of_getElem? (i := 19) rfl)
theorem dX12_tell_38 : decode cX12_tell 38 = .ok (.getfield 7, 3) := dgX12_tell_0 (38, (.getfield 7, 3)) (List.mem_of_getElem? (i := 20) rfl)
theorem dX12_tell_41 : decode cX12_tell 41 = .ok (.iload_n 1, 1) := dgX12_tell_0 (41, (.iload_n 1, 1)) (List.mem_of_getElem? (i := 21) rfl)
theorem dX12_tell_42 : decode cX12_tell 42 = .ok (.ineg, 1) := dgX12_tell_0 (42, (.ineg, 1)) (List.mem_of_getElem? (i := 22) rfl)
theorem dX12_tell_43 : decode cX12_tell 43 = .ok (.dup2, 1) := dgX12_tell_0 (43, (.dup2, 1)) (List.mem_of_getElem? (i := 23) rfl)
theorem dX12_tell_44 : decode cX12_tell 44 = .ok (.iaload, 1) := dgX12_tell_0 (44, (.iaload, 1)) (List.mem_of_getElem? (i := 24) rfl)
theorem dX12_tell_45 : decode cX12_tell 45 = .ok (.iconst 1, 1) := dgX12_tell_0 (45, (.iconst 1, 1)) (List.mem_of_getElem? (i := 25) rfl)
theorem dX12_tell_46 : decode cX12_tell 46 = .ok (.iadd, 1) := dgX12_tell_0 (46, (.iadd, 1)) (List.mem_of_getElem? (i := 26) rfl)
theorem dX12_tell_47 : decode cX12_tell 47 = .ok (.iastore, 1) := dgX12_tell_0 (47, (.iastore, 1)) (List.mem_of_getElem? (i := 27) rfl)
theorem dX12_tell_48 : decode cX12_tell 48 = .ok (.iload_n 1, 1) := dgX12_tell_0 (48, (.iload_n 1, 1)) (List.mem_of_getElem? (i := 28) rfl)
theorem dX12_tell_49 : decode cX12_tell 49 = .ok (.ireturn, 1) := dgX12_tell_0 (49, (.ireturn, 1)) (List.mem_of_getElem? (i := 29) rfl)
theorem inG_X12 : ∀ w ∈ wsX120, w ∈ tblG := tgs [1255, 1257, 1259, 1261, 1263, 1265, 1267, 1269, 1271, 1273, 1275, 1277, 1279, 1281, 1283, 1285, 1287, 1289, 1291, 1293, 1295, 1297, 1299, 1301, 1303, 1305, 1307, 1309, 1311, 1313, 1315, 1317, 1319, 1321, 1323, 1325, 1327, 1329, 1331, 1333, 1335, 1337, 1339, 1341, 1343, 1345, 1347, 1349, 1351, 1353, 1355, 1357] (by decide +kernel) (by decide +kernel)
theorem fl_X12_110 : Cond.fieldLink RX12 110 "LateGlassModel" "status" "I" ∈ tblG := tg 1204 (by decide +kernel) (by decide +kernel)
theorem fl_X12_113 : Cond.fieldLink RX12 113 "LateGlassModel" "isCounted" "Z" ∈ tblG := tg 1245 (by decide +kernel) (by decide +kernel)
theorem fl_X12_7 : Cond.fieldLink RX12 7 "LateGlassModel" "refusals" "[I" ∈ tblG := tg 1205 (by decide +kernel) (by decide +kernel)
set_option maxHeartbeats 4000000 in
set_option maxRecDepth 100000 in
theorem n_tell1 (l : Launch) (G : g5_G) (b_o b_rf b_ro b_im b_ke b_tp b_nl b_op b_ar b_pi b_pa b_ws b_hw b_se b_re b_pt b_ip b_ah b_be b_me b_tr b_ld b_wn : Nat) (sz : Nat) (u_th : Int32) (u_sa : Int32) (u_fd : Int32) (u_td : Int32) (u_fr : Int32) (u_to : Int32) (u_so : Int32) (u_fa : Int32) (u_bd : Int32) (u_nc : Int32) (u_co : Int32) (u_le : Int32) (u_pd : Int32) (u_od : Int32) (u_la : Int32) (u_bk : Int32) (u_ce : Int32) (u_ho : Int32) (u_wy : Int32) (u_bt : Int32) (u_ps : Int32) (u_tg : Int32) (u_sn : Int32) (u_ic : Int32) (u_wd : Int32) (u_id : Int32) (u_wo : Int64) (u_va : Int64) (u_su : Int64) (u_st : Int64) (v_rf : Nat → Int32) (h_u_td : 0 ≤ u_td.toInt ∧ u_td.toInt ≤ 400) (h_u_fr : 0 ≤ u_fr.toInt ∧ u_fr.toInt ≤ 400) (h_u_to : 0 ≤ u_to.toInt ∧ u_to.toInt ≤ 400) (h_u_bd : 0 ≤ u_bd.toInt ∧ u_bd.toInt ≤ 1) (h_u_nc : 0 ≤ u_nc.toInt ∧ u_nc.toInt ≤ 12) (h_u_co : 0 ≤ u_co.toInt ∧ u_co.toInt ≤ 400) (h_u_pd : 0 ≤ u_pd.toInt ∧ u_pd.toInt ≤ 400) (h_u_la : 0 ≤ u_la.toInt ∧ u_la.toInt ≤ 4840) (h_u_bk : 0 ≤ u_bk.toInt ∧ u_bk.toInt ≤ 1) (h_u_ce : 0 ≤ u_ce.toInt ∧ u_ce.toInt ≤ 63) (h_u_ho : 0 ≤ u_ho.toInt ∧ u_ho.toInt ≤ 23) (h_u_wy : 0 ≤ u_wy.toInt ∧ u_wy.toInt ≤ 3) (h_u_bt : 0 ≤ u_bt.toInt ∧ u_bt.toInt ≤ 1000000) (h_u_ps : 0 ≤ u_ps.toInt ∧ u_ps.toInt ≤ 200) (h_u_ic : 0 ≤ u_ic.toInt ∧ u_ic.toInt ≤ 1) (h_u_id : 0 ≤ u_id.toInt ∧ u_id.toInt ≤ 1) : Met l yX12_tell (wsG yX12_tell cX12_tell 2 (some .int)) ({ frames := 0, cells := 0, slots := 0, locals := 0 }) (va_Pc [.ref b_o, .int (-1)] (g5_P G [(b_o, (oc12 u_th u_sa b_rf b_ro b_im b_ke u_fd b_tp u_td u_fr u_to u_so u_wo u_fa u_bd u_nc b_nl u_co b_op b_ar u_le b_pi b_pa u_pd u_od b_ws b_hw u_la b_se b_re u_bk u_va u_su u_ce u_ho u_wy u_bt u_ps b_pt u_tg u_sn b_ip u_ic b_ah b_be b_me u_wd b_tr b_ld u_st b_wn u_id)), (b_rf, (arI G 7 v_rf))] sz)) (va_Qi (fun (r : Int32) (u : va_W) => (∃ (o_sa : Int32) (o_ic : Int32) (o_rf : Nat → Int32), (0 ≤ o_ic.toInt ∧ o_ic.toInt ≤ 1) ∧ (r = (-1)) ∧ (u = [(b_o, (oc12 u_th o_sa b_rf b_ro b_im b_ke u_fd b_tp u_td u_fr u_to u_so u_wo u_fa u_bd u_nc b_nl u_co b_op b_ar u_le b_pi b_pa u_pd u_od b_ws b_hw u_la b_se b_re u_bk u_va u_su u_ce u_ho u_wy u_bt u_ps b_pt u_tg u_sn b_ip o_ic b_ah b_be b_me u_wd b_tr b_ld u_st b_wn u_id)), (b_rf, (arI G 7 o_rf))]))) (g5_B G (va_A [(b_o, (oc12 u_th u_sa b_rf b_ro b_im b_ke u_fd b_tp u_td u_fr u_to u_so u_wo u_fa u_bd u_nc b_nl u_co b_op b_ar u_le b_pi b_pa u_pd u_od b_ws b_hw u_la b_se b_re u_bk u_va u_su u_ce u_ho u_wy u_bt u_ps b_pt u_tg u_sn b_ip u_ic b_ah b_be b_me u_wd b_tr b_ld u_st b_wn u_id)), (b_rf, (arI G 7 v_rf))] sz)) (va_A [(b_o, (oc12 u_th u_sa b_rf b_ro b_im b_ke u_fd b_tp u_td u_fr u_to u_so u_wo u_fa u_bd u_nc b_nl u_co b_op b_ar u_le b_pi b_pa u_pd u_od b_ws b_hw u_la b_se b_re u_bk u_va u_su u_ce u_ho u_wy u_bt u_ps b_pt u_tg u_sn b_ip u_ic b_ah b_be b_me u_wd b_tr b_ld u_st b_wn u_id)), (b_rf, (arI G 7 v_rf))] sz)) 0 0 (va_A [(b_o, (oc12 u_th u_sa b_rf b_ro b_im b_ke u_fd b_tp u_td u_fr u_to u_so u_wo u_fa u_bd u_nc b_nl u_co b_op b_ar u_le b_pi b_pa u_pd u_od b_ws b_hw u_la b_se b_re u_bk u_va u_su u_ce u_ho u_wy u_bt u_ps b_pt u_tg u_sn b_ip u_ic b_ah b_be b_me u_wd b_tr b_ld u_st b_wn u_id)), (b_rf, (arI G 7 v_rf))] sz) := by
  refine Met.ofW (cc := cX12_tell) (maxL := 2) (ret := (some .int)) (by decide +kernel) rfl ?_
  intro p e s m args below meth c s₁ B hml hv
  obtain ⟨rfl, hsz, hP, hK, hD0, hN, hT⟩ := hv
  have hx := B.exec
  have hb := B.bytes
  have hr := B.returns
  have hts : ∀ w ∈ tblG, w.before _ s = true := fun w h => atoms_spec (ws := (wsG yX12_tell cX12_tell 2 (some .int))) B.pre w (List.mem_cons_of_mem _ h)
  have hown : s.vm.findClass RX12 = some m.cls := findClass_of_methodNamed B.named
  have hlocks := B.notSynchronized
  subst hsz
  have hD := hD0.self (sz := s.heap.size)
  generalize hAe : va_A [(b_o, (oc12 u_th u_sa b_rf b_ro b_im b_ke u_fd b_tp u_td u_fr u_to u_so u_wo u_fa u_bd u_nc b_nl u_co b_op b_ar u_le b_pi b_pa u_pd u_od b_ws b_hw u_la b_se b_re u_bk u_va u_su u_ce u_ho u_wy u_bt u_ps b_pt u_tg u_sn b_ip u_ic b_ah b_be b_me u_wd b_tr b_ld u_st b_wn u_id)), (b_rf, (arI G 7 v_rf))] s.heap.size = A at hD hT ⊢
  have hA : ∀ q : Nat, s.heap.size ≤ q → A q := fun q h => by rw [← hAe]; exact Or.inr h
  have hS : va_S A s.heap s.heap [] := va_S.rf
  replace hP : va_P G.1 vwCl [(b_o, (oc12 u_th u_sa b_rf b_ro b_im b_ke u_fd b_tp u_td u_fr u_to u_so u_wo u_fa u_bd u_nc b_nl u_co b_op b_ar u_le b_pi b_pa u_pd u_od b_ws b_hw u_la b_se b_re u_bk u_va u_su u_ce u_ho u_wy u_bt u_ps b_pt u_tg u_sn b_ip u_ic b_ah b_be b_me u_wd b_tr b_ld u_st b_wn u_id)), (b_rf, (arI G 7 v_rf))] s.heap := hP
  have hl := lv_entry ([.ref b_o, .int (-1)]) (n := 2) (Nat.le_of_ble_eq_true rfl)
  rw [lg_entry_eq]
  generalize (lg_sl ([.ref b_o, .int (-1)]) ++ List.replicate (2 - (lg_sl ([.ref b_o, .int (-1)])).length) Slot.unset).toArray = ls at hl ⊢
  replace hl : lv_has ls 2 [(0, .ref b_o), (1, .int (-1))] := hl
  refine lv_aload_n hx hb dX12_tell_0 rfl (lv_at hl 0 rfl) ?_
  refine lv_iload_n hx hb dX12_tell_1 rfl (lv_at hl 1 rfl) ?_
  refine lv_if_ge (tgt := 9) hx hb dX12_tell_2 (by decide +kernel) (fun c_1 => ?_) (fun c_1 => ?_)
  ·
    exact absurd c_1 (by decide +kernel)
  ·
    refine lv_iload_n hx hb dX12_tell_5 rfl (lv_at hl 1 rfl) ?_
    refine lv_goto (tgt := 10) hx hb dX12_tell_6 (by decide +kernel) ?_
    refine va_put (D := G.1) (ci := 12) (v := .int (-1)) (ty := .int) (C := RX12) (T := TX12) (N := 52) hx hb hts inG_X12 tyX12 tyX12_ok nmX12 hown hK hP hD hS 0 rfl rfl 1 (by decide +kernel) (hts _ fl_X12_110) (fun _ h9 => h9) rfl (by decide +kernel) rfl rfl (Nat.le_of_ble_eq_true rfl) dX12_tell_10 ?_
    clear hP hD hS
    intro H locs hP hD hS
    refine g5_rs [(b_o, (oc12 u_th (-1) b_rf b_ro b_im b_ke u_fd b_tp u_td u_fr u_to u_so u_wo u_fa u_bd u_nc b_nl u_co b_op b_ar u_le b_pi b_pa u_pd u_od b_ws b_hw u_la b_se b_re u_bk u_va u_su u_ce u_ho u_wy u_bt u_ps b_pt u_tg u_sn b_ip u_ic b_ah b_be b_me u_wd b_tr b_ld u_st b_wn u_id)), (b_rf, (arI G 7 v_rf))] hP hD ?_
    clear hP hD
    intro hP hD
    refine lv_aload_n hx hb dX12_tell_13 rfl (lv_at hl 0 rfl) ?_
    refine W.eq (g2 := F0 m 14 ls [.ref b_o]) rfl ?_
    refine lv_aload_n hx hb dX12_tell_14 rfl (lv_at hl 0 rfl) ?_
    refine va_get (D := G.1) (ci := 12) (v := .int u_ic) (C := RX12) (T := TX12) (N := 52) hx hb hts inG_X12 hown hK hP 0 rfl rfl 42 (by decide +kernel) (hts _ fl_X12_113) (fun _ h9 => h9) rfl dX12_tell_15 ?_
    refine lv_if_eq (tgt := 29) hx hb dX12_tell_18 (by decide +kernel) (fun c_2 => ?_) (fun c_2 => ?_)
    ·
      have i_2 : u_ic.toInt = 0 := g5_eq (a := u_ic.toInt) (b := 0) rfl (by decide +kernel) c_2
      refine lv_iconst (v := 0) hx hb dX12_tell_29 (by decide +kernel) ?_
      refine va_put (D := G.1) (ci := 12) (v := .int 0) (ty := .boolean) (C := RX12) (T := TX12) (N := 52) hx hb hts inG_X12 tyX12 tyX12_ok nmX12 hown hK hP hD hS 0 rfl rfl 42 (by decide +kernel) (hts _ fl_X12_113) (fun _ h9 => h9) rfl (by decide +kernel) rfl rfl (Nat.le_of_ble_eq_true rfl) dX12_tell_30 ?_
      clear hP hD hS
      intro H locs hP hD hS
      refine g5_rs [(b_o, (oc12 u_th (-1) b_rf b_ro b_im b_ke u_fd b_tp u_td u_fr u_to u_so u_wo u_fa u_bd u_nc b_nl u_co b_op b_ar u_le b_pi b_pa u_pd u_od b_ws b_hw u_la b_se b_re u_bk u_va u_su u_ce u_ho u_wy u_bt u_ps b_pt u_tg u_sn b_ip 0 b_ah b_be b_me u_wd b_tr b_ld u_st b_wn u_id)), (b_rf, (arI G 7 v_rf))] hP hD ?_
      clear hP hD
      intro hP hD
      refine lv_iload_n hx hb dX12_tell_33 rfl (lv_at hl 1 rfl) ?_
      refine lv_if_ge (tgt := 48) hx hb dX12_tell_34 (by decide +kernel) (fun c_3 => ?_) (fun c_3 => ?_)
      ·
        exact absurd c_3 (by decide +kernel)
      ·
        refine lv_aload_n hx hb dX12_tell_37 rfl (lv_at hl 0 rfl) ?_
        refine va_get (D := G.1) (ci := 12) (v := .ref b_rf) (C := RX12) (T := TX12) (N := 52) hx hb hts inG_X12 hown hK hP 0 rfl rfl 2 (by decide +kernel) (hts _ fl_X12_7) (fun _ h9 => h9) rfl dX12_tell_38 ?_
        refine lv_iload_n hx hb dX12_tell_41 rfl (lv_at hl 1 rfl) ?_
        refine lv_ineg hx hb dX12_tell_42 ?_
        refine g5_ti (v := 1) (by decide +kernel) ?_
        refine W.eq (g2 := F0 m 43 ls [.int 1, .ref b_rf]) rfl ?_
        refine lv_dup2_11 hx hb dX12_tell_43 rfl rfl ?_
        refine va_iald hx hb hK hP 1 0 rfl rfl (i := 1) (by unfold vp_in; decide) dX12_tell_44 ?_
        refine g5_ti (v := (v_rf 1)) rfl ?_
        refine lv_iconst (v := 1) hx hb dX12_tell_45 (by decide +kernel) ?_
        refine lv_iadd hx hb dX12_tell_46 ?_
        refine va_iast hx hb hK hP hD hS 1 0 rfl rfl (i := 1) (x := ((v_rf 1) + 1)) (by unfold vp_in; decide) dX12_tell_47 ?_
        clear hP hD hS
        intro H locs hP hD hS
        refine g5_rs [(b_o, (oc12 u_th (-1) b_rf b_ro b_im b_ke u_fd b_tp u_td u_fr u_to u_so u_wo u_fa u_bd u_nc b_nl u_co b_op b_ar u_le b_pi b_pa u_pd u_od b_ws b_hw u_la b_se b_re u_bk u_va u_su u_ce u_ho u_wy u_bt u_ps b_pt u_tg u_sn b_ip 0 b_ah b_be b_me u_wd b_tr b_ld u_st b_wn u_id)), (b_rf, (arI G 7 (upd v_rf 1 ((v_rf 1) + 1))))] hP hD ?_
        clear hP hD
        intro hP hD
        refine W.eq (g2 := F0 m 48 ls []) rfl ?_
        refine lv_iload_n hx hb dX12_tell_48 rfl (lv_at hl 1 rfl) ?_
        exact W.iret (v := (-1)) hx hb hr (fun t ht hW => ⟨⟨(-1), [(b_o, (oc12 u_th (-1) b_rf b_ro b_im b_ke u_fd b_tp u_td u_fr u_to u_so u_wo u_fa u_bd u_nc b_nl u_co b_op b_ar u_le b_pi b_pa u_pd u_od b_ws b_hw u_la b_se b_re u_bk u_va u_su u_ce u_ho u_wy u_bt u_ps b_pt u_tg u_sn b_ip 0 b_ah b_be b_me u_wd b_tr b_ld u_st b_wn u_id)), (b_rf, (arI G 7 (upd v_rf 1 ((v_rf 1) + 1))))], rfl, ⟨(-1), 0, (upd v_rf 1 ((v_rf 1) + 1)), ⟨by have zc_o_ic : (0 : Int32).toInt = 0 := (by decide +kernel); omega, by have zc_o_ic : (0 : Int32).toInt = 0 := (by decide +kernel); omega⟩, rfl, rfl⟩, by rw [ht]; exact hP.sub [0, 1] rfl, hD.sub [0, 1] (by decide +kernel) rfl⟩, hS.F ht⟩) hS.2.2 dX12_tell_49
    ·
      have n_2 : gNe (u_ic.toInt) (0) := g5_eqN (a := u_ic.toInt) (b := 0) rfl (by decide +kernel) c_2
      have i_2 : u_ic.toInt ≥ 1 := by have z := g5_eqN (a := u_ic.toInt) (b := 0) (by rfl) (by decide +kernel) c_2; omega
      refine lv_iload_n hx hb dX12_tell_21 rfl (lv_at hl 1 rfl) ?_
      refine lv_if_ge (tgt := 29) hx hb dX12_tell_22 (by decide +kernel) (fun c_4 => ?_) (fun c_4 => ?_)
      ·
        exact absurd c_4 (by decide +kernel)
      ·
        refine lv_iconst (v := 1) hx hb dX12_tell_25 (by decide +kernel) ?_
        refine lv_goto (tgt := 30) hx hb dX12_tell_26 (by decide +kernel) ?_
        refine va_put (D := G.1) (ci := 12) (v := .int 1) (ty := .boolean) (C := RX12) (T := TX12) (N := 52) hx hb hts inG_X12 tyX12 tyX12_ok nmX12 hown hK hP hD hS 0 rfl rfl 42 (by decide +kernel) (hts _ fl_X12_113) (fun _ h9 => h9) rfl (by decide +kernel) rfl rfl (Nat.le_of_ble_eq_true rfl) dX12_tell_30 ?_
        clear hP hD hS
        intro H locs hP hD hS
        refine g5_rs [(b_o, (oc12 u_th (-1) b_rf b_ro b_im b_ke u_fd b_tp u_td u_fr u_to u_so u_wo u_fa u_bd u_nc b_nl u_co b_op b_ar u_le b_pi b_pa u_pd u_od b_ws b_hw u_la b_se b_re u_bk u_va u_su u_ce u_ho u_wy u_bt u_ps b_pt u_tg u_sn b_ip 1 b_ah b_be b_me u_wd b_tr b_ld u_st b_wn u_id)), (b_rf, (arI G 7 v_rf))] hP hD ?_
        clear hP hD
        intro hP hD
        refine lv_iload_n hx hb dX12_tell_33 rfl (lv_at hl 1 rfl) ?_
        refine W.eq (g2 := F0 m 34 ls [.int (-1)]) rfl ?_
        refine lv_if_ge (tgt := 48) hx hb dX12_tell_34 (by decide +kernel) (fun c_5 => ?_) (fun c_5 => ?_)
        ·
          exact absurd c_5 (by decide +kernel)
        ·
          refine lv_aload_n hx hb dX12_tell_37 rfl (lv_at hl 0 rfl) ?_
          refine va_get (D := G.1) (ci := 12) (v := .ref b_rf) (C := RX12) (T := TX12) (N := 52) hx hb hts inG_X12 hown hK hP 0 rfl rfl 2 (by decide +kernel) (hts _ fl_X12_7) (fun _ h9 => h9) rfl dX12_tell_38 ?_
          refine lv_iload_n hx hb dX12_tell_41 rfl (lv_at hl 1 rfl) ?_
          refine lv_ineg hx hb dX12_tell_42 ?_
          refine g5_ti (v := 1) (by decide +kernel) ?_
          refine W.eq (g2 := F0 m 43 ls [.int 1, .ref b_rf]) rfl ?_
          refine lv_dup2_11 hx hb dX12_tell_43 rfl rfl ?_
          refine va_iald hx hb hK hP 1 0 rfl rfl (i := 1) (by unfold vp_in; decide) dX12_tell_44 ?_
          refine g5_ti (v := (v_rf 1)) rfl ?_
          refine lv_iconst (v := 1) hx hb dX12_tell_45 (by decide +kernel) ?_
          refine lv_iadd hx hb dX12_tell_46 ?_
          refine va_iast hx hb hK hP hD hS 1 0 rfl rfl (i := 1) (x := ((v_rf 1) + 1)) (by unfold vp_in; decide) dX12_tell_47 ?_
          clear hP hD hS
          intro H locs hP hD hS
          refine g5_rs [(b_o, (oc12 u_th (-1) b_rf b_ro b_im b_ke u_fd b_tp u_td u_fr u_to u_so u_wo u_fa u_bd u_nc b_nl u_co b_op b_ar u_le b_pi b_pa u_pd u_od b_ws b_hw u_la b_se b_re u_bk u_va u_su u_ce u_ho u_wy u_bt u_ps b_pt u_tg u_sn b_ip 1 b_ah b_be b_me u_wd b_tr b_ld u_st b_wn u_id)), (b_rf, (arI G 7 (upd v_rf 1 ((v_rf 1) + 1))))] hP hD ?_
          clear hP hD
          intro hP hD
          refine W.eq (g2 := F0 m 48 ls []) rfl ?_
          refine lv_iload_n hx hb dX12_tell_48 rfl (lv_at hl 1 rfl) ?_
          exact W.iret (v := (-1)) hx hb hr (fun t ht hW => ⟨⟨(-1), [(b_o, (oc12 u_th (-1) b_rf b_ro b_im b_ke u_fd b_tp u_td u_fr u_to u_so u_wo u_fa u_bd u_nc b_nl u_co b_op b_ar u_le b_pi b_pa u_pd u_od b_ws b_hw u_la b_se b_re u_bk u_va u_su u_ce u_ho u_wy u_bt u_ps b_pt u_tg u_sn b_ip 1 b_ah b_be b_me u_wd b_tr b_ld u_st b_wn u_id)), (b_rf, (arI G 7 (upd v_rf 1 ((v_rf 1) + 1))))], rfl, ⟨(-1), 1, (upd v_rf 1 ((v_rf 1) + 1)), ⟨by have zc_o_ic : (1 : Int32).toInt = 1 := (by decide +kernel); omega, by have zc_o_ic : (1 : Int32).toInt = 1 := (by decide +kernel); omega⟩, rfl, rfl⟩, by rw [ht]; exact hP.sub [0, 1] rfl, hD.sub [0, 1] (by decide +kernel) rfl⟩, hS.F ht⟩) hS.2.2 dX12_tell_49
set_option maxHeartbeats 4000000 in
set_option maxRecDepth 100000 in
theorem n_tell2 (l : Launch) (G : g5_G) (b_o b_rf b_ro b_im b_ke b_tp b_nl b_op b_ar b_pi b_pa b_ws b_hw b_se b_re b_pt b_ip b_ah b_be b_me b_tr b_ld b_wn : Nat) (sz : Nat) (u_th : Int32) (u_sa : Int32) (u_fd : Int32) (u_td : Int32) (u_fr : Int32) (u_to : Int32) (u_so : Int32) (u_fa : Int32) (u_bd : Int32) (u_nc : Int32) (u_co : Int32) (u_le : Int32) (u_pd : Int32) (u_od : Int32) (u_la : Int32) (u_bk : Int32) (u_ce : Int32) (u_ho : Int32) (u_wy : Int32) (u_bt : Int32) (u_ps : Int32) (u_tg : Int32) (u_sn : Int32) (u_ic : Int32) (u_wd : Int32) (u_id : Int32) (u_wo : Int64) (u_va : Int64) (u_su : Int64) (u_st : Int64) (v_rf : Nat → Int32) (h_u_td : 0 ≤ u_td.toInt ∧ u_td.toInt ≤ 400) (h_u_fr : 0 ≤ u_fr.toInt ∧ u_fr.toInt ≤ 400) (h_u_to : 0 ≤ u_to.toInt ∧ u_to.toInt ≤ 400) (h_u_bd : 0 ≤ u_bd.toInt ∧ u_bd.toInt ≤ 1) (h_u_nc : 0 ≤ u_nc.toInt ∧ u_nc.toInt ≤ 12) (h_u_co : 0 ≤ u_co.toInt ∧ u_co.toInt ≤ 400) (h_u_pd : 0 ≤ u_pd.toInt ∧ u_pd.toInt ≤ 400) (h_u_la : 0 ≤ u_la.toInt ∧ u_la.toInt ≤ 4840) (h_u_bk : 0 ≤ u_bk.toInt ∧ u_bk.toInt ≤ 1) (h_u_ce : 0 ≤ u_ce.toInt ∧ u_ce.toInt ≤ 63) (h_u_ho : 0 ≤ u_ho.toInt ∧ u_ho.toInt ≤ 23) (h_u_wy : 0 ≤ u_wy.toInt ∧ u_wy.toInt ≤ 3) (h_u_bt : 0 ≤ u_bt.toInt ∧ u_bt.toInt ≤ 1000000) (h_u_ps : 0 ≤ u_ps.toInt ∧ u_ps.toInt ≤ 200) (h_u_ic : 0 ≤ u_ic.toInt ∧ u_ic.toInt ≤ 1) (h_u_id : 0 ≤ u_id.toInt ∧ u_id.toInt ≤ 1) : Met l yX12_tell (wsG yX12_tell cX12_tell 2 (some .int)) ({ frames := 0, cells := 0, slots := 0, locals := 0 }) (va_Pc [.ref b_o, .int (-2)] (g5_P G [(b_o, (oc12 u_th u_sa b_rf b_ro b_im b_ke u_fd b_tp u_td u_fr u_to u_so u_wo u_fa u_bd u_nc b_nl u_co b_op b_ar u_le b_pi b_pa u_pd u_od b_ws b_hw u_la b_se b_re u_bk u_va u_su u_ce u_ho u_wy u_bt u_ps b_pt u_tg u_sn b_ip u_ic b_ah b_be b_me u_wd b_tr b_ld u_st b_wn u_id)), (b_rf, (arI G 7 v_rf))] sz)) (va_Qi (fun (r : Int32) (u : va_W) => (∃ (o_sa : Int32) (o_ic : Int32) (o_rf : Nat → Int32), (0 ≤ o_ic.toInt ∧ o_ic.toInt ≤ 1) ∧ (r = (-2)) ∧ (u = [(b_o, (oc12 u_th o_sa b_rf b_ro b_im b_ke u_fd b_tp u_td u_fr u_to u_so u_wo u_fa u_bd u_nc b_nl u_co b_op b_ar u_le b_pi b_pa u_pd u_od b_ws b_hw u_la b_se b_re u_bk u_va u_su u_ce u_ho u_wy u_bt u_ps b_pt u_tg u_sn b_ip o_ic b_ah b_be b_me u_wd b_tr b_ld u_st b_wn u_id)), (b_rf, (arI G 7 o_rf))]))) (g5_B G (va_A [(b_o, (oc12 u_th u_sa b_rf b_ro b_im b_ke u_fd b_tp u_td u_fr u_to u_so u_wo u_fa u_bd u_nc b_nl u_co b_op b_ar u_le b_pi b_pa u_pd u_od b_ws b_hw u_la b_se b_re u_bk u_va u_su u_ce u_ho u_wy u_bt u_ps b_pt u_tg u_sn b_ip u_ic b_ah b_be b_me u_wd b_tr b_ld u_st b_wn u_id)), (b_rf, (arI G 7 v_rf))] sz)) (va_A [(b_o, (oc12 u_th u_sa b_rf b_ro b_im b_ke u_fd b_tp u_td u_fr u_to u_so u_wo u_fa u_bd u_nc b_nl u_co b_op b_ar u_le b_pi b_pa u_pd u_od b_ws b_hw u_la b_se b_re u_bk u_va u_su u_ce u_ho u_wy u_bt u_ps b_pt u_tg u_sn b_ip u_ic b_ah b_be b_me u_wd b_tr b_ld u_st b_wn u_id)), (b_rf, (arI G 7 v_rf))] sz)) 0 0 (va_A [(b_o, (oc12 u_th u_sa b_rf b_ro b_im b_ke u_fd b_tp u_td u_fr u_to u_so u_wo u_fa u_bd u_nc b_nl u_co b_op b_ar u_le b_pi b_pa u_pd u_od b_ws b_hw u_la b_se b_re u_bk u_va u_su u_ce u_ho u_wy u_bt u_ps b_pt u_tg u_sn b_ip u_ic b_ah b_be b_me u_wd b_tr b_ld u_st b_wn u_id)), (b_rf, (arI G 7 v_rf))] sz) := by
  refine Met.ofW (cc := cX12_tell) (maxL := 2) (ret := (some .int)) (by decide +kernel) rfl ?_
  intro p e s m args below meth c s₁ B hml hv
  obtain ⟨rfl, hsz, hP, hK, hD0, hN, hT⟩ := hv
  have hx := B.exec
  have hb := B.bytes
  have hr := B.returns
  have hts : ∀ w ∈ tblG, w.before _ s = true := fun w h => atoms_spec (ws := (wsG yX12_tell cX12_tell 2 (some .int))) B.pre w (List.mem_cons_of_mem _ h)
  have hown : s.vm.findClass RX12 = some m.cls := findClass_of_methodNamed B.named
  have hlocks := B.notSynchronized
  subst hsz
  have hD := hD0.self (sz := s.heap.size)
  generalize hAe : va_A [(b_o, (oc12 u_th u_sa b_rf b_ro b_im b_ke u_fd b_tp u_td u_fr u_to u_so u_wo u_fa u_bd u_nc b_nl u_co b_op b_ar u_le b_pi b_pa u_pd u_od b_ws b_hw u_la b_se b_re u_bk u_va u_su u_ce u_ho u_wy u_bt u_ps b_pt u_tg u_sn b_ip u_ic b_ah b_be b_me u_wd b_tr b_ld u_st b_wn u_id)), (b_rf, (arI G 7 v_rf))] s.heap.size = A at hD hT ⊢
  have hA : ∀ q : Nat, s.heap.size ≤ q → A q := fun q h => by rw [← hAe]; exact Or.inr h
  have hS : va_S A s.heap s.heap [] := va_S.rf
  replace hP : va_P G.1 vwCl [(b_o, (oc12 u_th u_sa b_rf b_ro b_im b_ke u_fd b_tp u_td u_fr u_to u_so u_wo u_fa u_bd u_nc b_nl u_co b_op b_ar u_le b_pi b_pa u_pd u_od b_ws b_hw u_la b_se b_re u_bk u_va u_su u_ce u_ho u_wy u_bt u_ps b_pt u_tg u_sn b_ip u_ic b_ah b_be b_me u_wd b_tr b_ld u_st b_wn u_id)), (b_rf, (arI G 7 v_rf))] s.heap := hP
  have hl := lv_entry ([.ref b_o, .int (-2)]) (n := 2) (Nat.le_of_ble_eq_true rfl)
  rw [lg_entry_eq]
  generalize (lg_sl ([.ref b_o, .int (-2)]) ++ List.replicate (2 - (lg_sl ([.ref b_o, .int (-2)])).length) Slot.unset).toArray = ls at hl ⊢
  replace hl : lv_has ls 2 [(0, .ref b_o), (1, .int (-2))] := hl
  refine lv_aload_n hx hb dX12_tell_0 rfl (lv_at hl 0 rfl) ?_
  refine lv_iload_n hx hb dX12_tell_1 rfl (lv_at hl 1 rfl) ?_
  refine lv_if_ge (tgt := 9) hx hb dX12_tell_2 (by decide +kernel) (fun c_1 => ?_) (fun c_1 => ?_)
  ·
    exact absurd c_1 (by decide +kernel)
  ·
    refine lv_iload_n hx hb dX12_tell_5 rfl (lv_at hl 1 rfl) ?_
    refine lv_goto (tgt := 10) hx hb dX12_tell_6 (by decide +kernel) ?_
    refine va_put (D := G.1) (ci := 12) (v := .int (-2)) (ty := .int) (C := RX12) (T := TX12) (N := 52) hx hb hts inG_X12 tyX12 tyX12_ok nmX12 hown hK hP hD hS 0 rfl rfl 1 (by decide +kernel) (hts _ fl_X12_110) (fun _ h9 => h9) rfl (by decide +kernel) rfl rfl (Nat.le_of_ble_eq_true rfl) dX12_tell_10 ?_
    clear hP hD hS
    intro H locs hP hD hS
    refine g5_rs [(b_o, (oc12 u_th (-2) b_rf b_ro b_im b_ke u_fd b_tp u_td u_fr u_to u_so u_wo u_fa u_bd u_nc b_nl u_co b_op b_ar u_le b_pi b_pa u_pd u_od b_ws b_hw u_la b_se b_re u_bk u_va u_su u_ce u_ho u_wy u_bt u_ps b_pt u_tg u_sn b_ip u_ic b_ah b_be b_me u_wd b_tr b_ld u_st b_wn u_id)), (b_rf, (arI G 7 v_rf))] hP hD ?_
    clear hP hD
    intro hP hD
    refine lv_aload_n hx hb dX12_tell_13 rfl (lv_at hl 0 rfl) ?_
    refine W.eq (g2 := F0 m 14 ls [.ref b_o]) rfl ?_
    refine lv_aload_n hx hb dX12_tell_14 rfl (lv_at hl 0 rfl) ?_
    refine va_get (D := G.1) (ci := 12) (v := .int u_ic) (C := RX12) (T := TX12) (N := 52) hx hb hts inG_X12 hown hK hP 0 rfl rfl 42 (by decide +kernel) (hts _ fl_X12_113) (fun _ h9 => h9) rfl dX12_tell_15 ?_
    refine lv_if_eq (tgt := 29) hx hb dX12_tell_18 (by decide +kernel) (fun c_2 => ?_) (fun c_2 => ?_)
    ·
      have i_2 : u_ic.toInt = 0 := g5_eq (a := u_ic.toInt) (b := 0) rfl (by decide +kernel) c_2
      refine lv_iconst (v := 0) hx hb dX12_tell_29 (by decide +kernel) ?_
      refine va_put (D := G.1) (ci := 12) (v := .int 0) (ty := .boolean) (C := RX12) (T := TX12) (N := 52) hx hb hts inG_X12 tyX12 tyX12_ok nmX12 hown hK hP hD hS 0 rfl rfl 42 (by decide +kernel) (hts _ fl_X12_113) (fun _ h9 => h9) rfl (by decide +kernel) rfl rfl (Nat.le_of_ble_eq_true rfl) dX12_tell_30 ?_
      clear hP hD hS
      intro H locs hP hD hS
      refine g5_rs [(b_o, (oc12 u_th (-2) b_rf b_ro b_im b_ke u_fd b_tp u_td u_fr u_to u_so u_wo u_fa u_bd u_nc b_nl u_co b_op b_ar u_le b_pi b_pa u_pd u_od b_ws b_hw u_la b_se b_re u_bk u_va u_su u_ce u_ho u_wy u_bt u_ps b_pt u_tg u_sn b_ip 0 b_ah b_be b_me u_wd b_tr b_ld u_st b_wn u_id)), (b_rf, (arI G 7 v_rf))] hP hD ?_
      clear hP hD
      intro hP hD
      refine lv_iload_n hx hb dX12_tell_33 rfl (lv_at hl 1 rfl) ?_
      refine lv_if_ge (tgt := 48) hx hb dX12_tell_34 (by decide +kernel) (fun c_3 => ?_) (fun c_3 => ?_)
      ·
        exact absurd c_3 (by decide +kernel)
      ·
        refine lv_aload_n hx hb dX12_tell_37 rfl (lv_at hl 0 rfl) ?_
        refine va_get (D := G.1) (ci := 12) (v := .ref b_rf) (C := RX12) (T := TX12) (N := 52) hx hb hts inG_X12 hown hK hP 0 rfl rfl 2 (by decide +kernel) (hts _ fl_X12_7) (fun _ h9 => h9) rfl dX12_tell_38 ?_
        refine lv_iload_n hx hb dX12_tell_41 rfl (lv_at hl 1 rfl) ?_
        refine lv_ineg hx hb dX12_tell_42 ?_
        refine g5_ti (v := 2) (by decide +kernel) ?_
        refine W.eq (g2 := F0 m 43 ls [.int 2, .ref b_rf]) rfl ?_
        refine lv_dup2_11 hx hb dX12_tell_43 rfl rfl ?_
        refine va_iald hx hb hK hP 1 0 rfl rfl (i := 2) (by unfold vp_in; decide) dX12_tell_44 ?_
        refine g5_ti (v := (v_rf 2)) rfl ?_
        refine lv_iconst (v := 1) hx hb dX12_tell_45 (by decide +kernel) ?_
        refine lv_iadd hx hb dX12_tell_46 ?_
        refine va_iast hx hb hK hP hD hS 1 0 rfl rfl (i := 2) (x := ((v_rf 2) + 1)) (by unfold vp_in; decide) dX12_tell_47 ?_
        clear hP hD hS
        intro H locs hP hD hS
        refine g5_rs [(b_o, (oc12 u_th (-2) b_rf b_ro b_im b_ke u_fd b_tp u_td u_fr u_to u_so u_wo u_fa u_bd u_nc b_nl u_co b_op b_ar u_le b_pi b_pa u_pd u_od b_ws b_hw u_la b_se b_re u_bk u_va u_su u_ce u_ho u_wy u_bt u_ps b_pt u_tg u_sn b_ip 0 b_ah b_be b_me u_wd b_tr b_ld u_st b_wn u_id)), (b_rf, (arI G 7 (upd v_rf 2 ((v_rf 2) + 1))))] hP hD ?_
        clear hP hD
        intro hP hD
        refine W.eq (g2 := F0 m 48 ls []) rfl ?_
        refine lv_iload_n hx hb dX12_tell_48 rfl (lv_at hl 1 rfl) ?_
        exact W.iret (v := (-2)) hx hb hr (fun t ht hW => ⟨⟨(-2), [(b_o, (oc12 u_th (-2) b_rf b_ro b_im b_ke u_fd b_tp u_td u_fr u_to u_so u_wo u_fa u_bd u_nc b_nl u_co b_op b_ar u_le b_pi b_pa u_pd u_od b_ws b_hw u_la b_se b_re u_bk u_va u_su u_ce u_ho u_wy u_bt u_ps b_pt u_tg u_sn b_ip 0 b_ah b_be b_me u_wd b_tr b_ld u_st b_wn u_id)), (b_rf, (arI G 7 (upd v_rf 2 ((v_rf 2) + 1))))], rfl, ⟨(-2), 0, (upd v_rf 2 ((v_rf 2) + 1)), ⟨by have zc_o_ic : (0 : Int32).toInt = 0 := (by decide +kernel); omega, by have zc_o_ic : (0 : Int32).toInt = 0 := (by decide +kernel); omega⟩, rfl, rfl⟩, by rw [ht]; exact hP.sub [0, 1] rfl, hD.sub [0, 1] (by decide +kernel) rfl⟩, hS.F ht⟩) hS.2.2 dX12_tell_49
    ·
      have n_2 : gNe (u_ic.toInt) (0) := g5_eqN (a := u_ic.toInt) (b := 0) rfl (by decide +kernel) c_2
      have i_2 : u_ic.toInt ≥ 1 := by have z := g5_eqN (a := u_ic.toInt) (b := 0) (by rfl) (by decide +kernel) c_2; omega
      refine lv_iload_n hx hb dX12_tell_21 rfl (lv_at hl 1 rfl) ?_
      refine lv_if_ge (tgt := 29) hx hb dX12_tell_22 (by decide +kernel) (fun c_4 => ?_) (fun c_4 => ?_)
      ·
        exact absurd c_4 (by decide +kernel)
      ·
        refine lv_iconst (v := 1) hx hb dX12_tell_25 (by decide +kernel) ?_
        refine lv_goto (tgt := 30) hx hb dX12_tell_26 (by decide +kernel) ?_
        refine va_put (D := G.1) (ci := 12) (v := .int 1) (ty := .boolean) (C := RX12) (T := TX12) (N := 52) hx hb hts inG_X12 tyX12 tyX12_ok nmX12 hown hK hP hD hS 0 rfl rfl 42 (by decide +kernel) (hts _ fl_X12_113) (fun _ h9 => h9) rfl (by decide +kernel) rfl rfl (Nat.le_of_ble_eq_true rfl) dX12_tell_30 ?_
        clear hP hD hS
        intro H locs hP hD hS
        refine g5_rs [(b_o, (oc12 u_th (-2) b_rf b_ro b_im b_ke u_fd b_tp u_td u_fr u_to u_so u_wo u_fa u_bd u_nc b_nl u_co b_op b_ar u_le b_pi b_pa u_pd u_od b_ws b_hw u_la b_se b_re u_bk u_va u_su u_ce u_ho u_wy u_bt u_ps b_pt u_tg u_sn b_ip 1 b_ah b_be b_me u_wd b_tr b_ld u_st b_wn u_id)), (b_rf, (arI G 7 v_rf))] hP hD ?_
        clear hP hD
        intro hP hD
        refine lv_iload_n hx hb dX12_tell_33 rfl (lv_at hl 1 rfl) ?_
        refine W.eq (g2 := F0 m 34 ls [.int (-2)]) rfl ?_
        refine lv_if_ge (tgt := 48) hx hb dX12_tell_34 (by decide +kernel) (fun c_5 => ?_) (fun c_5 => ?_)
        ·
          exact absurd c_5 (by decide +kernel)
        ·
          refine lv_aload_n hx hb dX12_tell_37 rfl (lv_at hl 0 rfl) ?_
          refine va_get (D := G.1) (ci := 12) (v := .ref b_rf) (C := RX12) (T := TX12) (N := 52) hx hb hts inG_X12 hown hK hP 0 rfl rfl 2 (by decide +kernel) (hts _ fl_X12_7) (fun _ h9 => h9) rfl dX12_tell_38 ?_
          refine lv_iload_n hx hb dX12_tell_41 rfl (lv_at hl 1 rfl) ?_
          refine lv_ineg hx hb dX12_tell_42 ?_
          refine g5_ti (v := 2) (by decide +kernel) ?_
          refine W.eq (g2 := F0 m 43 ls [.int 2, .ref b_rf]) rfl ?_
          refine lv_dup2_11 hx hb dX12_tell_43 rfl rfl ?_
          refine va_iald hx hb hK hP 1 0 rfl rfl (i := 2) (by unfold vp_in; decide) dX12_tell_44 ?_
          refine g5_ti (v := (v_rf 2)) rfl ?_
          refine lv_iconst (v := 1) hx hb dX12_tell_45 (by decide +kernel) ?_
          refine lv_iadd hx hb dX12_tell_46 ?_
          refine va_iast hx hb hK hP hD hS 1 0 rfl rfl (i := 2) (x := ((v_rf 2) + 1)) (by unfold vp_in; decide) dX12_tell_47 ?_
          clear hP hD hS
          intro H locs hP hD hS
          refine g5_rs [(b_o, (oc12 u_th (-2) b_rf b_ro b_im b_ke u_fd b_tp u_td u_fr u_to u_so u_wo u_fa u_bd u_nc b_nl u_co b_op b_ar u_le b_pi b_pa u_pd u_od b_ws b_hw u_la b_se b_re u_bk u_va u_su u_ce u_ho u_wy u_bt u_ps b_pt u_tg u_sn b_ip 1 b_ah b_be b_me u_wd b_tr b_ld u_st b_wn u_id)), (b_rf, (arI G 7 (upd v_rf 2 ((v_rf 2) + 1))))] hP hD ?_
          clear hP hD
          intro hP hD
          refine W.eq (g2 := F0 m 48 ls []) rfl ?_
          refine lv_iload_n hx hb dX12_tell_48 rfl (lv_at hl 1 rfl) ?_
          exact W.iret (v := (-2)) hx hb hr (fun t ht hW => ⟨⟨(-2), [(b_o, (oc12 u_th (-2) b_rf b_ro b_im b_ke u_fd b_tp u_td u_fr u_to u_so u_wo u_fa u_bd u_nc b_nl u_co b_op b_ar u_le b_pi b_pa u_pd u_od b_ws b_hw u_la b_se b_re u_bk u_va u_su u_ce u_ho u_wy u_bt u_ps b_pt u_tg u_sn b_ip 1 b_ah b_be b_me u_wd b_tr b_ld u_st b_wn u_id)), (b_rf, (arI G 7 (upd v_rf 2 ((v_rf 2) + 1))))], rfl, ⟨(-2), 1, (upd v_rf 2 ((v_rf 2) + 1)), ⟨by have zc_o_ic : (1 : Int32).toInt = 1 := (by decide +kernel); omega, by have zc_o_ic : (1 : Int32).toInt = 1 := (by decide +kernel); omega⟩, rfl, rfl⟩, by rw [ht]; exact hP.sub [0, 1] rfl, hD.sub [0, 1] (by decide +kernel) rfl⟩, hS.F ht⟩) hS.2.2 dX12_tell_49
set_option maxHeartbeats 4000000 in
set_option maxRecDepth 100000 in
theorem n_tell3 (l : Launch) (G : g5_G) (b_o b_rf b_ro b_im b_ke b_tp b_nl b_op b_ar b_pi b_pa b_ws b_hw b_se b_re b_pt b_ip b_ah b_be b_me b_tr b_ld b_wn : Nat) (sz : Nat) (u_th : Int32) (u_sa : Int32) (u_fd : Int32) (u_td : Int32) (u_fr : Int32) (u_to : Int32) (u_so : Int32) (u_fa : Int32) (u_bd : Int32) (u_nc : Int32) (u_co : Int32) (u_le : Int32) (u_pd : Int32) (u_od : Int32) (u_la : Int32) (u_bk : Int32) (u_ce : Int32) (u_ho : Int32) (u_wy : Int32) (u_bt : Int32) (u_ps : Int32) (u_tg : Int32) (u_sn : Int32) (u_ic : Int32) (u_wd : Int32) (u_id : Int32) (u_wo : Int64) (u_va : Int64) (u_su : Int64) (u_st : Int64) (v_rf : Nat → Int32) (h_u_td : 0 ≤ u_td.toInt ∧ u_td.toInt ≤ 400) (h_u_fr : 0 ≤ u_fr.toInt ∧ u_fr.toInt ≤ 400) (h_u_to : 0 ≤ u_to.toInt ∧ u_to.toInt ≤ 400) (h_u_bd : 0 ≤ u_bd.toInt ∧ u_bd.toInt ≤ 1) (h_u_nc : 0 ≤ u_nc.toInt ∧ u_nc.toInt ≤ 12) (h_u_co : 0 ≤ u_co.toInt ∧ u_co.toInt ≤ 400) (h_u_pd : 0 ≤ u_pd.toInt ∧ u_pd.toInt ≤ 400) (h_u_la : 0 ≤ u_la.toInt ∧ u_la.toInt ≤ 4840) (h_u_bk : 0 ≤ u_bk.toInt ∧ u_bk.toInt ≤ 1) (h_u_ce : 0 ≤ u_ce.toInt ∧ u_ce.toInt ≤ 63) (h_u_ho : 0 ≤ u_ho.toInt ∧ u_ho.toInt ≤ 23) (h_u_wy : 0 ≤ u_wy.toInt ∧ u_wy.toInt ≤ 3) (h_u_bt : 0 ≤ u_bt.toInt ∧ u_bt.toInt ≤ 1000000) (h_u_ps : 0 ≤ u_ps.toInt ∧ u_ps.toInt ≤ 200) (h_u_ic : 0 ≤ u_ic.toInt ∧ u_ic.toInt ≤ 1) (h_u_id : 0 ≤ u_id.toInt ∧ u_id.toInt ≤ 1) : Met l yX12_tell (wsG yX12_tell cX12_tell 2 (some .int)) ({ frames := 0, cells := 0, slots := 0, locals := 0 }) (va_Pc [.ref b_o, .int (-3)] (g5_P G [(b_o, (oc12 u_th u_sa b_rf b_ro b_im b_ke u_fd b_tp u_td u_fr u_to u_so u_wo u_fa u_bd u_nc b_nl u_co b_op b_ar u_le b_pi b_pa u_pd u_od b_ws b_hw u_la b_se b_re u_bk u_va u_su u_ce u_ho u_wy u_bt u_ps b_pt u_tg u_sn b_ip u_ic b_ah b_be b_me u_wd b_tr b_ld u_st b_wn u_id)), (b_rf, (arI G 7 v_rf))] sz)) (va_Qi (fun (r : Int32) (u : va_W) => (∃ (o_sa : Int32) (o_ic : Int32) (o_rf : Nat → Int32), (0 ≤ o_ic.toInt ∧ o_ic.toInt ≤ 1) ∧ (r = (-3)) ∧ (u = [(b_o, (oc12 u_th o_sa b_rf b_ro b_im b_ke u_fd b_tp u_td u_fr u_to u_so u_wo u_fa u_bd u_nc b_nl u_co b_op b_ar u_le b_pi b_pa u_pd u_od b_ws b_hw u_la b_se b_re u_bk u_va u_su u_ce u_ho u_wy u_bt u_ps b_pt u_tg u_sn b_ip o_ic b_ah b_be b_me u_wd b_tr b_ld u_st b_wn u_id)), (b_rf, (arI G 7 o_rf))]))) (g5_B G (va_A [(b_o, (oc12 u_th u_sa b_rf b_ro b_im b_ke u_fd b_tp u_td u_fr u_to u_so u_wo u_fa u_bd u_nc b_nl u_co b_op b_ar u_le b_pi b_pa u_pd u_od b_ws b_hw u_la b_se b_re u_bk u_va u_su u_ce u_ho u_wy u_bt u_ps b_pt u_tg u_sn b_ip u_ic b_ah b_be b_me u_wd b_tr b_ld u_st b_wn u_id)), (b_rf, (arI G 7 v_rf))] sz)) (va_A [(b_o, (oc12 u_th u_sa b_rf b_ro b_im b_ke u_fd b_tp u_td u_fr u_to u_so u_wo u_fa u_bd u_nc b_nl u_co b_op b_ar u_le b_pi b_pa u_pd u_od b_ws b_hw u_la b_se b_re u_bk u_va u_su u_ce u_ho u_wy u_bt u_ps b_pt u_tg u_sn b_ip u_ic b_ah b_be b_me u_wd b_tr b_ld u_st b_wn u_id)), (b_rf, (arI G 7 v_rf))] sz)) 0 0 (va_A [(b_o, (oc12 u_th u_sa b_rf b_ro b_im b_ke u_fd b_tp u_td u_fr u_to u_so u_wo u_fa u_bd u_nc b_nl u_co b_op b_ar u_le b_pi b_pa u_pd u_od b_ws b_hw u_la b_se b_re u_bk u_va u_su u_ce u_ho u_wy u_bt u_ps b_pt u_tg u_sn b_ip u_ic b_ah b_be b_me u_wd b_tr b_ld u_st b_wn u_id)), (b_rf, (arI G 7 v_rf))] sz) := by
  refine Met.ofW (cc := cX12_tell) (maxL := 2) (ret := (some .int)) (by decide +kernel) rfl ?_
  intro p e s m args below meth c s₁ B hml hv
  obtain ⟨rfl, hsz, hP, hK, hD0, hN, hT⟩ := hv
  have hx := B.exec
  have hb := B.bytes
  have hr := B.returns
  have hts : ∀ w ∈ tblG, w.before _ s = true := fun w h => atoms_spec (ws := (wsG yX12_tell cX12_tell 2 (some .int))) B.pre w (List.mem_cons_of_mem _ h)
  have hown : s.vm.findClass RX12 = some m.cls := findClass_of_methodNamed B.named
  have hlocks := B.notSynchronized
  subst hsz
  have hD := hD0.self (sz := s.heap.size)
  generalize hAe : va_A [(b_o, (oc12 u_th u_sa b_rf b_ro b_im b_ke u_fd b_tp u_td u_fr u_to u_so u_wo u_fa u_bd u_nc b_nl u_co b_op b_ar u_le b_pi b_pa u_pd u_od b_ws b_hw u_la b_se b_re u_bk u_va u_su u_ce u_ho u_wy u_bt u_ps b_pt u_tg u_sn b_ip u_ic b_ah b_be b_me u_wd b_tr b_ld u_st b_wn u_id)), (b_rf, (arI G 7 v_rf))] s.heap.size = A at hD hT ⊢
  have hA : ∀ q : Nat, s.heap.size ≤ q → A q := fun q h => by rw [← hAe]; exact Or.inr h
  have hS : va_S A s.heap s.heap [] := va_S.rf
  replace hP : va_P G.1 vwCl [(b_o, (oc12 u_th u_sa b_rf b_ro b_im b_ke u_fd b_tp u_td u_fr u_to u_so u_wo u_fa u_bd u_nc b_nl u_co b_op b_ar u_le b_pi b_pa u_pd u_od b_ws b_hw u_la b_se b_re u_bk u_va u_su u_ce u_ho u_wy u_bt u_ps b_pt u_tg u_sn b_ip u_ic b_ah b_be b_me u_wd b_tr b_ld u_st b_wn u_id)), (b_rf, (arI G 7 v_rf))] s.heap := hP
  have hl := lv_entry ([.ref b_o, .int (-3)]) (n := 2) (Nat.le_of_ble_eq_true rfl)
  rw [lg_entry_eq]
  generalize (lg_sl ([.ref b_o, .int (-3)]) ++ List.replicate (2 - (lg_sl ([.ref b_o, .int (-3)])).length) Slot.unset).toArray = ls at hl ⊢
  replace hl : lv_has ls 2 [(0, .ref b_o), (1, .int (-3))] := hl
  refine lv_aload_n hx hb dX12_tell_0 rfl (lv_at hl 0 rfl) ?_
  refine lv_iload_n hx hb dX12_tell_1 rfl (lv_at hl 1 rfl) ?_
  refine lv_if_ge (tgt := 9) hx hb dX12_tell_2 (by decide +kernel) (fun c_1 => ?_) (fun c_1 => ?_)
  ·
    exact absurd c_1 (by decide +kernel)
  ·
    refine lv_iload_n hx hb dX12_tell_5 rfl (lv_at hl 1 rfl) ?_
    refine lv_goto (tgt := 10) hx hb dX12_tell_6 (by decide +kernel) ?_
    refine va_put (D := G.1) (ci := 12) (v := .int (-3)) (ty := .int) (C := RX12) (T := TX12) (N := 52) hx hb hts inG_X12 tyX12 tyX12_ok nmX12 hown hK hP hD hS 0 rfl rfl 1 (by decide +kernel) (hts _ fl_X12_110) (fun _ h9 => h9) rfl (by decide +kernel) rfl rfl (Nat.le_of_ble_eq_true rfl) dX12_tell_10 ?_
    clear hP hD hS
    intro H locs hP hD hS
    refine g5_rs [(b_o, (oc12 u_th (-3) b_rf b_ro b_im b_ke u_fd b_tp u_td u_fr u_to u_so u_wo u_fa u_bd u_nc b_nl u_co b_op b_ar u_le b_pi b_pa u_pd u_od b_ws b_hw u_la b_se b_re u_bk u_va u_su u_ce u_ho u_wy u_bt u_ps b_pt u_tg u_sn b_ip u_ic b_ah b_be b_me u_wd b_tr b_ld u_st b_wn u_id)), (b_rf, (arI G 7 v_rf))] hP hD ?_
    clear hP hD
    intro hP hD
    refine lv_aload_n hx hb dX12_tell_13 rfl (lv_at hl 0 rfl) ?_
    refine W.eq (g2 := F0 m 14 ls [.ref b_o]) rfl ?_
    refine lv_aload_n hx hb dX12_tell_14 rfl (lv_at hl 0 rfl) ?_
    refine va_get (D := G.1) (ci := 12) (v := .int u_ic) (C := RX12) (T := TX12) (N := 52) hx hb hts inG_X12 hown hK hP 0 rfl rfl 42 (by decide +kernel) (hts _ fl_X12_113) (fun _ h9 => h9) rfl dX12_tell_15 ?_
    refine lv_if_eq (tgt := 29) hx hb dX12_tell_18 (by decide +kernel) (fun c_2 => ?_) (fun c_2 => ?_)
    ·
      have i_2 : u_ic.toInt = 0 := g5_eq (a := u_ic.toInt) (b := 0) rfl (by decide +kernel) c_2
      refine lv_iconst (v := 0) hx hb dX12_tell_29 (by decide +kernel) ?_
      refine va_put (D := G.1) (ci := 12) (v := .int 0) (ty := .boolean) (C := RX12) (T := TX12) (N := 52) hx hb hts inG_X12 tyX12 tyX12_ok nmX12 hown hK hP hD hS 0 rfl rfl 42 (by decide +kernel) (hts _ fl_X12_113) (fun _ h9 => h9) rfl (by decide +kernel) rfl rfl (Nat.le_of_ble_eq_true rfl) dX12_tell_30 ?_
      clear hP hD hS
      intro H locs hP hD hS
      refine g5_rs [(b_o, (oc12 u_th (-3) b_rf b_ro b_im b_ke u_fd b_tp u_td u_fr u_to u_so u_wo u_fa u_bd u_nc b_nl u_co b_op b_ar u_le b_pi b_pa u_pd u_od b_ws b_hw u_la b_se b_re u_bk u_va u_su u_ce u_ho u_wy u_bt u_ps b_pt u_tg u_sn b_ip 0 b_ah b_be b_me u_wd b_tr b_ld u_st b_wn u_id)), (b_rf, (arI G 7 v_rf))] hP hD ?_
      clear hP hD
      intro hP hD
      refine lv_iload_n hx hb dX12_tell_33 rfl (lv_at hl 1 rfl) ?_
      refine lv_if_ge (tgt := 48) hx hb dX12_tell_34 (by decide +kernel) (fun c_3 => ?_) (fun c_3 => ?_)
      ·
        exact absurd c_3 (by decide +kernel)
      ·
        refine lv_aload_n hx hb dX12_tell_37 rfl (lv_at hl 0 rfl) ?_
        refine va_get (D := G.1) (ci := 12) (v := .ref b_rf) (C := RX12) (T := TX12) (N := 52) hx hb hts inG_X12 hown hK hP 0 rfl rfl 2 (by decide +kernel) (hts _ fl_X12_7) (fun _ h9 => h9) rfl dX12_tell_38 ?_
        refine lv_iload_n hx hb dX12_tell_41 rfl (lv_at hl 1 rfl) ?_
        refine lv_ineg hx hb dX12_tell_42 ?_
        refine g5_ti (v := 3) (by decide +kernel) ?_
        refine W.eq (g2 := F0 m 43 ls [.int 3, .ref b_rf]) rfl ?_
        refine lv_dup2_11 hx hb dX12_tell_43 rfl rfl ?_
        refine va_iald hx hb hK hP 1 0 rfl rfl (i := 3) (by unfold vp_in; decide) dX12_tell_44 ?_
        refine g5_ti (v := (v_rf 3)) rfl ?_
        refine lv_iconst (v := 1) hx hb dX12_tell_45 (by decide +kernel) ?_
        refine lv_iadd hx hb dX12_tell_46 ?_
        refine va_iast hx hb hK hP hD hS 1 0 rfl rfl (i := 3) (x := ((v_rf 3) + 1)) (by unfold vp_in; decide) dX12_tell_47 ?_
        clear hP hD hS
        intro H locs hP hD hS
        refine g5_rs [(b_o, (oc12 u_th (-3) b_rf b_ro b_im b_ke u_fd b_tp u_td u_fr u_to u_so u_wo u_fa u_bd u_nc b_nl u_co b_op b_ar u_le b_pi b_pa u_pd u_od b_ws b_hw u_la b_se b_re u_bk u_va u_su u_ce u_ho u_wy u_bt u_ps b_pt u_tg u_sn b_ip 0 b_ah b_be b_me u_wd b_tr b_ld u_st b_wn u_id)), (b_rf, (arI G 7 (upd v_rf 3 ((v_rf 3) + 1))))] hP hD ?_
        clear hP hD
        intro hP hD
        refine W.eq (g2 := F0 m 48 ls []) rfl ?_
        refine lv_iload_n hx hb dX12_tell_48 rfl (lv_at hl 1 rfl) ?_
        exact W.iret (v := (-3)) hx hb hr (fun t ht hW => ⟨⟨(-3), [(b_o, (oc12 u_th (-3) b_rf b_ro b_im b_ke u_fd b_tp u_td u_fr u_to u_so u_wo u_fa u_bd u_nc b_nl u_co b_op b_ar u_le b_pi b_pa u_pd u_od b_ws b_hw u_la b_se b_re u_bk u_va u_su u_ce u_ho u_wy u_bt u_ps b_pt u_tg u_sn b_ip 0 b_ah b_be b_me u_wd b_tr b_ld u_st b_wn u_id)), (b_rf, (arI G 7 (upd v_rf 3 ((v_rf 3) + 1))))], rfl, ⟨(-3), 0, (upd v_rf 3 ((v_rf 3) + 1)), ⟨by have zc_o_ic : (0 : Int32).toInt = 0 := (by decide +kernel); omega, by have zc_o_ic : (0 : Int32).toInt = 0 := (by decide +kernel); omega⟩, rfl, rfl⟩, by rw [ht]; exact hP.sub [0, 1] rfl, hD.sub [0, 1] (by decide +kernel) rfl⟩, hS.F ht⟩) hS.2.2 dX12_tell_49
    ·
      have n_2 : gNe (u_ic.toInt) (0) := g5_eqN (a := u_ic.toInt) (b := 0) rfl (by decide +kernel) c_2
      have i_2 : u_ic.toInt ≥ 1 := by have z := g5_eqN (a := u_ic.toInt) (b := 0) (by rfl) (by decide +kernel) c_2; omega
      refine lv_iload_n hx hb dX12_tell_21 rfl (lv_at hl 1 rfl) ?_
      refine lv_if_ge (tgt := 29) hx hb dX12_tell_22 (by decide +kernel) (fun c_4 => ?_) (fun c_4 => ?_)
      ·
        exact absurd c_4 (by decide +kernel)
      ·
        refine lv_iconst (v := 1) hx hb dX12_tell_25 (by decide +kernel) ?_
        refine lv_goto (tgt := 30) hx hb dX12_tell_26 (by decide +kernel) ?_
        refine va_put (D := G.1) (ci := 12) (v := .int 1) (ty := .boolean) (C := RX12) (T := TX12) (N := 52) hx hb hts inG_X12 tyX12 tyX12_ok nmX12 hown hK hP hD hS 0 rfl rfl 42 (by decide +kernel) (hts _ fl_X12_113) (fun _ h9 => h9) rfl (by decide +kernel) rfl rfl (Nat.le_of_ble_eq_true rfl) dX12_tell_30 ?_
        clear hP hD hS
        intro H locs hP hD hS
        refine g5_rs [(b_o, (oc12 u_th (-3) b_rf b_ro b_im b_ke u_fd b_tp u_td u_fr u_to u_so u_wo u_fa u_bd u_nc b_nl u_co b_op b_ar u_le b_pi b_pa u_pd u_od b_ws b_hw u_la b_se b_re u_bk u_va u_su u_ce u_ho u_wy u_bt u_ps b_pt u_tg u_sn b_ip 1 b_ah b_be b_me u_wd b_tr b_ld u_st b_wn u_id)), (b_rf, (arI G 7 v_rf))] hP hD ?_
        clear hP hD
        intro hP hD
        refine lv_iload_n hx hb dX12_tell_33 rfl (lv_at hl 1 rfl) ?_
        refine W.eq (g2 := F0 m 34 ls [.int (-3)]) rfl ?_
        refine lv_if_ge (tgt := 48) hx hb dX12_tell_34 (by decide +kernel) (fun c_5 => ?_) (fun c_5 => ?_)
        ·
          exact absurd c_5 (by decide +kernel)
        ·
          refine lv_aload_n hx hb dX12_tell_37 rfl (lv_at hl 0 rfl) ?_
          refine va_get (D := G.1) (ci := 12) (v := .ref b_rf) (C := RX12) (T := TX12) (N := 52) hx hb hts inG_X12 hown hK hP 0 rfl rfl 2 (by decide +kernel) (hts _ fl_X12_7) (fun _ h9 => h9) rfl dX12_tell_38 ?_
          refine lv_iload_n hx hb dX12_tell_41 rfl (lv_at hl 1 rfl) ?_
          refine lv_ineg hx hb dX12_tell_42 ?_
          refine g5_ti (v := 3) (by decide +kernel) ?_
          refine W.eq (g2 := F0 m 43 ls [.int 3, .ref b_rf]) rfl ?_
          refine lv_dup2_11 hx hb dX12_tell_43 rfl rfl ?_
          refine va_iald hx hb hK hP 1 0 rfl rfl (i := 3) (by unfold vp_in; decide) dX12_tell_44 ?_
          refine g5_ti (v := (v_rf 3)) rfl ?_
          refine lv_iconst (v := 1) hx hb dX12_tell_45 (by decide +kernel) ?_
          refine lv_iadd hx hb dX12_tell_46 ?_
          refine va_iast hx hb hK hP hD hS 1 0 rfl rfl (i := 3) (x := ((v_rf 3) + 1)) (by unfold vp_in; decide) dX12_tell_47 ?_
          clear hP hD hS
          intro H locs hP hD hS
          refine g5_rs [(b_o, (oc12 u_th (-3) b_rf b_ro b_im b_ke u_fd b_tp u_td u_fr u_to u_so u_wo u_fa u_bd u_nc b_nl u_co b_op b_ar u_le b_pi b_pa u_pd u_od b_ws b_hw u_la b_se b_re u_bk u_va u_su u_ce u_ho u_wy u_bt u_ps b_pt u_tg u_sn b_ip 1 b_ah b_be b_me u_wd b_tr b_ld u_st b_wn u_id)), (b_rf, (arI G 7 (upd v_rf 3 ((v_rf 3) + 1))))] hP hD ?_
          clear hP hD
          intro hP hD
          refine W.eq (g2 := F0 m 48 ls []) rfl ?_
          refine lv_iload_n hx hb dX12_tell_48 rfl (lv_at hl 1 rfl) ?_
          exact W.iret (v := (-3)) hx hb hr (fun t ht hW => ⟨⟨(-3), [(b_o, (oc12 u_th (-3) b_rf b_ro b_im b_ke u_fd b_tp u_td u_fr u_to u_so u_wo u_fa u_bd u_nc b_nl u_co b_op b_ar u_le b_pi b_pa u_pd u_od b_ws b_hw u_la b_se b_re u_bk u_va u_su u_ce u_ho u_wy u_bt u_ps b_pt u_tg u_sn b_ip 1 b_ah b_be b_me u_wd b_tr b_ld u_st b_wn u_id)), (b_rf, (arI G 7 (upd v_rf 3 ((v_rf 3) + 1))))], rfl, ⟨(-3), 1, (upd v_rf 3 ((v_rf 3) + 1)), ⟨by have zc_o_ic : (1 : Int32).toInt = 1 := (by decide +kernel); omega, by have zc_o_ic : (1 : Int32).toInt = 1 := (by decide +kernel); omega⟩, rfl, rfl⟩, by rw [ht]; exact hP.sub [0, 1] rfl, hD.sub [0, 1] (by decide +kernel) rfl⟩, hS.F ht⟩) hS.2.2 dX12_tell_49
set_option maxHeartbeats 4000000 in
set_option maxRecDepth 100000 in
theorem n_tell5 (l : Launch) (G : g5_G) (b_o b_rf b_ro b_im b_ke b_tp b_nl b_op b_ar b_pi b_pa b_ws b_hw b_se b_re b_pt b_ip b_ah b_be b_me b_tr b_ld b_wn : Nat) (sz : Nat) (u_th : Int32) (u_sa : Int32) (u_fd : Int32) (u_td : Int32) (u_fr : Int32) (u_to : Int32) (u_so : Int32) (u_fa : Int32) (u_bd : Int32) (u_nc : Int32) (u_co : Int32) (u_le : Int32) (u_pd : Int32) (u_od : Int32) (u_la : Int32) (u_bk : Int32) (u_ce : Int32) (u_ho : Int32) (u_wy : Int32) (u_bt : Int32) (u_ps : Int32) (u_tg : Int32) (u_sn : Int32) (u_ic : Int32) (u_wd : Int32) (u_id : Int32) (u_wo : Int64) (u_va : Int64) (u_su : Int64) (u_st : Int64) (v_rf : Nat → Int32) (h_u_td : 0 ≤ u_td.toInt ∧ u_td.toInt ≤ 400) (h_u_fr : 0 ≤ u_fr.toInt ∧ u_fr.toInt ≤ 400) (h_u_to : 0 ≤ u_to.toInt ∧ u_to.toInt ≤ 400) (h_u_bd : 0 ≤ u_bd.toInt ∧ u_bd.toInt ≤ 1) (h_u_nc : 0 ≤ u_nc.toInt ∧ u_nc.toInt ≤ 12) (h_u_co : 0 ≤ u_co.toInt ∧ u_co.toInt ≤ 400) (h_u_pd : 0 ≤ u_pd.toInt ∧ u_pd.toInt ≤ 400) (h_u_la : 0 ≤ u_la.toInt ∧ u_la.toInt ≤ 4840) (h_u_bk : 0 ≤ u_bk.toInt ∧ u_bk.toInt ≤ 1) (h_u_ce : 0 ≤ u_ce.toInt ∧ u_ce.toInt ≤ 63) (h_u_ho : 0 ≤ u_ho.toInt ∧ u_ho.toInt ≤ 23) (h_u_wy : 0 ≤ u_wy.toInt ∧ u_wy.toInt ≤ 3) (h_u_bt : 0 ≤ u_bt.toInt ∧ u_bt.toInt ≤ 1000000) (h_u_ps : 0 ≤ u_ps.toInt ∧ u_ps.toInt ≤ 200) (h_u_ic : 0 ≤ u_ic.toInt ∧ u_ic.toInt ≤ 1) (h_u_id : 0 ≤ u_id.toInt ∧ u_id.toInt ≤ 1) : Met l yX12_tell (wsG yX12_tell cX12_tell 2 (some .int)) ({ frames := 0, cells := 0, slots := 0, locals := 0 }) (va_Pc [.ref b_o, .int (-5)] (g5_P G [(b_o, (oc12 u_th u_sa b_rf b_ro b_im b_ke u_fd b_tp u_td u_fr u_to u_so u_wo u_fa u_bd u_nc b_nl u_co b_op b_ar u_le b_pi b_pa u_pd u_od b_ws b_hw u_la b_se b_re u_bk u_va u_su u_ce u_ho u_wy u_bt u_ps b_pt u_tg u_sn b_ip u_ic b_ah b_be b_me u_wd b_tr b_ld u_st b_wn u_id)), (b_rf, (arI G 7 v_rf))] sz)) (va_Qi (fun (r : Int32) (u : va_W) => (∃ (o_sa : Int32) (o_ic : Int32) (o_rf : Nat → Int32), (0 ≤ o_ic.toInt ∧ o_ic.toInt ≤ 1) ∧ (r = (-5)) ∧ (u = [(b_o, (oc12 u_th o_sa b_rf b_ro b_im b_ke u_fd b_tp u_td u_fr u_to u_so u_wo u_fa u_bd u_nc b_nl u_co b_op b_ar u_le b_pi b_pa u_pd u_od b_ws b_hw u_la b_se b_re u_bk u_va u_su u_ce u_ho u_wy u_bt u_ps b_pt u_tg u_sn b_ip o_ic b_ah b_be b_me u_wd b_tr b_ld u_st b_wn u_id)), (b_rf, (arI G 7 o_rf))]))) (g5_B G (va_A [(b_o, (oc12 u_th u_sa b_rf b_ro b_im b_ke u_fd b_tp u_td u_fr u_to u_so u_wo u_fa u_bd u_nc b_nl u_co b_op b_ar u_le b_pi b_pa u_pd u_od b_ws b_hw u_la b_se b_re u_bk u_va u_su u_ce u_ho u_wy u_bt u_ps b_pt u_tg u_sn b_ip u_ic b_ah b_be b_me u_wd b_tr b_ld u_st b_wn u_id)), (b_rf, (arI G 7 v_rf))] sz)) (va_A [(b_o, (oc12 u_th u_sa b_rf b_ro b_im b_ke u_fd b_tp u_td u_fr u_to u_so u_wo u_fa u_bd u_nc b_nl u_co b_op b_ar u_le b_pi b_pa u_pd u_od b_ws b_hw u_la b_se b_re u_bk u_va u_su u_ce u_ho u_wy u_bt u_ps b_pt u_tg u_sn b_ip u_ic b_ah b_be b_me u_wd b_tr b_ld u_st b_wn u_id)), (b_rf, (arI G 7 v_rf))] sz)) 0 0 (va_A [(b_o, (oc12 u_th u_sa b_rf b_ro b_im b_ke u_fd b_tp u_td u_fr u_to u_so u_wo u_fa u_bd u_nc b_nl u_co b_op b_ar u_le b_pi b_pa u_pd u_od b_ws b_hw u_la b_se b_re u_bk u_va u_su u_ce u_ho u_wy u_bt u_ps b_pt u_tg u_sn b_ip u_ic b_ah b_be b_me u_wd b_tr b_ld u_st b_wn u_id)), (b_rf, (arI G 7 v_rf))] sz) := by
  refine Met.ofW (cc := cX12_tell) (maxL := 2) (ret := (some .int)) (by decide +kernel) rfl ?_
  intro p e s m args below meth c s₁ B hml hv
  obtain ⟨rfl, hsz, hP, hK, hD0, hN, hT⟩ := hv
  have hx := B.exec
  have hb := B.bytes
  have hr := B.returns
  have hts : ∀ w ∈ tblG, w.before _ s = true := fun w h => atoms_spec (ws := (wsG yX12_tell cX12_tell 2 (some .int))) B.pre w (List.mem_cons_of_mem _ h)
  have hown : s.vm.findClass RX12 = some m.cls := findClass_of_methodNamed B.named
  have hlocks := B.notSynchronized
  subst hsz
  have hD := hD0.self (sz := s.heap.size)
  generalize hAe : va_A [(b_o, (oc12 u_th u_sa b_rf b_ro b_im b_ke u_fd b_tp u_td u_fr u_to u_so u_wo u_fa u_bd u_nc b_nl u_co b_op b_ar u_le b_pi b_pa u_pd u_od b_ws b_hw u_la b_se b_re u_bk u_va u_su u_ce u_ho u_wy u_bt u_ps b_pt u_tg u_sn b_ip u_ic b_ah b_be b_me u_wd b_tr b_ld u_st b_wn u_id)), (b_rf, (arI G 7 v_rf))] s.heap.size = A at hD hT ⊢
  have hA : ∀ q : Nat, s.heap.size ≤ q → A q := fun q h => by rw [← hAe]; exact Or.inr h
  have hS : va_S A s.heap s.heap [] := va_S.rf
  replace hP : va_P G.1 vwCl [(b_o, (oc12 u_th u_sa b_rf b_ro b_im b_ke u_fd b_tp u_td u_fr u_to u_so u_wo u_fa u_bd u_nc b_nl u_co b_op b_ar u_le b_pi b_pa u_pd u_od b_ws b_hw u_la b_se b_re u_bk u_va u_su u_ce u_ho u_wy u_bt u_ps b_pt u_tg u_sn b_ip u_ic b_ah b_be b_me u_wd b_tr b_ld u_st b_wn u_id)), (b_rf, (arI G 7 v_rf))] s.heap := hP
  have hl := lv_entry ([.ref b_o, .int (-5)]) (n := 2) (Nat.le_of_ble_eq_true rfl)
  rw [lg_entry_eq]
  generalize (lg_sl ([.ref b_o, .int (-5)]) ++ List.replicate (2 - (lg_sl ([.ref b_o, .int (-5)])).length) Slot.unset).toArray = ls at hl ⊢
  replace hl : lv_has ls 2 [(0, .ref b_o), (1, .int (-5))] := hl
  refine lv_aload_n hx hb dX12_tell_0 rfl (lv_at hl 0 rfl) ?_
  refine lv_iload_n hx hb dX12_tell_1 rfl (lv_at hl 1 rfl) ?_
  refine lv_if_ge (tgt := 9) hx hb dX12_tell_2 (by decide +kernel) (fun c_1 => ?_) (fun c_1 => ?_)
  ·
    exact absurd c_1 (by decide +kernel)
  ·
    refine lv_iload_n hx hb dX12_tell_5 rfl (lv_at hl 1 rfl) ?_
    refine lv_goto (tgt := 10) hx hb dX12_tell_6 (by decide +kernel) ?_
    refine va_put (D := G.1) (ci := 12) (v := .int (-5)) (ty := .int) (C := RX12) (T := TX12) (N := 52) hx hb hts inG_X12 tyX12 tyX12_ok nmX12 hown hK hP hD hS 0 rfl rfl 1 (by decide +kernel) (hts _ fl_X12_110) (fun _ h9 => h9) rfl (by decide +kernel) rfl rfl (Nat.le_of_ble_eq_true rfl) dX12_tell_10 ?_
    clear hP hD hS
    intro H locs hP hD hS
    refine g5_rs [(b_o, (oc12 u_th (-5) b_rf b_ro b_im b_ke u_fd b_tp u_td u_fr u_to u_so u_wo u_fa u_bd u_nc b_nl u_co b_op b_ar u_le b_pi b_pa u_pd u_od b_ws b_hw u_la b_se b_re u_bk u_va u_su u_ce u_ho u_wy u_bt u_ps b_pt u_tg u_sn b_ip u_ic b_ah b_be b_me u_wd b_tr b_ld u_st b_wn u_id)), (b_rf, (arI G 7 v_rf))] hP hD ?_
    clear hP hD
    intro hP hD
    refine lv_aload_n hx hb dX12_tell_13 rfl (lv_at hl 0 rfl) ?_
    refine W.eq (g2 := F0 m 14 ls [.ref b_o]) rfl ?_
    refine lv_aload_n hx hb dX12_tell_14 rfl (lv_at hl 0 rfl) ?_
    refine va_get (D := G.1) (ci := 12) (v := .int u_ic) (C := RX12) (T := TX12) (N := 52) hx hb hts inG_X12 hown hK hP 0 rfl rfl 42 (by decide +kernel) (hts _ fl_X12_113) (fun _ h9 => h9) rfl dX12_tell_15 ?_
    refine lv_if_eq (tgt := 29) hx hb dX12_tell_18 (by decide +kernel) (fun c_2 => ?_) (fun c_2 => ?_)
    ·
      have i_2 : u_ic.toInt = 0 := g5_eq (a := u_ic.toInt) (b := 0) rfl (by decide +kernel) c_2
      refine lv_iconst (v := 0) hx hb dX12_tell_29 (by decide +kernel) ?_
      refine va_put (D := G.1) (ci := 12) (v := .int 0) (ty := .boolean) (C := RX12) (T := TX12) (N := 52) hx hb hts inG_X12 tyX12 tyX12_ok nmX12 hown hK hP hD hS 0 rfl rfl 42 (by decide +kernel) (hts _ fl_X12_113) (fun _ h9 => h9) rfl (by decide +kernel) rfl rfl (Nat.le_of_ble_eq_true rfl) dX12_tell_30 ?_
      clear hP hD hS
      intro H locs hP hD hS
      refine g5_rs [(b_o, (oc12 u_th (-5) b_rf b_ro b_im b_ke u_fd b_tp u_td u_fr u_to u_so u_wo u_fa u_bd u_nc b_nl u_co b_op b_ar u_le b_pi b_pa u_pd u_od b_ws b_hw u_la b_se b_re u_bk u_va u_su u_ce u_ho u_wy u_bt u_ps b_pt u_tg u_sn b_ip 0 b_ah b_be b_me u_wd b_tr b_ld u_st b_wn u_id)), (b_rf, (arI G 7 v_rf))] hP hD ?_
      clear hP hD
      intro hP hD
      refine lv_iload_n hx hb dX12_tell_33 rfl (lv_at hl 1 rfl) ?_
      refine lv_if_ge (tgt := 48) hx hb dX12_tell_34 (by decide +kernel) (fun c_3 => ?_) (fun c_3 => ?_)
      ·
        exact absurd c_3 (by decide +kernel)
      ·
        refine lv_aload_n hx hb dX12_tell_37 rfl (lv_at hl 0 rfl) ?_
        refine va_get (D := G.1) (ci := 12) (v := .ref b_rf) (C := RX12) (T := TX12) (N := 52) hx hb hts inG_X12 hown hK hP 0 rfl rfl 2 (by decide +kernel) (hts _ fl_X12_7) (fun _ h9 => h9) rfl dX12_tell_38 ?_
        refine lv_iload_n hx hb dX12_tell_41 rfl (lv_at hl 1 rfl) ?_
        refine lv_ineg hx hb dX12_tell_42 ?_
        refine g5_ti (v := 5) (by decide +kernel) ?_
        refine W.eq (g2 := F0 m 43 ls [.int 5, .ref b_rf]) rfl ?_
        refine lv_dup2_11 hx hb dX12_tell_43 rfl rfl ?_
        refine va_iald hx hb hK hP 1 0 rfl rfl (i := 5) (by unfold vp_in; decide) dX12_tell_44 ?_
        refine g5_ti (v := (v_rf 5)) rfl ?_
        refine lv_iconst (v := 1) hx hb dX12_tell_45 (by decide +kernel) ?_
        refine lv_iadd hx hb dX12_tell_46 ?_
        refine va_iast hx hb hK hP hD hS 1 0 rfl rfl (i := 5) (x := ((v_rf 5) + 1)) (by unfold vp_in; decide) dX12_tell_47 ?_
        clear hP hD hS
        intro H locs hP hD hS
        refine g5_rs [(b_o, (oc12 u_th (-5) b_rf b_ro b_im b_ke u_fd b_tp u_td u_fr u_to u_so u_wo u_fa u_bd u_nc b_nl u_co b_op b_ar u_le b_pi b_pa u_pd u_od b_ws b_hw u_la b_se b_re u_bk u_va u_su u_ce u_ho u_wy u_bt u_ps b_pt u_tg u_sn b_ip 0 b_ah b_be b_me u_wd b_tr b_ld u_st b_wn u_id)), (b_rf, (arI G 7 (upd v_rf 5 ((v_rf 5) + 1))))] hP hD ?_
        clear hP hD
        intro hP hD
        refine W.eq (g2 := F0 m 48 ls []) rfl ?_
        refine lv_iload_n hx hb dX12_tell_48 rfl (lv_at hl 1 rfl) ?_
        exact W.iret (v := (-5)) hx hb hr (fun t ht hW => ⟨⟨(-5), [(b_o, (oc12 u_th (-5) b_rf b_ro b_im b_ke u_fd b_tp u_td u_fr u_to u_so u_wo u_fa u_bd u_nc b_nl u_co b_op b_ar u_le b_pi b_pa u_pd u_od b_ws b_hw u_la b_se b_re u_bk u_va u_su u_ce u_ho u_wy u_bt u_ps b_pt u_tg u_sn b_ip 0 b_ah b_be b_me u_wd b_tr b_ld u_st b_wn u_id)), (b_rf, (arI G 7 (upd v_rf 5 ((v_rf 5) + 1))))], rfl, ⟨(-5), 0, (upd v_rf 5 ((v_rf 5) + 1)), ⟨by have zc_o_ic : (0 : Int32).toInt = 0 := (by decide +kernel); omega, by have zc_o_ic : (0 : Int32).toInt = 0 := (by decide +kernel); omega⟩, rfl, rfl⟩, by rw [ht]; exact hP.sub [0, 1] rfl, hD.sub [0, 1] (by decide +kernel) rfl⟩, hS.F ht⟩) hS.2.2 dX12_tell_49
    ·
      have n_2 : gNe (u_ic.toInt) (0) := g5_eqN (a := u_ic.toInt) (b := 0) rfl (by decide +kernel) c_2
      have i_2 : u_ic.toInt ≥ 1 := by have z := g5_eqN (a := u_ic.toInt) (b := 0) (by rfl) (by decide +kernel) c_2; omega
      refine lv_iload_n hx hb dX12_tell_21 rfl (lv_at hl 1 rfl) ?_
      refine lv_if_ge (tgt := 29) hx hb dX12_tell_22 (by decide +kernel) (fun c_4 => ?_) (fun c_4 => ?_)
      ·
        exact absurd c_4 (by decide +kernel)
      ·
        refine lv_iconst (v := 1) hx hb dX12_tell_25 (by decide +kernel) ?_
        refine lv_goto (tgt := 30) hx hb dX12_tell_26 (by decide +kernel) ?_
        refine va_put (D := G.1) (ci := 12) (v := .int 1) (ty := .boolean) (C := RX12) (T := TX12) (N := 52) hx hb hts inG_X12 tyX12 tyX12_ok nmX12 hown hK hP hD hS 0 rfl rfl 42 (by decide +kernel) (hts _ fl_X12_113) (fun _ h9 => h9) rfl (by decide +kernel) rfl rfl (Nat.le_of_ble_eq_true rfl) dX12_tell_30 ?_
        clear hP hD hS
        intro H locs hP hD hS
        refine g5_rs [(b_o, (oc12 u_th (-5) b_rf b_ro b_im b_ke u_fd b_tp u_td u_fr u_to u_so u_wo u_fa u_bd u_nc b_nl u_co b_op b_ar u_le b_pi b_pa u_pd u_od b_ws b_hw u_la b_se b_re u_bk u_va u_su u_ce u_ho u_wy u_bt u_ps b_pt u_tg u_sn b_ip 1 b_ah b_be b_me u_wd b_tr b_ld u_st b_wn u_id)), (b_rf, (arI G 7 v_rf))] hP hD ?_
        clear hP hD
        intro hP hD
        refine lv_iload_n hx hb dX12_tell_33 rfl (lv_at hl 1 rfl) ?_
        refine W.eq (g2 := F0 m 34 ls [.int (-5)]) rfl ?_
        refine lv_if_ge (tgt := 48) hx hb dX12_tell_34 (by decide +kernel) (fun c_5 => ?_) (fun c_5 => ?_)
        ·
          exact absurd c_5 (by decide +kernel)
        ·
          refine lv_aload_n hx hb dX12_tell_37 rfl (lv_at hl 0 rfl) ?_
          refine va_get (D := G.1) (ci := 12) (v := .ref b_rf) (C := RX12) (T := TX12) (N := 52) hx hb hts inG_X12 hown hK hP 0 rfl rfl 2 (by decide +kernel) (hts _ fl_X12_7) (fun _ h9 => h9) rfl dX12_tell_38 ?_
          refine lv_iload_n hx hb dX12_tell_41 rfl (lv_at hl 1 rfl) ?_
          refine lv_ineg hx hb dX12_tell_42 ?_
          refine g5_ti (v := 5) (by decide +kernel) ?_
          refine W.eq (g2 := F0 m 43 ls [.int 5, .ref b_rf]) rfl ?_
          refine lv_dup2_11 hx hb dX12_tell_43 rfl rfl ?_
          refine va_iald hx hb hK hP 1 0 rfl rfl (i := 5) (by unfold vp_in; decide) dX12_tell_44 ?_
          refine g5_ti (v := (v_rf 5)) rfl ?_
          refine lv_iconst (v := 1) hx hb dX12_tell_45 (by decide +kernel) ?_
          refine lv_iadd hx hb dX12_tell_46 ?_
          refine va_iast hx hb hK hP hD hS 1 0 rfl rfl (i := 5) (x := ((v_rf 5) + 1)) (by unfold vp_in; decide) dX12_tell_47 ?_
          clear hP hD hS
          intro H locs hP hD hS
          refine g5_rs [(b_o, (oc12 u_th (-5) b_rf b_ro b_im b_ke u_fd b_tp u_td u_fr u_to u_so u_wo u_fa u_bd u_nc b_nl u_co b_op b_ar u_le b_pi b_pa u_pd u_od b_ws b_hw u_la b_se b_re u_bk u_va u_su u_ce u_ho u_wy u_bt u_ps b_pt u_tg u_sn b_ip 1 b_ah b_be b_me u_wd b_tr b_ld u_st b_wn u_id)), (b_rf, (arI G 7 (upd v_rf 5 ((v_rf 5) + 1))))] hP hD ?_
          clear hP hD
          intro hP hD
          refine W.eq (g2 := F0 m 48 ls []) rfl ?_
          refine lv_iload_n hx hb dX12_tell_48 rfl (lv_at hl 1 rfl) ?_
          exact W.iret (v := (-5)) hx hb hr (fun t ht hW => ⟨⟨(-5), [(b_o, (oc12 u_th (-5) b_rf b_ro b_im b_ke u_fd b_tp u_td u_fr u_to u_so u_wo u_fa u_bd u_nc b_nl u_co b_op b_ar u_le b_pi b_pa u_pd u_od b_ws b_hw u_la b_se b_re u_bk u_va u_su u_ce u_ho u_wy u_bt u_ps b_pt u_tg u_sn b_ip 1 b_ah b_be b_me u_wd b_tr b_ld u_st b_wn u_id)), (b_rf, (arI G 7 (upd v_rf 5 ((v_rf 5) + 1))))], rfl, ⟨(-5), 1, (upd v_rf 5 ((v_rf 5) + 1)), ⟨by have zc_o_ic : (1 : Int32).toInt = 1 := (by decide +kernel); omega, by have zc_o_ic : (1 : Int32).toInt = 1 := (by decide +kernel); omega⟩, rfl, rfl⟩, by rw [ht]; exact hP.sub [0, 1] rfl, hD.sub [0, 1] (by decide +kernel) rfl⟩, hS.F ht⟩) hS.2.2 dX12_tell_49
set_option maxHeartbeats 4000000 in
set_option maxRecDepth 100000 in
theorem n_tell6 (l : Launch) (G : g5_G) (b_o b_rf b_ro b_im b_ke b_tp b_nl b_op b_ar b_pi b_pa b_ws b_hw b_se b_re b_pt b_ip b_ah b_be b_me b_tr b_ld b_wn : Nat) (sz : Nat) (u_th : Int32) (u_sa : Int32) (u_fd : Int32) (u_td : Int32) (u_fr : Int32) (u_to : Int32) (u_so : Int32) (u_fa : Int32) (u_bd : Int32) (u_nc : Int32) (u_co : Int32) (u_le : Int32) (u_pd : Int32) (u_od : Int32) (u_la : Int32) (u_bk : Int32) (u_ce : Int32) (u_ho : Int32) (u_wy : Int32) (u_bt : Int32) (u_ps : Int32) (u_tg : Int32) (u_sn : Int32) (u_ic : Int32) (u_wd : Int32) (u_id : Int32) (u_wo : Int64) (u_va : Int64) (u_su : Int64) (u_st : Int64) (v_rf : Nat → Int32) (h_u_td : 0 ≤ u_td.toInt ∧ u_td.toInt ≤ 400) (h_u_fr : 0 ≤ u_fr.toInt ∧ u_fr.toInt ≤ 400) (h_u_to : 0 ≤ u_to.toInt ∧ u_to.toInt ≤ 400) (h_u_bd : 0 ≤ u_bd.toInt ∧ u_bd.toInt ≤ 1) (h_u_nc : 0 ≤ u_nc.toInt ∧ u_nc.toInt ≤ 12) (h_u_co : 0 ≤ u_co.toInt ∧ u_co.toInt ≤ 400) (h_u_pd : 0 ≤ u_pd.toInt ∧ u_pd.toInt ≤ 400) (h_u_la : 0 ≤ u_la.toInt ∧ u_la.toInt ≤ 4840) (h_u_bk : 0 ≤ u_bk.toInt ∧ u_bk.toInt ≤ 1) (h_u_ce : 0 ≤ u_ce.toInt ∧ u_ce.toInt ≤ 63) (h_u_ho : 0 ≤ u_ho.toInt ∧ u_ho.toInt ≤ 23) (h_u_wy : 0 ≤ u_wy.toInt ∧ u_wy.toInt ≤ 3) (h_u_bt : 0 ≤ u_bt.toInt ∧ u_bt.toInt ≤ 1000000) (h_u_ps : 0 ≤ u_ps.toInt ∧ u_ps.toInt ≤ 200) (h_u_ic : 0 ≤ u_ic.toInt ∧ u_ic.toInt ≤ 1) (h_u_id : 0 ≤ u_id.toInt ∧ u_id.toInt ≤ 1) : Met l yX12_tell (wsG yX12_tell cX12_tell 2 (some .int)) ({ frames := 0, cells := 0, slots := 0, locals := 0 }) (va_Pc [.ref b_o, .int (-6)] (g5_P G [(b_o, (oc12 u_th u_sa b_rf b_ro b_im b_ke u_fd b_tp u_td u_fr u_to u_so u_wo u_fa u_bd u_nc b_nl u_co b_op b_ar u_le b_pi b_pa u_pd u_od b_ws b_hw u_la b_se b_re u_bk u_va u_su u_ce u_ho u_wy u_bt u_ps b_pt u_tg u_sn b_ip u_ic b_ah b_be b_me u_wd b_tr b_ld u_st b_wn u_id)), (b_rf, (arI G 7 v_rf))] sz)) (va_Qi (fun (r : Int32) (u : va_W) => (∃ (o_sa : Int32) (o_ic : Int32) (o_rf : Nat → Int32), (0 ≤ o_ic.toInt ∧ o_ic.toInt ≤ 1) ∧ (r = (-6)) ∧ (u = [(b_o, (oc12 u_th o_sa b_rf b_ro b_im b_ke u_fd b_tp u_td u_fr u_to u_so u_wo u_fa u_bd u_nc b_nl u_co b_op b_ar u_le b_pi b_pa u_pd u_od b_ws b_hw u_la b_se b_re u_bk u_va u_su u_ce u_ho u_wy u_bt u_ps b_pt u_tg u_sn b_ip o_ic b_ah b_be b_me u_wd b_tr b_ld u_st b_wn u_id)), (b_rf, (arI G 7 o_rf))]))) (g5_B G (va_A [(b_o, (oc12 u_th u_sa b_rf b_ro b_im b_ke u_fd b_tp u_td u_fr u_to u_so u_wo u_fa u_bd u_nc b_nl u_co b_op b_ar u_le b_pi b_pa u_pd u_od b_ws b_hw u_la b_se b_re u_bk u_va u_su u_ce u_ho u_wy u_bt u_ps b_pt u_tg u_sn b_ip u_ic b_ah b_be b_me u_wd b_tr b_ld u_st b_wn u_id)), (b_rf, (arI G 7 v_rf))] sz)) (va_A [(b_o, (oc12 u_th u_sa b_rf b_ro b_im b_ke u_fd b_tp u_td u_fr u_to u_so u_wo u_fa u_bd u_nc b_nl u_co b_op b_ar u_le b_pi b_pa u_pd u_od b_ws b_hw u_la b_se b_re u_bk u_va u_su u_ce u_ho u_wy u_bt u_ps b_pt u_tg u_sn b_ip u_ic b_ah b_be b_me u_wd b_tr b_ld u_st b_wn u_id)), (b_rf, (arI G 7 v_rf))] sz)) 0 0 (va_A [(b_o, (oc12 u_th u_sa b_rf b_ro b_im b_ke u_fd b_tp u_td u_fr u_to u_so u_wo u_fa u_bd u_nc b_nl u_co b_op b_ar u_le b_pi b_pa u_pd u_od b_ws b_hw u_la b_se b_re u_bk u_va u_su u_ce u_ho u_wy u_bt u_ps b_pt u_tg u_sn b_ip u_ic b_ah b_be b_me u_wd b_tr b_ld u_st b_wn u_id)), (b_rf, (arI G 7 v_rf))] sz) := by
  refine Met.ofW (cc := cX12_tell) (maxL := 2) (ret := (some .int)) (by decide +kernel) rfl ?_
  intro p e s m args below meth c s₁ B hml hv
  obtain ⟨rfl, hsz, hP, hK, hD0, hN, hT⟩ := hv
  have hx := B.exec
  have hb := B.bytes
  have hr := B.returns
  have hts : ∀ w ∈ tblG, w.before _ s = true := fun w h => atoms_spec (ws := (wsG yX12_tell cX12_tell 2 (some .int))) B.pre w (List.mem_cons_of_mem _ h)
  have hown : s.vm.findClass RX12 = some m.cls := findClass_of_methodNamed B.named
  have hlocks := B.notSynchronized
  subst hsz
  have hD := hD0.self (sz := s.heap.size)
  generalize hAe : va_A [(b_o, (oc12 u_th u_sa b_rf b_ro b_im b_ke u_fd b_tp u_td u_fr u_to u_so u_wo u_fa u_bd u_nc b_nl u_co b_op b_ar u_le b_pi b_pa u_pd u_od b_ws b_hw u_la b_se b_re u_bk u_va u_su u_ce u_ho u_wy u_bt u_ps b_pt u_tg u_sn b_ip u_ic b_ah b_be b_me u_wd b_tr b_ld u_st b_wn u_id)), (b_rf, (arI G 7 v_rf))] s.heap.size = A at hD hT ⊢
  have hA : ∀ q : Nat, s.heap.size ≤ q → A q := fun q h => by rw [← hAe]; exact Or.inr h
  have hS : va_S A s.heap s.heap [] := va_S.rf
  replace hP : va_P G.1 vwCl [(b_o, (oc12 u_th u_sa b_rf b_ro b_im b_ke u_fd b_tp u_td u_fr u_to u_so u_wo u_fa u_bd u_nc b_nl u_co b_op b_ar u_le b_pi b_pa u_pd u_od b_ws b_hw u_la b_se b_re u_bk u_va u_su u_ce u_ho u_wy u_bt u_ps b_pt u_tg u_sn b_ip u_ic b_ah b_be b_me u_wd b_tr b_ld u_st b_wn u_id)), (b_rf, (arI G 7 v_rf))] s.heap := hP
  have hl := lv_entry ([.ref b_o, .int (-6)]) (n := 2) (Nat.le_of_ble_eq_true rfl)
  rw [lg_entry_eq]
  generalize (lg_sl ([.ref b_o, .int (-6)]) ++ List.replicate (2 - (lg_sl ([.ref b_o, .int (-6)])).length) Slot.unset).toArray = ls at hl ⊢
  replace hl : lv_has ls 2 [(0, .ref b_o), (1, .int (-6))] := hl
  refine lv_aload_n hx hb dX12_tell_0 rfl (lv_at hl 0 rfl) ?_
  refine lv_iload_n hx hb dX12_tell_1 rfl (lv_at hl 1 rfl) ?_
  refine lv_if_ge (tgt := 9) hx hb dX12_tell_2 (by decide +kernel) (fun c_1 => ?_) (fun c_1 => ?_)
  ·
    exact absurd c_1 (by decide +kernel)
  ·
    refine lv_iload_n hx hb dX12_tell_5 rfl (lv_at hl 1 rfl) ?_
    refine lv_goto (tgt := 10) hx hb dX12_tell_6 (by decide +kernel) ?_
    refine va_put (D := G.1) (ci := 12) (v := .int (-6)) (ty := .int) (C := RX12) (T := TX12) (N := 52) hx hb hts inG_X12 tyX12 tyX12_ok nmX12 hown hK hP hD hS 0 rfl rfl 1 (by decide +kernel) (hts _ fl_X12_110) (fun _ h9 => h9) rfl (by decide +kernel) rfl rfl (Nat.le_of_ble_eq_true rfl) dX12_tell_10 ?_
    clear hP hD hS
    intro H locs hP hD hS
    refine g5_rs [(b_o, (oc12 u_th (-6) b_rf b_ro b_im b_ke u_fd b_tp u_td u_fr u_to u_so u_wo u_fa u_bd u_nc b_nl u_co b_op b_ar u_le b_pi b_pa u_pd u_od b_ws b_hw u_la b_se b_re u_bk u_va u_su u_ce u_ho u_wy u_bt u_ps b_pt u_tg u_sn b_ip u_ic b_ah b_be b_me u_wd b_tr b_ld u_st b_wn u_id)), (b_rf, (arI G 7 v_rf))] hP hD ?_
    clear hP hD
    intro hP hD
    refine lv_aload_n hx hb dX12_tell_13 rfl (lv_at hl 0 rfl) ?_
    refine W.eq (g2 := F0 m 14 ls [.ref b_o]) rfl ?_
    refine lv_aload_n hx hb dX12_tell_14 rfl (lv_at hl 0 rfl) ?_
    refine va_get (D := G.1) (ci := 12) (v := .int u_ic) (C := RX12) (T := TX12) (N := 52) hx hb hts inG_X12 hown hK hP 0 rfl rfl 42 (by decide +kernel) (hts _ fl_X12_113) (fun _ h9 => h9) rfl dX12_tell_15 ?_
    refine lv_if_eq (tgt := 29) hx hb dX12_tell_18 (by decide +kernel) (fun c_2 => ?_) (fun c_2 => ?_)
    ·
      have i_2 : u_ic.toInt = 0 := g5_eq (a := u_ic.toInt) (b := 0) rfl (by decide +kernel) c_2
      refine lv_iconst (v := 0) hx hb dX12_tell_29 (by decide +kernel) ?_
      refine va_put (D := G.1) (ci := 12) (v := .int 0) (ty := .boolean) (C := RX12) (T := TX12) (N := 52) hx hb hts inG_X12 tyX12 tyX12_ok nmX12 hown hK hP hD hS 0 rfl rfl 42 (by decide +kernel) (hts _ fl_X12_113) (fun _ h9 => h9) rfl (by decide +kernel) rfl rfl (Nat.le_of_ble_eq_true rfl) dX12_tell_30 ?_
      clear hP hD hS
      intro H locs hP hD hS
      refine g5_rs [(b_o, (oc12 u_th (-6) b_rf b_ro b_im b_ke u_fd b_tp u_td u_fr u_to u_so u_wo u_fa u_bd u_nc b_nl u_co b_op b_ar u_le b_pi b_pa u_pd u_od b_ws b_hw u_la b_se b_re u_bk u_va u_su u_ce u_ho u_wy u_bt u_ps b_pt u_tg u_sn b_ip 0 b_ah b_be b_me u_wd b_tr b_ld u_st b_wn u_id)), (b_rf, (arI G 7 v_rf))] hP hD ?_
      clear hP hD
      intro hP hD
      refine lv_iload_n hx hb dX12_tell_33 rfl (lv_at hl 1 rfl) ?_
      refine lv_if_ge (tgt := 48) hx hb dX12_tell_34 (by decide +kernel) (fun c_3 => ?_) (fun c_3 => ?_)
      ·
        exact absurd c_3 (by decide +kernel)
      ·
        refine lv_aload_n hx hb dX12_tell_37 rfl (lv_at hl 0 rfl) ?_
        refine va_get (D := G.1) (ci := 12) (v := .ref b_rf) (C := RX12) (T := TX12) (N := 52) hx hb hts inG_X12 hown hK hP 0 rfl rfl 2 (by decide +kernel) (hts _ fl_X12_7) (fun _ h9 => h9) rfl dX12_tell_38 ?_
        refine lv_iload_n hx hb dX12_tell_41 rfl (lv_at hl 1 rfl) ?_
        refine lv_ineg hx hb dX12_tell_42 ?_
        refine g5_ti (v := 6) (by decide +kernel) ?_
        refine W.eq (g2 := F0 m 43 ls [.int 6, .ref b_rf]) rfl ?_
        refine lv_dup2_11 hx hb dX12_tell_43 rfl rfl ?_
        refine va_iald hx hb hK hP 1 0 rfl rfl (i := 6) (by unfold vp_in; decide) dX12_tell_44 ?_
        refine g5_ti (v := (v_rf 6)) rfl ?_
        refine lv_iconst (v := 1) hx hb dX12_tell_45 (by decide +kernel) ?_
        refine lv_iadd hx hb dX12_tell_46 ?_
        refine va_iast hx hb hK hP hD hS 1 0 rfl rfl (i := 6) (x := ((v_rf 6) + 1)) (by unfold vp_in; decide) dX12_tell_47 ?_
        clear hP hD hS
        intro H locs hP hD hS
        refine g5_rs [(b_o, (oc12 u_th (-6) b_rf b_ro b_im b_ke u_fd b_tp u_td u_fr u_to u_so u_wo u_fa u_bd u_nc b_nl u_co b_op b_ar u_le b_pi b_pa u_pd u_od b_ws b_hw u_la b_se b_re u_bk u_va u_su u_ce u_ho u_wy u_bt u_ps b_pt u_tg u_sn b_ip 0 b_ah b_be b_me u_wd b_tr b_ld u_st b_wn u_id)), (b_rf, (arI G 7 (upd v_rf 6 ((v_rf 6) + 1))))] hP hD ?_
        clear hP hD
        intro hP hD
        refine W.eq (g2 := F0 m 48 ls []) rfl ?_
        refine lv_iload_n hx hb dX12_tell_48 rfl (lv_at hl 1 rfl) ?_
        exact W.iret (v := (-6)) hx hb hr (fun t ht hW => ⟨⟨(-6), [(b_o, (oc12 u_th (-6) b_rf b_ro b_im b_ke u_fd b_tp u_td u_fr u_to u_so u_wo u_fa u_bd u_nc b_nl u_co b_op b_ar u_le b_pi b_pa u_pd u_od b_ws b_hw u_la b_se b_re u_bk u_va u_su u_ce u_ho u_wy u_bt u_ps b_pt u_tg u_sn b_ip 0 b_ah b_be b_me u_wd b_tr b_ld u_st b_wn u_id)), (b_rf, (arI G 7 (upd v_rf 6 ((v_rf 6) + 1))))], rfl, ⟨(-6), 0, (upd v_rf 6 ((v_rf 6) + 1)), ⟨by have zc_o_ic : (0 : Int32).toInt = 0 := (by decide +kernel); omega, by have zc_o_ic : (0 : Int32).toInt = 0 := (by decide +kernel); omega⟩, rfl, rfl⟩, by rw [ht]; exact hP.sub [0, 1] rfl, hD.sub [0, 1] (by decide +kernel) rfl⟩, hS.F ht⟩) hS.2.2 dX12_tell_49
    ·
      have n_2 : gNe (u_ic.toInt) (0) := g5_eqN (a := u_ic.toInt) (b := 0) rfl (by decide +kernel) c_2
      have i_2 : u_ic.toInt ≥ 1 := by have z := g5_eqN (a := u_ic.toInt) (b := 0) (by rfl) (by decide +kernel) c_2; omega
      refine lv_iload_n hx hb dX12_tell_21 rfl (lv_at hl 1 rfl) ?_
      refine lv_if_ge (tgt := 29) hx hb dX12_tell_22 (by decide +kernel) (fun c_4 => ?_) (fun c_4 => ?_)
      ·
        exact absurd c_4 (by decide +kernel)
      ·
        refine lv_iconst (v := 1) hx hb dX12_tell_25 (by decide +kernel) ?_
        refine lv_goto (tgt := 30) hx hb dX12_tell_26 (by decide +kernel) ?_
        refine va_put (D := G.1) (ci := 12) (v := .int 1) (ty := .boolean) (C := RX12) (T := TX12) (N := 52) hx hb hts inG_X12 tyX12 tyX12_ok nmX12 hown hK hP hD hS 0 rfl rfl 42 (by decide +kernel) (hts _ fl_X12_113) (fun _ h9 => h9) rfl (by decide +kernel) rfl rfl (Nat.le_of_ble_eq_true rfl) dX12_tell_30 ?_
        clear hP hD hS
        intro H locs hP hD hS
        refine g5_rs [(b_o, (oc12 u_th (-6) b_rf b_ro b_im b_ke u_fd b_tp u_td u_fr u_to u_so u_wo u_fa u_bd u_nc b_nl u_co b_op b_ar u_le b_pi b_pa u_pd u_od b_ws b_hw u_la b_se b_re u_bk u_va u_su u_ce u_ho u_wy u_bt u_ps b_pt u_tg u_sn b_ip 1 b_ah b_be b_me u_wd b_tr b_ld u_st b_wn u_id)), (b_rf, (arI G 7 v_rf))] hP hD ?_
        clear hP hD
        intro hP hD
        refine lv_iload_n hx hb dX12_tell_33 rfl (lv_at hl 1 rfl) ?_
        refine W.eq (g2 := F0 m 34 ls [.int (-6)]) rfl ?_
        refine lv_if_ge (tgt := 48) hx hb dX12_tell_34 (by decide +kernel) (fun c_5 => ?_) (fun c_5 => ?_)
        ·
          exact absurd c_5 (by decide +kernel)
        ·
          refine lv_aload_n hx hb dX12_tell_37 rfl (lv_at hl 0 rfl) ?_
          refine va_get (D := G.1) (ci := 12) (v := .ref b_rf) (C := RX12) (T := TX12) (N := 52) hx hb hts inG_X12 hown hK hP 0 rfl rfl 2 (by decide +kernel) (hts _ fl_X12_7) (fun _ h9 => h9) rfl dX12_tell_38 ?_
          refine lv_iload_n hx hb dX12_tell_41 rfl (lv_at hl 1 rfl) ?_
          refine lv_ineg hx hb dX12_tell_42 ?_
          refine g5_ti (v := 6) (by decide +kernel) ?_
          refine W.eq (g2 := F0 m 43 ls [.int 6, .ref b_rf]) rfl ?_
          refine lv_dup2_11 hx hb dX12_tell_43 rfl rfl ?_
          refine va_iald hx hb hK hP 1 0 rfl rfl (i := 6) (by unfold vp_in; decide) dX12_tell_44 ?_
          refine g5_ti (v := (v_rf 6)) rfl ?_
          refine lv_iconst (v := 1) hx hb dX12_tell_45 (by decide +kernel) ?_
          refine lv_iadd hx hb dX12_tell_46 ?_
          refine va_iast hx hb hK hP hD hS 1 0 rfl rfl (i := 6) (x := ((v_rf 6) + 1)) (by unfold vp_in; decide) dX12_tell_47 ?_
          clear hP hD hS
          intro H locs hP hD hS
          refine g5_rs [(b_o, (oc12 u_th (-6) b_rf b_ro b_im b_ke u_fd b_tp u_td u_fr u_to u_so u_wo u_fa u_bd u_nc b_nl u_co b_op b_ar u_le b_pi b_pa u_pd u_od b_ws b_hw u_la b_se b_re u_bk u_va u_su u_ce u_ho u_wy u_bt u_ps b_pt u_tg u_sn b_ip 1 b_ah b_be b_me u_wd b_tr b_ld u_st b_wn u_id)), (b_rf, (arI G 7 (upd v_rf 6 ((v_rf 6) + 1))))] hP hD ?_
          clear hP hD
          intro hP hD
          refine W.eq (g2 := F0 m 48 ls []) rfl ?_
          refine lv_iload_n hx hb dX12_tell_48 rfl (lv_at hl 1 rfl) ?_
          exact W.iret (v := (-6)) hx hb hr (fun t ht hW => ⟨⟨(-6), [(b_o, (oc12 u_th (-6) b_rf b_ro b_im b_ke u_fd b_tp u_td u_fr u_to u_so u_wo u_fa u_bd u_nc b_nl u_co b_op b_ar u_le b_pi b_pa u_pd u_od b_ws b_hw u_la b_se b_re u_bk u_va u_su u_ce u_ho u_wy u_bt u_ps b_pt u_tg u_sn b_ip 1 b_ah b_be b_me u_wd b_tr b_ld u_st b_wn u_id)), (b_rf, (arI G 7 (upd v_rf 6 ((v_rf 6) + 1))))], rfl, ⟨(-6), 1, (upd v_rf 6 ((v_rf 6) + 1)), ⟨by have zc_o_ic : (1 : Int32).toInt = 1 := (by decide +kernel); omega, by have zc_o_ic : (1 : Int32).toInt = 1 := (by decide +kernel); omega⟩, rfl, rfl⟩, by rw [ht]; exact hP.sub [0, 1] rfl, hD.sub [0, 1] (by decide +kernel) rfl⟩, hS.F ht⟩) hS.2.2 dX12_tell_49
set_option maxHeartbeats 4000000 in
set_option maxRecDepth 100000 in
theorem n_tell (l : Launch) (G : g5_G) (b_o b_rf b_ro b_im b_ke b_tp b_nl b_op b_ar b_pi b_pa b_ws b_hw b_se b_re b_pt b_ip b_ah b_be b_me b_tr b_ld b_wn : Nat) (sz : Nat) (u_th : Int32) (u_sa : Int32) (u_fd : Int32) (u_td : Int32) (u_fr : Int32) (u_to : Int32) (u_so : Int32) (u_fa : Int32) (u_bd : Int32) (u_nc : Int32) (u_co : Int32) (u_le : Int32) (u_pd : Int32) (u_od : Int32) (u_la : Int32) (u_bk : Int32) (u_ce : Int32) (u_ho : Int32) (u_wy : Int32) (u_bt : Int32) (u_ps : Int32) (u_tg : Int32) (u_sn : Int32) (u_ic : Int32) (u_wd : Int32) (u_id : Int32) (p_1 : Int32) (u_wo : Int64) (u_va : Int64) (u_su : Int64) (u_st : Int64) (v_rf : Nat → Int32) (h_u_td : 0 ≤ u_td.toInt ∧ u_td.toInt ≤ 400) (h_u_fr : 0 ≤ u_fr.toInt ∧ u_fr.toInt ≤ 400) (h_u_to : 0 ≤ u_to.toInt ∧ u_to.toInt ≤ 400) (h_u_bd : 0 ≤ u_bd.toInt ∧ u_bd.toInt ≤ 1) (h_u_nc : 0 ≤ u_nc.toInt ∧ u_nc.toInt ≤ 12) (h_u_co : 0 ≤ u_co.toInt ∧ u_co.toInt ≤ 400) (h_u_pd : 0 ≤ u_pd.toInt ∧ u_pd.toInt ≤ 400) (h_u_la : 0 ≤ u_la.toInt ∧ u_la.toInt ≤ 4840) (h_u_bk : 0 ≤ u_bk.toInt ∧ u_bk.toInt ≤ 1) (h_u_ce : 0 ≤ u_ce.toInt ∧ u_ce.toInt ≤ 63) (h_u_ho : 0 ≤ u_ho.toInt ∧ u_ho.toInt ≤ 23) (h_u_wy : 0 ≤ u_wy.toInt ∧ u_wy.toInt ≤ 3) (h_u_bt : 0 ≤ u_bt.toInt ∧ u_bt.toInt ≤ 1000000) (h_u_ps : 0 ≤ u_ps.toInt ∧ u_ps.toInt ≤ 200) (h_u_ic : 0 ≤ u_ic.toInt ∧ u_ic.toInt ≤ 1) (h_u_id : 0 ≤ u_id.toInt ∧ u_id.toInt ≤ 1) (h_p_1 : 0 ≤ p_1.toInt ∧ p_1.toInt ≤ 1000) : Met l yX12_tell (wsG yX12_tell cX12_tell 2 (some .int)) ({ frames := 0, cells := 0, slots := 0, locals := 0 }) (va_Pc [.ref b_o, .int p_1] (g5_P G [(b_o, (oc12 u_th u_sa b_rf b_ro b_im b_ke u_fd b_tp u_td u_fr u_to u_so u_wo u_fa u_bd u_nc b_nl u_co b_op b_ar u_le b_pi b_pa u_pd u_od b_ws b_hw u_la b_se b_re u_bk u_va u_su u_ce u_ho u_wy u_bt u_ps b_pt u_tg u_sn b_ip u_ic b_ah b_be b_me u_wd b_tr b_ld u_st b_wn u_id)), (b_rf, (arI G 7 v_rf))] sz)) (va_Qi (fun (r : Int32) (u : va_W) => (∃ (o_sa : Int32) (o_ic : Int32) (o_rf : Nat → Int32), (0 ≤ o_ic.toInt ∧ o_ic.toInt ≤ 1) ∧ (r = p_1) ∧ (u = [(b_o, (oc12 u_th o_sa b_rf b_ro b_im b_ke u_fd b_tp u_td u_fr u_to u_so u_wo u_fa u_bd u_nc b_nl u_co b_op b_ar u_le b_pi b_pa u_pd u_od b_ws b_hw u_la b_se b_re u_bk u_va u_su u_ce u_ho u_wy u_bt u_ps b_pt u_tg u_sn b_ip o_ic b_ah b_be b_me u_wd b_tr b_ld u_st b_wn u_id)), (b_rf, (arI G 7 o_rf))]))) (g5_B G (va_A [(b_o, (oc12 u_th u_sa b_rf b_ro b_im b_ke u_fd b_tp u_td u_fr u_to u_so u_wo u_fa u_bd u_nc b_nl u_co b_op b_ar u_le b_pi b_pa u_pd u_od b_ws b_hw u_la b_se b_re u_bk u_va u_su u_ce u_ho u_wy u_bt u_ps b_pt u_tg u_sn b_ip u_ic b_ah b_be b_me u_wd b_tr b_ld u_st b_wn u_id)), (b_rf, (arI G 7 v_rf))] sz)) (va_A [(b_o, (oc12 u_th u_sa b_rf b_ro b_im b_ke u_fd b_tp u_td u_fr u_to u_so u_wo u_fa u_bd u_nc b_nl u_co b_op b_ar u_le b_pi b_pa u_pd u_od b_ws b_hw u_la b_se b_re u_bk u_va u_su u_ce u_ho u_wy u_bt u_ps b_pt u_tg u_sn b_ip u_ic b_ah b_be b_me u_wd b_tr b_ld u_st b_wn u_id)), (b_rf, (arI G 7 v_rf))] sz)) 0 0 (va_A [(b_o, (oc12 u_th u_sa b_rf b_ro b_im b_ke u_fd b_tp u_td u_fr u_to u_so u_wo u_fa u_bd u_nc b_nl u_co b_op b_ar u_le b_pi b_pa u_pd u_od b_ws b_hw u_la b_se b_re u_bk u_va u_su u_ce u_ho u_wy u_bt u_ps b_pt u_tg u_sn b_ip u_ic b_ah b_be b_me u_wd b_tr b_ld u_st b_wn u_id)), (b_rf, (arI G 7 v_rf))] sz) := by
  refine Met.ofW (cc := cX12_tell) (maxL := 2) (ret := (some .int)) (by decide +kernel) rfl ?_
  intro p e s m args below meth c s₁ B hml hv
  obtain ⟨rfl, hsz, hP, hK, hD0, hN, hT⟩ := hv
  have hx := B.exec
  have hb := B.bytes
  have hr := B.returns
  have hts : ∀ w ∈ tblG, w.before _ s = true := fun w h => atoms_spec (ws := (wsG yX12_tell cX12_tell 2 (some .int))) B.pre w (List.mem_cons_of_mem _ h)
  have hown : s.vm.findClass RX12 = some m.cls := findClass_of_methodNamed B.named
  have hlocks := B.notSynchronized
  subst hsz
  have hD := hD0.self (sz := s.heap.size)
  generalize hAe : va_A [(b_o, (oc12 u_th u_sa b_rf b_ro b_im b_ke u_fd b_tp u_td u_fr u_to u_so u_wo u_fa u_bd u_nc b_nl u_co b_op b_ar u_le b_pi b_pa u_pd u_od b_ws b_hw u_la b_se b_re u_bk u_va u_su u_ce u_ho u_wy u_bt u_ps b_pt u_tg u_sn b_ip u_ic b_ah b_be b_me u_wd b_tr b_ld u_st b_wn u_id)), (b_rf, (arI G 7 v_rf))] s.heap.size = A at hD hT ⊢
  have hA : ∀ q : Nat, s.heap.size ≤ q → A q := fun q h => by rw [← hAe]; exact Or.inr h
  have hS : va_S A s.heap s.heap [] := va_S.rf
  replace hP : va_P G.1 vwCl [(b_o, (oc12 u_th u_sa b_rf b_ro b_im b_ke u_fd b_tp u_td u_fr u_to u_so u_wo u_fa u_bd u_nc b_nl u_co b_op b_ar u_le b_pi b_pa u_pd u_od b_ws b_hw u_la b_se b_re u_bk u_va u_su u_ce u_ho u_wy u_bt u_ps b_pt u_tg u_sn b_ip u_ic b_ah b_be b_me u_wd b_tr b_ld u_st b_wn u_id)), (b_rf, (arI G 7 v_rf))] s.heap := hP
  have hl := lv_entry ([.ref b_o, .int p_1]) (n := 2) (Nat.le_of_ble_eq_true rfl)
  rw [lg_entry_eq]
  generalize (lg_sl ([.ref b_o, .int p_1]) ++ List.replicate (2 - (lg_sl ([.ref b_o, .int p_1])).length) Slot.unset).toArray = ls at hl ⊢
  replace hl : lv_has ls 2 [(0, .ref b_o), (1, .int p_1)] := hl
  refine lv_aload_n hx hb dX12_tell_0 rfl (lv_at hl 0 rfl) ?_
  refine lv_iload_n hx hb dX12_tell_1 rfl (lv_at hl 1 rfl) ?_
  refine lv_if_ge (tgt := 9) hx hb dX12_tell_2 (by decide +kernel) (fun c_1 => ?_) (fun c_1 => ?_)
  ·
    have i_1 : p_1.toInt ≥ 0 := g5_ge (a := p_1.toInt) (b := 0) rfl (by decide +kernel) c_1
    refine lv_iconst (v := 0) hx hb dX12_tell_9 (by decide +kernel) ?_
    refine va_put (D := G.1) (ci := 12) (v := .int 0) (ty := .int) (C := RX12) (T := TX12) (N := 52) hx hb hts inG_X12 tyX12 tyX12_ok nmX12 hown hK hP hD hS 0 rfl rfl 1 (by decide +kernel) (hts _ fl_X12_110) (fun _ h9 => h9) rfl (by decide +kernel) rfl rfl (Nat.le_of_ble_eq_true rfl) dX12_tell_10 ?_
    clear hP hD hS
    intro H locs hP hD hS
    refine g5_rs [(b_o, (oc12 u_th 0 b_rf b_ro b_im b_ke u_fd b_tp u_td u_fr u_to u_so u_wo u_fa u_bd u_nc b_nl u_co b_op b_ar u_le b_pi b_pa u_pd u_od b_ws b_hw u_la b_se b_re u_bk u_va u_su u_ce u_ho u_wy u_bt u_ps b_pt u_tg u_sn b_ip u_ic b_ah b_be b_me u_wd b_tr b_ld u_st b_wn u_id)), (b_rf, (arI G 7 v_rf))] hP hD ?_
    clear hP hD
    intro hP hD
    refine lv_aload_n hx hb dX12_tell_13 rfl (lv_at hl 0 rfl) ?_
    refine lv_aload_n hx hb dX12_tell_14 rfl (lv_at hl 0 rfl) ?_
    refine W.eq (g2 := F0 m 15 ls [.ref b_o, .ref b_o]) rfl ?_
    refine va_get (D := G.1) (ci := 12) (v := .int u_ic) (C := RX12) (T := TX12) (N := 52) hx hb hts inG_X12 hown hK hP 0 rfl rfl 42 (by decide +kernel) (hts _ fl_X12_113) (fun _ h9 => h9) rfl dX12_tell_15 ?_
    refine lv_if_eq (tgt := 29) hx hb dX12_tell_18 (by decide +kernel) (fun c_2 => ?_) (fun c_2 => ?_)
    ·
      have i_2 : u_ic.toInt = 0 := g5_eq (a := u_ic.toInt) (b := 0) rfl (by decide +kernel) c_2
      refine lv_iconst (v := 0) hx hb dX12_tell_29 (by decide +kernel) ?_
      refine va_put (D := G.1) (ci := 12) (v := .int 0) (ty := .boolean) (C := RX12) (T := TX12) (N := 52) hx hb hts inG_X12 tyX12 tyX12_ok nmX12 hown hK hP hD hS 0 rfl rfl 42 (by decide +kernel) (hts _ fl_X12_113) (fun _ h9 => h9) rfl (by decide +kernel) rfl rfl (Nat.le_of_ble_eq_true rfl) dX12_tell_30 ?_
      clear hP hD hS
      intro H locs hP hD hS
      refine g5_rs [(b_o, (oc12 u_th 0 b_rf b_ro b_im b_ke u_fd b_tp u_td u_fr u_to u_so u_wo u_fa u_bd u_nc b_nl u_co b_op b_ar u_le b_pi b_pa u_pd u_od b_ws b_hw u_la b_se b_re u_bk u_va u_su u_ce u_ho u_wy u_bt u_ps b_pt u_tg u_sn b_ip 0 b_ah b_be b_me u_wd b_tr b_ld u_st b_wn u_id)), (b_rf, (arI G 7 v_rf))] hP hD ?_
      clear hP hD
      intro hP hD
      refine lv_iload_n hx hb dX12_tell_33 rfl (lv_at hl 1 rfl) ?_
      refine lv_if_ge (tgt := 48) hx hb dX12_tell_34 (by decide +kernel) (fun c_3 => ?_) (fun c_3 => ?_)
      ·
        have i_3 : p_1.toInt ≥ 0 := g5_ge (a := p_1.toInt) (b := 0) rfl (by decide +kernel) c_3
        refine lv_iload_n hx hb dX12_tell_48 rfl (lv_at hl 1 rfl) ?_
        exact W.iret (v := p_1) hx hb hr (fun t ht hW => ⟨⟨p_1, [(b_o, (oc12 u_th 0 b_rf b_ro b_im b_ke u_fd b_tp u_td u_fr u_to u_so u_wo u_fa u_bd u_nc b_nl u_co b_op b_ar u_le b_pi b_pa u_pd u_od b_ws b_hw u_la b_se b_re u_bk u_va u_su u_ce u_ho u_wy u_bt u_ps b_pt u_tg u_sn b_ip 0 b_ah b_be b_me u_wd b_tr b_ld u_st b_wn u_id)), (b_rf, (arI G 7 v_rf))], rfl, ⟨0, 0, v_rf, ⟨by have zc_o_ic : (0 : Int32).toInt = 0 := (by decide +kernel); omega, by have zc_o_ic : (0 : Int32).toInt = 0 := (by decide +kernel); omega⟩, rfl, rfl⟩, by rw [ht]; exact hP.sub [0, 1] rfl, hD.sub [0, 1] (by decide +kernel) rfl⟩, hS.F ht⟩) hS.2.2 dX12_tell_49
      ·
        have i_3 : p_1.toInt < 0 := g5_geN (a := p_1.toInt) (b := 0) rfl (by decide +kernel) c_3
        omega
    ·
      have n_2 : gNe (u_ic.toInt) (0) := g5_eqN (a := u_ic.toInt) (b := 0) rfl (by decide +kernel) c_2
      have i_2 : u_ic.toInt ≥ 1 := by have z := g5_eqN (a := u_ic.toInt) (b := 0) (by rfl) (by decide +kernel) c_2; omega
      refine lv_iload_n hx hb dX12_tell_21 rfl (lv_at hl 1 rfl) ?_
      refine lv_if_ge (tgt := 29) hx hb dX12_tell_22 (by decide +kernel) (fun c_4 => ?_) (fun c_4 => ?_)
      ·
        have i_4 : p_1.toInt ≥ 0 := g5_ge (a := p_1.toInt) (b := 0) rfl (by decide +kernel) c_4
        refine lv_iconst (v := 0) hx hb dX12_tell_29 (by decide +kernel) ?_
        refine va_put (D := G.1) (ci := 12) (v := .int 0) (ty := .boolean) (C := RX12) (T := TX12) (N := 52) hx hb hts inG_X12 tyX12 tyX12_ok nmX12 hown hK hP hD hS 0 rfl rfl 42 (by decide +kernel) (hts _ fl_X12_113) (fun _ h9 => h9) rfl (by decide +kernel) rfl rfl (Nat.le_of_ble_eq_true rfl) dX12_tell_30 ?_
        clear hP hD hS
        intro H locs hP hD hS
        refine g5_rs [(b_o, (oc12 u_th 0 b_rf b_ro b_im b_ke u_fd b_tp u_td u_fr u_to u_so u_wo u_fa u_bd u_nc b_nl u_co b_op b_ar u_le b_pi b_pa u_pd u_od b_ws b_hw u_la b_se b_re u_bk u_va u_su u_ce u_ho u_wy u_bt u_ps b_pt u_tg u_sn b_ip 0 b_ah b_be b_me u_wd b_tr b_ld u_st b_wn u_id)), (b_rf, (arI G 7 v_rf))] hP hD ?_
        clear hP hD
        intro hP hD
        refine lv_iload_n hx hb dX12_tell_33 rfl (lv_at hl 1 rfl) ?_
        refine lv_if_ge (tgt := 48) hx hb dX12_tell_34 (by decide +kernel) (fun c_5 => ?_) (fun c_5 => ?_)
        ·
          have i_5 : p_1.toInt ≥ 0 := g5_ge (a := p_1.toInt) (b := 0) rfl (by decide +kernel) c_5
          refine lv_iload_n hx hb dX12_tell_48 rfl (lv_at hl 1 rfl) ?_
          exact W.iret (v := p_1) hx hb hr (fun t ht hW => ⟨⟨p_1, [(b_o, (oc12 u_th 0 b_rf b_ro b_im b_ke u_fd b_tp u_td u_fr u_to u_so u_wo u_fa u_bd u_nc b_nl u_co b_op b_ar u_le b_pi b_pa u_pd u_od b_ws b_hw u_la b_se b_re u_bk u_va u_su u_ce u_ho u_wy u_bt u_ps b_pt u_tg u_sn b_ip 0 b_ah b_be b_me u_wd b_tr b_ld u_st b_wn u_id)), (b_rf, (arI G 7 v_rf))], rfl, ⟨0, 0, v_rf, ⟨by have zc_o_ic : (0 : Int32).toInt = 0 := (by decide +kernel); omega, by have zc_o_ic : (0 : Int32).toInt = 0 := (by decide +kernel); omega⟩, rfl, rfl⟩, by rw [ht]; exact hP.sub [0, 1] rfl, hD.sub [0, 1] (by decide +kernel) rfl⟩, hS.F ht⟩) hS.2.2 dX12_tell_49
        ·
          have i_5 : p_1.toInt < 0 := g5_geN (a := p_1.toInt) (b := 0) rfl (by decide +kernel) c_5
          omega
      ·
        have i_4 : p_1.toInt < 0 := g5_geN (a := p_1.toInt) (b := 0) rfl (by decide +kernel) c_4
        omega
  ·
    have i_1 : p_1.toInt < 0 := g5_geN (a := p_1.toInt) (b := 0) rfl (by decide +kernel) c_1
    omega
theorem dgX12_was_0 : ∀ r ∈ ([(0, (.aload_n 0, 1)), (1, (.iconst 0, 1)), (2, (.putfield 110, 3)), (5, (.aload_n 0, 1)), (6, (.iconst 0, 1)), (7, (.putfield 113, 3)), (10, (.iload_n 1, 1)), (11, (.ireturn, 1))] : List (Nat × (Instr × Nat))), decode cX12_was r.1 = .ok r.2 := by decide +kernel
theorem dX12_was_0 : decode cX12_was 0 = .ok (.aload_n 0, 1) := dgX12_was_0 (0, (.aload_n 0, 1)) (List.mem_of_getElem? (i := 0) rfl)
theorem dX12_was_1 : decode cX12_was 1 = .ok (.iconst 0, 1) := dgX12_was_0 (1, (.iconst 0, 1)) (List.mem_of_getElem? (i := 1) rfl)
theorem dX12_was_2 : decode cX12_was 2 = .ok (.putfield 110, 3) := dgX12_was_0 (2, (.putfield 110, 3)) (List.mem_of_getElem? (i := 2) rfl)
theorem dX12_was_5 : decode cX12_was 5 = .ok (.aload_n 0, 1) := dgX12_was_0 (5, (.aload_n 0, 1)) (List.mem_of_getElem? (i := 3) rfl)
theorem dX12_was_6 : decode cX12_was 6 = .ok (.iconst 0, 1) := dgX12_was_0 (6, (.iconst 0, 1)) (List.mem_of_getElem? (i := 4) rfl)
theorem dX12_was_7 : decode cX12_was 7 = .ok (.putfield 113, 3) := dgX12_was_0 (7, (.putfield 113, 3)) (List.mem_of_getElem? (i := 5) rfl)
theorem dX12_was_10 : decode cX12_was 10 = .ok (.iload_n 1, 1) := dgX12_was_0 (10, (.iload_n 1, 1)) (List.mem_of_getElem? (i := 6) rfl)
theorem dX12_was_11 : decode cX12_was 11 = .ok (.ireturn, 1) := dgX12_was_0 (11, (.ireturn, 1)) (List.mem_of_getElem? (i := 7) rfl)
theorem dgX12_isWall_0 : ∀ r ∈ ([(0, (.aload_n 0, 1)), (1, (.getfield 13, 3)), (4, (.bipush 10, 2)), (6, (.iload_n 1, 1)), (7, (.iadd, 1)), (8, (.iaload, 1)), (9, (.iconst 1, 1)), (10, (.if_icmp .ne 7, 3)), (13, (.iconst 1, 1)), (14, (.goto 4, 3)), (17, (.iconst 0, 1)), (18, (.ireturn, 1))] : List (Nat × (Instr × Nat))), decode cX12_isWall r.1 = .ok r.2 := by decide +kernel
theorem dX12_isWall_0 : decode cX12_isWall 0 = .ok (.aload_n 0, 1) := dgX12_isWall_0 (0, (.aload_n 0, 1)) (List.mem_of_getElem? (i := 0) rfl)
theorem dX12_isWall_1 : decode cX12_isWall 1 = .ok (.getfield 13, 3) := dgX12_isWall_0 (1, (.getfield 13, 3)) (List.mem_of_getElem? (i := 1) rfl)
theorem dX12_isWall_4 : decode cX12_isWall 4 = .ok (.bipush 10, 2) := dgX12_isWall_0 (4, (.bipush 10, 2)) (List.mem_of_getElem? (i := 2) rfl)
theorem dX12_isWall_6 : decode cX12_isWall 6 = .ok (.iload_n 1, 1) := dgX12_isWall_0 (6, (.iload_n 1, 1)) (List.mem_of_getElem? (i := 3) rfl)
theorem dX12_isWall_7 : decode cX12_isWall 7 = .ok (.iadd, 1) := dgX12_isWall_0 (7, (.iadd, 1)) (List.mem_of_getElem? (i := 4) rfl)
theorem dX12_isWall_8 : decode cX12_isWall 8 = .ok (.iaload, 1) := dgX12_isWall_0 (8, (.iaload, 1)) (List.mem_of_getElem? (i := 5) rfl)
theorem dX12_isWall_9 : decode cX12_isWall 9 = .ok (.iconst 1, 1) := dgX12_isWall_0 (9, (.iconst 1, 1)) (List.mem_of_getElem? (i := 6) rfl)
theorem dX12_isWall_10 : decode cX12_isWall 10 = .ok (.if_icmp .ne 7, 3) := dgX12_isWall_0 (10, (.if_icmp .ne 7, 3)) (List.mem_of_getElem? (i := 7) rfl)
theorem dX12_isWall_13 : decode cX12_isWall 13 = .ok (.iconst 1, 1) := dgX12_isWall_0 (13, (.iconst 1, 1)) (List.mem_of_getElem? (i := 8) rfl)
theorem dX12_isWall_14 : decode cX12_isWall 14 = .ok (.goto 4, 3) := dgX12_isWall_0 (14, (.goto 4, 3)) (List.mem_of_getElem? (i := 9) rfl)
theorem dX12_isWall_17 : decode cX12_isWall 17 = .ok (.iconst 0, 1) := dgX12_isWall_0 (17, (.iconst 0, 1)) (List.mem_of_getElem? (i := 10) rfl)
theorem dX12_isWall_18 : decode cX12_isWall 18 = .ok (.ireturn, 1) := dgX12_isWall_0 (18, (.ireturn, 1)) (List.mem_of_getElem? (i := 11) rfl)
theorem fl_X12_13 : Cond.fieldLink RX12 13 "LateGlassModel" "row" "[I" ∈ tblG := tg 1206 (by decide +kernel) (by decide +kernel)
set_option maxHeartbeats 4000000 in
set_option maxRecDepth 100000 in
theorem n_isWall (l : Launch) (G : g5_G) (b_o b_ro b_rf b_im b_ke b_tp b_nl b_op b_ar b_pi b_pa b_ws b_hw b_se b_re b_pt b_ip b_ah b_be b_me b_tr b_ld b_wn : Nat) (sz : Nat) (u_th : Int32) (u_sa : Int32) (u_fd : Int32) (u_td : Int32) (u_fr : Int32) (u_to : Int32) (u_so : Int32) (u_fa : Int32) (u_bd : Int32) (u_nc : Int32) (u_co : Int32) (u_le : Int32) (u_pd : Int32) (u_od : Int32) (u_la : Int32) (u_bk : Int32) (u_ce : Int32) (u_ho : Int32) (u_wy : Int32) (u_bt : Int32) (u_ps : Int32) (u_tg : Int32) (u_sn : Int32) (u_ic : Int32) (u_wd : Int32) (u_id : Int32) (p_1 : Int32) (u_wo : Int64) (u_va : Int64) (u_su : Int64) (u_st : Int64) (v_ro : Nat → Int32) (h_u_td : 0 ≤ u_td.toInt ∧ u_td.toInt ≤ 400) (h_u_fr : 0 ≤ u_fr.toInt ∧ u_fr.toInt ≤ 400) (h_u_to : 0 ≤ u_to.toInt ∧ u_to.toInt ≤ 400) (h_u_bd : 0 ≤ u_bd.toInt ∧ u_bd.toInt ≤ 1) (h_u_nc : 0 ≤ u_nc.toInt ∧ u_nc.toInt ≤ 12) (h_u_co : 0 ≤ u_co.toInt ∧ u_co.toInt ≤ 400) (h_u_pd : 0 ≤ u_pd.toInt ∧ u_pd.toInt ≤ 400) (h_u_la : 0 ≤ u_la.toInt ∧ u_la.toInt ≤ 4840) (h_u_bk : 0 ≤ u_bk.toInt ∧ u_bk.toInt ≤ 1) (h_u_ce : 0 ≤ u_ce.toInt ∧ u_ce.toInt ≤ 63) (h_u_ho : 0 ≤ u_ho.toInt ∧ u_ho.toInt ≤ 23) (h_u_wy : 0 ≤ u_wy.toInt ∧ u_wy.toInt ≤ 3) (h_u_bt : 0 ≤ u_bt.toInt ∧ u_bt.toInt ≤ 1000000) (h_u_ps : 0 ≤ u_ps.toInt ∧ u_ps.toInt ≤ 200) (h_u_ic : 0 ≤ u_ic.toInt ∧ u_ic.toInt ≤ 1) (h_u_id : 0 ≤ u_id.toInt ∧ u_id.toInt ≤ 1) (h_p_1 : 0 ≤ p_1.toInt ∧ p_1.toInt ≤ 63) (r_ro : MI v_ro) : Met l yX12_isWall (wsG yX12_isWall cX12_isWall 2 (some .boolean)) ({ frames := 0, cells := 0, slots := 0, locals := 0 }) (va_Pc [.ref b_o, .int p_1] (g5_P G [(b_o, (oc12 u_th u_sa b_rf b_ro b_im b_ke u_fd b_tp u_td u_fr u_to u_so u_wo u_fa u_bd u_nc b_nl u_co b_op b_ar u_le b_pi b_pa u_pd u_od b_ws b_hw u_la b_se b_re u_bk u_va u_su u_ce u_ho u_wy u_bt u_ps b_pt u_tg u_sn b_ip u_ic b_ah b_be b_me u_wd b_tr b_ld u_st b_wn u_id)), (b_ro, (arI G 5740 v_ro))] sz)) (va_Qi (fun (r : Int32) (u : va_W) => (∃ (o_r : Int32), (0 ≤ o_r.toInt ∧ o_r.toInt ≤ 1) ∧ (r = o_r) ∧ (u = [(b_o, (oc12 u_th u_sa b_rf b_ro b_im b_ke u_fd b_tp u_td u_fr u_to u_so u_wo u_fa u_bd u_nc b_nl u_co b_op b_ar u_le b_pi b_pa u_pd u_od b_ws b_hw u_la b_se b_re u_bk u_va u_su u_ce u_ho u_wy u_bt u_ps b_pt u_tg u_sn b_ip u_ic b_ah b_be b_me u_wd b_tr b_ld u_st b_wn u_id)), (b_ro, (arI G 5740 v_ro))]))) (g5_B G (va_A [(b_o, (oc12 u_th u_sa b_rf b_ro b_im b_ke u_fd b_tp u_td u_fr u_to u_so u_wo u_fa u_bd u_nc b_nl u_co b_op b_ar u_le b_pi b_pa u_pd u_od b_ws b_hw u_la b_se b_re u_bk u_va u_su u_ce u_ho u_wy u_bt u_ps b_pt u_tg u_sn b_ip u_ic b_ah b_be b_me u_wd b_tr b_ld u_st b_wn u_id)), (b_ro, (arI G 5740 v_ro))] sz)) (va_A [(b_o, (oc12 u_th u_sa b_rf b_ro b_im b_ke u_fd b_tp u_td u_fr u_to u_so u_wo u_fa u_bd u_nc b_nl u_co b_op b_ar u_le b_pi b_pa u_pd u_od b_ws b_hw u_la b_se b_re u_bk u_va u_su u_ce u_ho u_wy u_bt u_ps b_pt u_tg u_sn b_ip u_ic b_ah b_be b_me u_wd b_tr b_ld u_st b_wn u_id)), (b_ro, (arI G 5740 v_ro))] sz)) 0 0 (va_A [(b_o, (oc12 u_th u_sa b_rf b_ro b_im b_ke u_fd b_tp u_td u_fr u_to u_so u_wo u_fa u_bd u_nc b_nl u_co b_op b_ar u_le b_pi b_pa u_pd u_od b_ws b_hw u_la b_se b_re u_bk u_va u_su u_ce u_ho u_wy u_bt u_ps b_pt u_tg u_sn b_ip u_ic b_ah b_be b_me u_wd b_tr b_ld u_st b_wn u_id)), (b_ro, (arI G 5740 v_ro))] sz) := by
  refine Met.ofW (cc := cX12_isWall) (maxL := 2) (ret := (some .boolean)) (by decide) rfl ?_
  intro p e s m args below meth c s₁ B hml hv
  obtain ⟨rfl, hsz, hP, hK, hD0, hN, hT⟩ := hv
  have hx := B.exec
  have hb := B.bytes
  have hr := B.returns
  have hts : ∀ w ∈ tblG, w.before _ s = true := fun w h => atoms_spec (ws := (wsG yX12_isWall cX12_isWall 2 (some .boolean))) B.pre w (List.mem_cons_of_mem _ h)
  have hown : s.vm.findClass RX12 = some m.cls := findClass_of_methodNamed B.named
  have hlocks := B.notSynchronized
  subst hsz
  have hD := hD0.self (sz := s.heap.size)
  generalize hAe : va_A [(b_o, (oc12 u_th u_sa b_rf b_ro b_im b_ke u_fd b_tp u_td u_fr u_to u_so u_wo u_fa u_bd u_nc b_nl u_co b_op b_ar u_le b_pi b_pa u_pd u_od b_ws b_hw u_la b_se b_re u_bk u_va u_su u_ce u_ho u_wy u_bt u_ps b_pt u_tg u_sn b_ip u_ic b_ah b_be b_me u_wd b_tr b_ld u_st b_wn u_id)), (b_ro, (arI G 5740 v_ro))] s.heap.size = A at hD hT ⊢
  have hA : ∀ q : Nat, s.heap.size ≤ q → A q := fun q h => by rw [← hAe]; exact Or.inr h
  have hS : va_S A s.heap s.heap [] := va_S.rf
  have hP : va_P G.1 vwCl [(b_o, (oc12 u_th u_sa b_rf b_ro b_im b_ke u_fd b_tp u_td u_fr u_to u_so u_wo u_fa u_bd u_nc b_nl u_co b_op b_ar u_le b_pi b_pa u_pd u_od b_ws b_hw u_la b_se b_re u_bk u_va u_su u_ce u_ho u_wy u_bt u_ps b_pt u_tg u_sn b_ip u_ic b_ah b_be b_me u_wd b_tr b_ld u_st b_wn u_id)), (b_ro, (arI G 5740 v_ro))] s.heap := hP
  have hl := lv_entry ([.ref b_o, .int p_1]) (n := 2) (Nat.le_of_ble_eq_true rfl)
  rw [lg_entry_eq]
  generalize (lg_sl ([.ref b_o, .int p_1]) ++ List.replicate (2 - (lg_sl ([.ref b_o, .int p_1])).length) Slot.unset).toArray = ls at hl ⊢
  have hl : lv_has ls 2 [(0, .ref b_o), (1, .int p_1)] := hl
  refine lv_aload_n hx hb dX12_isWall_0 rfl (lv_at hl 0 rfl) ?_
  refine va_get (D := G.1) (ci := 12) (v := .ref b_ro) (C := RX12) (T := TX12) (N := 52) hx hb hts inG_X12 hown hK hP 0 rfl rfl 3 (by decide) (hts _ fl_X12_13) (fun _ h9 => h9) rfl dX12_isWall_1 ?_
  refine lv_bipush (v := 10) hx hb dX12_isWall_4 (by decide) ?_
  refine lv_iload_n hx hb dX12_isWall_6 rfl (lv_at hl 1 rfl) ?_
  refine W.eq (g2 := F0 m 7 ls [.int p_1, .int 10, .ref b_ro]) rfl ?_
  refine lv_iadd hx hb dX12_isWall_7 ?_
  have t_1 : (10 + p_1).toInt = 10 + p_1.toInt := g5_iadd (a := 10) (b := p_1.toInt) (by decide) (by rfl) (by omega) (by omega)
  refine va_iald hx hb hK hP 1 0 rfl rfl (i := (10 + p_1)) (vp_in_iff.mpr ⟨by omega, by omega⟩) dX12_isWall_8 ?_
  refine lv_iconst (v := 1) hx hb dX12_isWall_9 (by decide) ?_
  refine lv_icmp_ne (tgt := 17) hx hb dX12_isWall_10 (by decide) (fun c_2 => ?_) (fun c_2 => ?_)
  ·
    have n_2 : gNe ((v_ro (10 + p_1).toNatClampNeg).toInt) (1) := by have z := g5_ne (a := (v_ro (10 + p_1).toNatClampNeg).toInt) (b := 1) (by rfl) (by decide) c_2; unfold gNe; omega
    refine lv_iconst (v := 0) hx hb dX12_isWall_17 (by decide) ?_
    exact W.zret (v := 0) hx hb hr rfl (fun t ht hW => ⟨⟨0, [(b_o, (oc12 u_th u_sa b_rf b_ro b_im b_ke u_fd b_tp u_td u_fr u_to u_so u_wo u_fa u_bd u_nc b_nl u_co b_op b_ar u_le b_pi b_pa u_pd u_od b_ws b_hw u_la b_se b_re u_bk u_va u_su u_ce u_ho u_wy u_bt u_ps b_pt u_tg u_sn b_ip u_ic b_ah b_be b_me u_wd b_tr b_ld u_st b_wn u_id)), (b_ro, (arI G 5740 v_ro))], rfl, ⟨0, ⟨by have zc_o_r : (0 : Int32).toInt = 0 := (by decide); omega, by have zc_o_r : (0 : Int32).toInt = 0 := (by decide); omega⟩, rfl, rfl⟩, by rw [ht]; exact hP.sub [0, 1] rfl, hD.sub [0, 1] (by decide) rfl⟩, hS.F ht⟩) hS.2.2 dX12_isWall_18
  ·
    have i_2 : (v_ro (10 + p_1).toNatClampNeg).toInt = 1 := by have z := g5_neN (a := (v_ro (10 + p_1).toNatClampNeg).toInt) (b := 1) (by rfl) (by decide) c_2; omega
    refine lv_iconst (v := 1) hx hb dX12_isWall_13 (by decide) ?_
    refine lv_goto (tgt := 18) hx hb dX12_isWall_14 (by decide) ?_
    exact W.zret (v := 1) hx hb hr rfl (fun t ht hW => ⟨⟨1, [(b_o, (oc12 u_th u_sa b_rf b_ro b_im b_ke u_fd b_tp u_td u_fr u_to u_so u_wo u_fa u_bd u_nc b_nl u_co b_op b_ar u_le b_pi b_pa u_pd u_od b_ws b_hw u_la b_se b_re u_bk u_va u_su u_ce u_ho u_wy u_bt u_ps b_pt u_tg u_sn b_ip u_ic b_ah b_be b_me u_wd b_tr b_ld u_st b_wn u_id)), (b_ro, (arI G 5740 v_ro))], rfl, ⟨1, ⟨by have zc_o_r : (1 : Int32).toInt = 1 := (by decide); omega, by have zc_o_r : (1 : Int32).toInt = 1 := (by decide); omega⟩, rfl, rfl⟩, by rw [ht]; exact hP.sub [0, 1] rfl, hD.sub [0, 1] (by decide) rfl⟩, hS.F ht⟩) hS.2.2 dX12_isWall_18
theorem dgX12_ofGlass_0 : ∀ r ∈ ([(0, (.aload_n 0, 1)), (1, (.getfield 13, 3)), (4, (.bipush 80, 2)), (6, (.iconst 5, 1)), (7, (.iload_n 1, 1)), (8, (.imul, 1)), (9, (.iadd, 1)), (10, (.iload_n 2, 1)), (11, (.iadd, 1)), (12, (.iaload, 1)), (13, (.ireturn, 1))] : List (Nat × (Instr × Nat))), decode cX12_ofGlass r.1 = .ok r.2 := by decide +kernel
theorem dX12_ofGlass_0 : decode cX12_ofGlass 0 = .ok (.aload_n 0, 1) := dgX12_ofGlass_0 (0, (.aload_n 0, 1)) (List.mem_of_getElem? (i := 0) rfl)
theorem dX12_ofGlass_1 : decode cX12_ofGlass 1 = .ok (.getfield 13, 3) := dgX12_ofGlass_0 (1, (.getfield 13, 3)) (List.mem_of_getElem? (i := 1) rfl)
theorem dX12_ofGlass_4 : decode cX12_ofGlass 4 = .ok (.bipush 80, 2) := dgX12_ofGlass_0 (4, (.bipush 80, 2)) (List.mem_of_getElem? (i := 2) rfl)
theorem dX12_ofGlass_6 : decode cX12_ofGlass 6 = .ok (.iconst 5, 1) := dgX12_ofGlass_0 (6, (.iconst 5, 1)) (List.mem_of_getElem? (i := 3) rfl)
theorem dX12_ofGlass_7 : decode cX12_ofGlass 7 = .ok (.iload_n 1, 1) := dgX12_ofGlass_0 (7, (.iload_n 1, 1)) (List.mem_of_getElem? (i := 4) rfl)
theorem dX12_ofGlass_8 : decode cX12_ofGlass 8 = .ok (.imul, 1) := dgX12_ofGlass_0 (8, (.imul, 1)) (List.mem_of_getElem? (i := 5) rfl)
theorem dX12_ofGlass_9 : decode cX12_ofGlass 9 = .ok (.iadd, 1) := dgX12_ofGlass_0 (9, (.iadd, 1)) (List.mem_of_getElem? (i := 6) rfl)
theorem dX12_ofGlass_10 : decode cX12_ofGlass 10 = .ok (.iload_n 2, 1) := dgX12_ofGlass_0 (10, (.iload_n 2, 1)) (List.mem_of_getElem? (i := 7) rfl)
theorem dX12_ofGlass_11 : decode cX12_ofGlass 11 = .ok (.iadd, 1) := dgX12_ofGlass_0 (11, (.iadd, 1)) (List.mem_of_getElem? (i := 8) rfl)
theorem dX12_ofGlass_12 : decode cX12_ofGlass 12 = .ok (.iaload, 1) := dgX12_ofGlass_0 (12, (.iaload, 1)) (List.mem_of_getElem? (i := 9) rfl)
theorem dX12_ofGlass_13 : decode cX12_ofGlass 13 = .ok (.ireturn, 1) := dgX12_ofGlass_0 (13, (.ireturn, 1)) (List.mem_of_getElem? (i := 10) rfl)
set_option maxHeartbeats 4000000 in
set_option maxRecDepth 100000 in
theorem n_ofGlass (l : Launch) (G : g5_G) (b_o b_ro b_rf b_im b_ke b_tp b_nl b_op b_ar b_pi b_pa b_ws b_hw b_se b_re b_pt b_ip b_ah b_be b_me b_tr b_ld b_wn : Nat) (sz : Nat) (u_th : Int32) (u_sa : Int32) (u_fd : Int32) (u_td : Int32) (u_fr : Int32) (u_to : Int32) (u_so : Int32) (u_fa : Int32) (u_bd : Int32) (u_nc : Int32) (u_co : Int32) (u_le : Int32) (u_pd : Int32) (u_od : Int32) (u_la : Int32) (u_bk : Int32) (u_ce : Int32) (u_ho : Int32) (u_wy : Int32) (u_bt : Int32) (u_ps : Int32) (u_tg : Int32) (u_sn : Int32) (u_ic : Int32) (u_wd : Int32) (u_id : Int32) (p_1 : Int32) (p_2 : Int32) (u_wo : Int64) (u_va : Int64) (u_su : Int64) (u_st : Int64) (v_ro : Nat → Int32) (h_u_td : 0 ≤ u_td.toInt ∧ u_td.toInt ≤ 400) (h_u_fr : 0 ≤ u_fr.toInt ∧ u_fr.toInt ≤ 400) (h_u_to : 0 ≤ u_to.toInt ∧ u_to.toInt ≤ 400) (h_u_bd : 0 ≤ u_bd.toInt ∧ u_bd.toInt ≤ 1) (h_u_nc : 0 ≤ u_nc.toInt ∧ u_nc.toInt ≤ 12) (h_u_co : 0 ≤ u_co.toInt ∧ u_co.toInt ≤ 400) (h_u_pd : 0 ≤ u_pd.toInt ∧ u_pd.toInt ≤ 400) (h_u_la : 0 ≤ u_la.toInt ∧ u_la.toInt ≤ 4840) (h_u_bk : 0 ≤ u_bk.toInt ∧ u_bk.toInt ≤ 1) (h_u_ce : 0 ≤ u_ce.toInt ∧ u_ce.toInt ≤ 63) (h_u_ho : 0 ≤ u_ho.toInt ∧ u_ho.toInt ≤ 23) (h_u_wy : 0 ≤ u_wy.toInt ∧ u_wy.toInt ≤ 3) (h_u_bt : 0 ≤ u_bt.toInt ∧ u_bt.toInt ≤ 1000000) (h_u_ps : 0 ≤ u_ps.toInt ∧ u_ps.toInt ≤ 200) (h_u_ic : 0 ≤ u_ic.toInt ∧ u_ic.toInt ≤ 1) (h_u_id : 0 ≤ u_id.toInt ∧ u_id.toInt ≤ 1) (h_p_1 : 0 ≤ p_1.toInt ∧ p_1.toInt ≤ 5) (h_p_2 : 0 ≤ p_2.toInt ∧ p_2.toInt ≤ 4) (r_ro : MI v_ro) : Met l yX12_ofGlass (wsG yX12_ofGlass cX12_ofGlass 3 (some .int)) ({ frames := 0, cells := 0, slots := 0, locals := 0 }) (va_Pc [.ref b_o, .int p_1, .int p_2] (g5_P G [(b_o, (oc12 u_th u_sa b_rf b_ro b_im b_ke u_fd b_tp u_td u_fr u_to u_so u_wo u_fa u_bd u_nc b_nl u_co b_op b_ar u_le b_pi b_pa u_pd u_od b_ws b_hw u_la b_se b_re u_bk u_va u_su u_ce u_ho u_wy u_bt u_ps b_pt u_tg u_sn b_ip u_ic b_ah b_be b_me u_wd b_tr b_ld u_st b_wn u_id)), (b_ro, (arI G 5740 v_ro))] sz)) (va_Qi (fun (r : Int32) (u : va_W) => (∃ (o_r : Int32), (r = o_r) ∧ (u = [(b_o, (oc12 u_th u_sa b_rf b_ro b_im b_ke u_fd b_tp u_td u_fr u_to u_so u_wo u_fa u_bd u_nc b_nl u_co b_op b_ar u_le b_pi b_pa u_pd u_od b_ws b_hw u_la b_se b_re u_bk u_va u_su u_ce u_ho u_wy u_bt u_ps b_pt u_tg u_sn b_ip u_ic b_ah b_be b_me u_wd b_tr b_ld u_st b_wn u_id)), (b_ro, (arI G 5740 v_ro))]))) (g5_B G (va_A [(b_o, (oc12 u_th u_sa b_rf b_ro b_im b_ke u_fd b_tp u_td u_fr u_to u_so u_wo u_fa u_bd u_nc b_nl u_co b_op b_ar u_le b_pi b_pa u_pd u_od b_ws b_hw u_la b_se b_re u_bk u_va u_su u_ce u_ho u_wy u_bt u_ps b_pt u_tg u_sn b_ip u_ic b_ah b_be b_me u_wd b_tr b_ld u_st b_wn u_id)), (b_ro, (arI G 5740 v_ro))] sz)) (va_A [(b_o, (oc12 u_th u_sa b_rf b_ro b_im b_ke u_fd b_tp u_td u_fr u_to u_so u_wo u_fa u_bd u_nc b_nl u_co b_op b_ar u_le b_pi b_pa u_pd u_od b_ws b_hw u_la b_se b_re u_bk u_va u_su u_ce u_ho u_wy u_bt u_ps b_pt u_tg u_sn b_ip u_ic b_ah b_be b_me u_wd b_tr b_ld u_st b_wn u_id)), (b_ro, (arI G 5740 v_ro))] sz)) 0 0 (va_A [(b_o, (oc12 u_th u_sa b_rf b_ro b_im b_ke u_fd b_tp u_td u_fr u_to u_so u_wo u_fa u_bd u_nc b_nl u_co b_op b_ar u_le b_pi b_pa u_pd u_od b_ws b_hw u_la b_se b_re u_bk u_va u_su u_ce u_ho u_wy u_bt u_ps b_pt u_tg u_sn b_ip u_ic b_ah b_be b_me u_wd b_tr b_ld u_st b_wn u_id)), (b_ro, (arI G 5740 v_ro))] sz) := by
  refine Met.ofW (cc := cX12_ofGlass) (maxL := 3) (ret := (some .int)) (by decide) rfl ?_
  intro p e s m args below meth c s₁ B hml hv
  obtain ⟨rfl, hsz, hP, hK, hD0, hN, hT⟩ := hv
  have hx := B.exec
  have hb := B.bytes
  have hr := B.returns
  have hts : ∀ w ∈ tblG, w.before _ s = true := fun w h => atoms_spec (ws := (wsG yX12_ofGlass cX12_ofGlass 3 (some .int))) B.pre w (List.mem_cons_of_mem _ h)
  have hown : s.vm.findClass RX12 = some m.cls := findClass_of_methodNamed B.named
  have hlocks := B.notSynchronized
  subst hsz
  have hD := hD0.self (sz := s.heap.size)
  generalize hAe : va_A [(b_o, (oc12 u_th u_sa b_rf b_ro b_im b_ke u_fd b_tp u_td u_fr u_to u_so u_wo u_fa u_bd u_nc b_nl u_co b_op b_ar u_le b_pi b_pa u_pd u_od b_ws b_hw u_la b_se b_re u_bk u_va u_su u_ce u_ho u_wy u_bt u_ps b_pt u_tg u_sn b_ip u_ic b_ah b_be b_me u_wd b_tr b_ld u_st b_wn u_id)), (b_ro, (arI G 5740 v_ro))] s.heap.size = A at hD hT ⊢
  have hA : ∀ q : Nat, s.heap.size ≤ q → A q := fun q h => by rw [← hAe]; exact Or.inr h
  have hS : va_S A s.heap s.heap [] := va_S.rf
  have hP : va_P G.1 vwCl [(b_o, (oc12 u_th u_sa b_rf b_ro b_im b_ke u_fd b_tp u_td u_fr u_to u_so u_wo u_fa u_bd u_nc b_nl u_co b_op b_ar u_le b_pi b_pa u_pd u_od b_ws b_hw u_la b_se b_re u_bk u_va u_su u_ce u_ho u_wy u_bt u_ps b_pt u_tg u_sn b_ip u_ic b_ah b_be b_me u_wd b_tr b_ld u_st b_wn u_id)), (b_ro, (arI G 5740 v_ro))] s.heap := hP
  have hl := lv_entry ([.ref b_o, .int p_1, .int p_2]) (n := 3) (Nat.le_of_ble_eq_true rfl)
  rw [lg_entry_eq]
  generalize (lg_sl ([.ref b_o, .int p_1, .int p_2]) ++ List.replicate (3 - (lg_sl ([.ref b_o, .int p_1, .int p_2])).length) Slot.unset).toArray = ls at hl ⊢
  have hl : lv_has ls 3 [(0, .ref b_o), (1, .int p_1), (2, .int p_2)] := hl
  refine lv_aload_n hx hb dX12_ofGlass_0 rfl (lv_at hl 0 rfl) ?_
  refine va_get (D := G.1) (ci := 12) (v := .ref b_ro) (C := RX12) (T := TX12) (N := 52) hx hb hts inG_X12 hown hK hP 0 rfl rfl 3 (by decide) (hts _ fl_X12_13) (fun _ h9 => h9) rfl dX12_ofGlass_1 ?_
  refine lv_bipush (v := 80) hx hb dX12_ofGlass_4 (by decide) ?_
  refine lv_iconst (v := 5) hx hb dX12_ofGlass_6 (by decide) ?_
  refine W.eq (g2 := F0 m 7 ls [.int 5, .int 80, .ref b_ro]) rfl ?_
  refine lv_iload_n hx hb dX12_ofGlass_7 rfl (lv_at hl 1 rfl) ?_
  refine lv_imul hx hb dX12_ofGlass_8 ?_
  have t_1 : (5 * p_1).toInt = 5 * p_1.toInt := g5_imul (a := 5) (b := p_1.toInt) (by decide) (by rfl) (by omega) (by omega)
  refine lv_iadd hx hb dX12_ofGlass_9 ?_
  have t_2 : (80 + (5 * p_1)).toInt = 80 + (5 * p_1).toInt := g5_iadd (a := 80) (b := (5 * p_1).toInt) (by decide) (by rfl) (by omega) (by omega)
  refine lv_iload_n hx hb dX12_ofGlass_10 rfl (lv_at hl 2 rfl) ?_
  refine lv_iadd hx hb dX12_ofGlass_11 ?_
  have t_3 : ((80 + (5 * p_1)) + p_2).toInt = (80 + (5 * p_1)).toInt + p_2.toInt := g5_iadd (a := (80 + (5 * p_1)).toInt) (b := p_2.toInt) (by rfl) (by rfl) (by omega) (by omega)
  refine W.eq (g2 := F0 m 12 ls [.int ((80 + (5 * p_1)) + p_2), .ref b_ro]) rfl ?_
  refine va_iald hx hb hK hP 1 0 rfl rfl (i := ((80 + (5 * p_1)) + p_2)) (vp_in_iff.mpr ⟨by omega, by omega⟩) dX12_ofGlass_12 ?_
  exact W.iret (v := (v_ro ((80 + (5 * p_1)) + p_2).toNatClampNeg)) hx hb hr (fun t ht hW => ⟨⟨(v_ro ((80 + (5 * p_1)) + p_2).toNatClampNeg), [(b_o, (oc12 u_th u_sa b_rf b_ro b_im b_ke u_fd b_tp u_td u_fr u_to u_so u_wo u_fa u_bd u_nc b_nl u_co b_op b_ar u_le b_pi b_pa u_pd u_od b_ws b_hw u_la b_se b_re u_bk u_va u_su u_ce u_ho u_wy u_bt u_ps b_pt u_tg u_sn b_ip u_ic b_ah b_be b_me u_wd b_tr b_ld u_st b_wn u_id)), (b_ro, (arI G 5740 v_ro))], rfl, ⟨(v_ro ((80 + (5 * p_1)) + p_2).toNatClampNeg), rfl, rfl⟩, by rw [ht]; exact hP.sub [0, 1] rfl, hD.sub [0, 1] (by decide) rfl⟩, hS.F ht⟩) hS.2.2 dX12_ofGlass_13
theorem dgX12_whereIs_0 : ∀ r ∈ ([(0, (.aload_n 0, 1)), (1, (.getfield 13, 3)), (4, (.bipush 110, 2)), (6, (.bipush 24, 2)), (8, (.iload_n 1, 1)), (9, (.imul, 1)), (10, (.iadd, 1)), (11, (.iload_n 2, 1)), (12, (.iadd, 1)), (13, (.iaload, 1)), (14, (.ireturn, 1))] : List (Nat × (Instr × Nat))), decode cX12_whereIs r.1 = .ok r.2 := by decide +kernel
theorem dX12_whereIs_0 : decode cX12_whereIs 0 = .ok (.aload_n 0, 1) := dgX12_whereIs_0 (0, (.aload_n 0, 1)) (List.mem_of_getElem? (i := 0) rfl)
theorem dX12_whereIs_1 : decode cX12_whereIs 1 = .ok (.getfield 13, 3) := dgX12_whereIs_0 (1, (.getfield 13, 3)) (List.mem_of_getElem? (i := 1) rfl)
theorem dX12_whereIs_4 : decode cX12_whereIs 4 = .ok (.bipush 110, 2) := dgX12_whereIs_0 (4, (.bipush 110, 2)) (List.mem_of_getElem? (i := 2) rfl)
theorem dX12_whereIs_6 : decode cX12_whereIs 6 = .ok (.bipush 24, 2) := dgX12_whereIs_0 (6, (.bipush 24, 2)) (List.mem_of_getElem? (i := 3) rfl)
theorem dX12_whereIs_8 : decode cX12_whereIs 8 = .ok (.iload_n 1, 1) := dgX12_whereIs_0 (8, (.iload_n 1, 1)) (List.mem_of_getElem? (i := 4) rfl)
theorem dX12_whereIs_9 : decode cX12_whereIs 9 = .ok (.imul, 1) := dgX12_whereIs_0 (9, (.imul, 1)) (List.mem_of_getElem? (i := 5) rfl)
theorem dX12_whereIs_10 : decode cX12_whereIs 10 = .ok (.iadd, 1) := dgX12_whereIs_0 (10, (.iadd, 1)) (List.mem_of_getElem? (i := 6) rfl)
theorem dX12_whereIs_11 : decode cX12_whereIs 11 = .ok (.iload_n 2, 1) := dgX12_whereIs_0 (11, (.iload_n 2, 1)) (List.mem_of_getElem? (i := 7) rfl)
theorem dX12_whereIs_12 : decode cX12_whereIs 12 = .ok (.iadd, 1) := dgX12_whereIs_0 (12, (.iadd, 1)) (List.mem_of_getElem? (i := 8) rfl)
theorem dX12_whereIs_13 : decode cX12_whereIs 13 = .ok (.iaload, 1) := dgX12_whereIs_0 (13, (.iaload, 1)) (List.mem_of_getElem? (i := 9) rfl)
theorem dX12_whereIs_14 : decode cX12_whereIs 14 = .ok (.ireturn, 1) := dgX12_whereIs_0 (14, (.ireturn, 1)) (List.mem_of_getElem? (i := 10) rfl)
set_option maxHeartbeats 4000000 in
set_option maxRecDepth 100000 in
theorem n_whereIs (l : Launch) (G : g5_G) (b_o b_ro b_rf b_im b_ke b_tp b_nl b_op b_ar b_pi b_pa b_ws b_hw b_se b_re b_pt b_ip b_ah b_be b_me b_tr b_ld b_wn : Nat) (sz : Nat) (u_th : Int32) (u_sa : Int32) (u_fd : Int32) (u_td : Int32) (u_fr : Int32) (u_to : Int32) (u_so : Int32) (u_fa : Int32) (u_bd : Int32) (u_nc : Int32) (u_co : Int32) (u_le : Int32) (u_pd : Int32) (u_od : Int32) (u_la : Int32) (u_bk : Int32) (u_ce : Int32) (u_ho : Int32) (u_wy : Int32) (u_bt : Int32) (u_ps : Int32) (u_tg : Int32) (u_sn : Int32) (u_ic : Int32) (u_wd : Int32) (u_id : Int32) (p_1 : Int32) (p_2 : Int32) (u_wo : Int64) (u_va : Int64) (u_su : Int64) (u_st : Int64) (v_ro : Nat → Int32) (h_u_td : 0 ≤ u_td.toInt ∧ u_td.toInt ≤ 400) (h_u_fr : 0 ≤ u_fr.toInt ∧ u_fr.toInt ≤ 400) (h_u_to : 0 ≤ u_to.toInt ∧ u_to.toInt ≤ 400) (h_u_bd : 0 ≤ u_bd.toInt ∧ u_bd.toInt ≤ 1) (h_u_nc : 0 ≤ u_nc.toInt ∧ u_nc.toInt ≤ 12) (h_u_co : 0 ≤ u_co.toInt ∧ u_co.toInt ≤ 400) (h_u_pd : 0 ≤ u_pd.toInt ∧ u_pd.toInt ≤ 400) (h_u_la : 0 ≤ u_la.toInt ∧ u_la.toInt ≤ 4840) (h_u_bk : 0 ≤ u_bk.toInt ∧ u_bk.toInt ≤ 1) (h_u_ce : 0 ≤ u_ce.toInt ∧ u_ce.toInt ≤ 63) (h_u_ho : 0 ≤ u_ho.toInt ∧ u_ho.toInt ≤ 23) (h_u_wy : 0 ≤ u_wy.toInt ∧ u_wy.toInt ≤ 3) (h_u_bt : 0 ≤ u_bt.toInt ∧ u_bt.toInt ≤ 1000000) (h_u_ps : 0 ≤ u_ps.toInt ∧ u_ps.toInt ≤ 200) (h_u_ic : 0 ≤ u_ic.toInt ∧ u_ic.toInt ≤ 1) (h_u_id : 0 ≤ u_id.toInt ∧ u_id.toInt ≤ 1) (h_p_1 : 0 ≤ p_1.toInt ∧ p_1.toInt ≤ 4) (h_p_2 : 0 ≤ p_2.toInt ∧ p_2.toInt ≤ 23) (r_ro : MI v_ro) : Met l yX12_whereIs (wsG yX12_whereIs cX12_whereIs 3 (some .int)) ({ frames := 0, cells := 0, slots := 0, locals := 0 }) (va_Pc [.ref b_o, .int p_1, .int p_2] (g5_P G [(b_o, (oc12 u_th u_sa b_rf b_ro b_im b_ke u_fd b_tp u_td u_fr u_to u_so u_wo u_fa u_bd u_nc b_nl u_co b_op b_ar u_le b_pi b_pa u_pd u_od b_ws b_hw u_la b_se b_re u_bk u_va u_su u_ce u_ho u_wy u_bt u_ps b_pt u_tg u_sn b_ip u_ic b_ah b_be b_me u_wd b_tr b_ld u_st b_wn u_id)), (b_ro, (arI G 5740 v_ro))] sz)) (va_Qi (fun (r : Int32) (u : va_W) => (∃ (o_r : Int32), (r = o_r) ∧ (u = [(b_o, (oc12 u_th u_sa b_rf b_ro b_im b_ke u_fd b_tp u_td u_fr u_to u_so u_wo u_fa u_bd u_nc b_nl u_co b_op b_ar u_le b_pi b_pa u_pd u_od b_ws b_hw u_la b_se b_re u_bk u_va u_su u_ce u_ho u_wy u_bt u_ps b_pt u_tg u_sn b_ip u_ic b_ah b_be b_me u_wd b_tr b_ld u_st b_wn u_id)), (b_ro, (arI G 5740 v_ro))]))) (g5_B G (va_A [(b_o, (oc12 u_th u_sa b_rf b_ro b_im b_ke u_fd b_tp u_td u_fr u_to u_so u_wo u_fa u_bd u_nc b_nl u_co b_op b_ar u_le b_pi b_pa u_pd u_od b_ws b_hw u_la b_se b_re u_bk u_va u_su u_ce u_ho u_wy u_bt u_ps b_pt u_tg u_sn b_ip u_ic b_ah b_be b_me u_wd b_tr b_ld u_st b_wn u_id)), (b_ro, (arI G 5740 v_ro))] sz)) (va_A [(b_o, (oc12 u_th u_sa b_rf b_ro b_im b_ke u_fd b_tp u_td u_fr u_to u_so u_wo u_fa u_bd u_nc b_nl u_co b_op b_ar u_le b_pi b_pa u_pd u_od b_ws b_hw u_la b_se b_re u_bk u_va u_su u_ce u_ho u_wy u_bt u_ps b_pt u_tg u_sn b_ip u_ic b_ah b_be b_me u_wd b_tr b_ld u_st b_wn u_id)), (b_ro, (arI G 5740 v_ro))] sz)) 0 0 (va_A [(b_o, (oc12 u_th u_sa b_rf b_ro b_im b_ke u_fd b_tp u_td u_fr u_to u_so u_wo u_fa u_bd u_nc b_nl u_co b_op b_ar u_le b_pi b_pa u_pd u_od b_ws b_hw u_la b_se b_re u_bk u_va u_su u_ce u_ho u_wy u_bt u_ps b_pt u_tg u_sn b_ip u_ic b_ah b_be b_me u_wd b_tr b_ld u_st b_wn u_id)), (b_ro, (arI G 5740 v_ro))] sz) := by
  refine Met.ofW (cc := cX12_whereIs) (maxL := 3) (ret := (some .int)) (by decide) rfl ?_
  intro p e s m args below meth c s₁ B hml hv
  obtain ⟨rfl, hsz, hP, hK, hD0, hN, hT⟩ := hv
  have hx := B.exec
  have hb := B.bytes
  have hr := B.returns
  have hts : ∀ w ∈ tblG, w.before _ s = true := fun w h => atoms_spec (ws := (wsG yX12_whereIs cX12_whereIs 3 (some .int))) B.pre w (List.mem_cons_of_mem _ h)
  have hown : s.vm.findClass RX12 = some m.cls := findClass_of_methodNamed B.named
  have hlocks := B.notSynchronized
  subst hsz
  have hD := hD0.self (sz := s.heap.size)
  generalize hAe : va_A [(b_o, (oc12 u_th u_sa b_rf b_ro b_im b_ke u_fd b_tp u_td u_fr u_to u_so u_wo u_fa u_bd u_nc b_nl u_co b_op b_ar u_le b_pi b_pa u_pd u_od b_ws b_hw u_la b_se b_re u_bk u_va u_su u_ce u_ho u_wy u_bt u_ps b_pt u_tg u_sn b_ip u_ic b_ah b_be b_me u_wd b_tr b_ld u_st b_wn u_id)), (b_ro, (arI G 5740 v_ro))] s.heap.size = A at hD hT ⊢
  have hA : ∀ q : Nat, s.heap.size ≤ q → A q := fun q h => by rw [← hAe]; exact Or.inr h
  have hS : va_S A s.heap s.heap [] := va_S.rf
  have hP : va_P G.1 vwCl [(b_o, (oc12 u_th u_sa b_rf b_ro b_im b_ke u_fd b_tp u_td u_fr u_to u_so u_wo u_fa u_bd u_nc b_nl u_co b_op b_ar u_le b_pi b_pa u_pd u_od b_ws b_hw u_la b_se b_re u_bk u_va u_su u_ce u_ho u_wy u_bt u_ps b_pt u_tg u_sn b_ip u_ic b_ah b_be b_me u_wd b_tr b_ld u_st b_wn u_id)), (b_ro, (arI G 5740 v_ro))] s.heap := hP
  have hl := lv_entry ([.ref b_o, .int p_1, .int p_2]) (n := 3) (Nat.le_of_ble_eq_true rfl)
  rw [lg_entry_eq]
  generalize (lg_sl ([.ref b_o, .int p_1, .int p_2]) ++ List.replicate (3 - (lg_sl ([.ref b_o, .int p_1, .int p_2])).length) Slot.unset).toArray = ls at hl ⊢
  have hl : lv_has ls 3 [(0, .ref b_o), (1, .int p_1), (2, .int p_2)] := hl
  refine lv_aload_n hx hb dX12_whereIs_0 rfl (lv_at hl 0 rfl) ?_
  refine va_get (D := G.1) (ci := 12) (v := .ref b_ro) (C := RX12) (T := TX12) (N := 52) hx hb hts inG_X12 hown hK hP 0 rfl rfl 3 (by decide) (hts _ fl_X12_13) (fun _ h9 => h9) rfl dX12_whereIs_1 ?_
  refine lv_bipush (v := 110) hx hb dX12_whereIs_4 (by decide) ?_
  refine lv_bipush (v := 24) hx hb dX12_whereIs_6 (by decide) ?_
  refine W.eq (g2 := F0 m 8 ls [.int 24, .int 110, .ref b_ro]) rfl ?_
  refine lv_iload_n hx hb dX12_whereIs_8 rfl (lv_at hl 1 rfl) ?_
  refine lv_imul hx hb dX12_whereIs_9 ?_
  have t_1 : (24 * p_1).toInt = 24 * p_1.toInt := g5_imul (a := 24) (b := p_1.toInt) (by decide) (by rfl) (by omega) (by omega)
  refine lv_iadd hx hb dX12_whereIs_10 ?_
  have t_2 : (110 + (24 * p_1)).toInt = 110 + (24 * p_1).toInt := g5_iadd (a := 110) (b := (24 * p_1).toInt) (by decide) (by rfl) (by omega) (by omega)
  refine lv_iload_n hx hb dX12_whereIs_11 rfl (lv_at hl 2 rfl) ?_
  refine lv_iadd hx hb dX12_whereIs_12 ?_
  have t_3 : ((110 + (24 * p_1)) + p_2).toInt = (110 + (24 * p_1)).toInt + p_2.toInt := g5_iadd (a := (110 + (24 * p_1)).toInt) (b := p_2.toInt) (by rfl) (by rfl) (by omega) (by omega)
  refine W.eq (g2 := F0 m 13 ls [.int ((110 + (24 * p_1)) + p_2), .ref b_ro]) rfl ?_
  refine va_iald hx hb hK hP 1 0 rfl rfl (i := ((110 + (24 * p_1)) + p_2)) (vp_in_iff.mpr ⟨by omega, by omega⟩) dX12_whereIs_13 ?_
  exact W.iret (v := (v_ro ((110 + (24 * p_1)) + p_2).toNatClampNeg)) hx hb hr (fun t ht hW => ⟨⟨(v_ro ((110 + (24 * p_1)) + p_2).toNatClampNeg), [(b_o, (oc12 u_th u_sa b_rf b_ro b_im b_ke u_fd b_tp u_td u_fr u_to u_so u_wo u_fa u_bd u_nc b_nl u_co b_op b_ar u_le b_pi b_pa u_pd u_od b_ws b_hw u_la b_se b_re u_bk u_va u_su u_ce u_ho u_wy u_bt u_ps b_pt u_tg u_sn b_ip u_ic b_ah b_be b_me u_wd b_tr b_ld u_st b_wn u_id)), (b_ro, (arI G 5740 v_ro))], rfl, ⟨(v_ro ((110 + (24 * p_1)) + p_2).toNatClampNeg), rfl, rfl⟩, by rw [ht]; exact hP.sub [0, 1] rfl, hD.sub [0, 1] (by decide) rfl⟩, hS.F ht⟩) hS.2.2 dX12_whereIs_14
theorem dgX12_change_0 : ∀ r ∈ ([(0, (.aload_n 0, 1)), (1, (.getfield 13, 3)), (4, (.iload_n 1, 1)), (5, (.iaload, 1)), (6, (.istore_n 3, 1)), (7, (.aload_n 0, 1)), (8, (.getfield 13, 3)), (11, (.iload_n 1, 1)), (12, (.iload_n 2, 1)), (13, (.iastore, 1)), (14, (.aload_n 0, 1)), (15, (.iload_n 3, 1)), (16, (.invokevirtual 117, 3)), (19, (.ireturn, 1))] : List (Nat × (Instr × Nat))), decode cX12_change r.1 = .ok r.2 := by decide +kernel
theorem dX12_change_0 : decode cX12_change 0 = .ok (.aload_n 0, 1) := dgX12_change_0 (0, (.aload_n 0, 1)) (List.mem_of_getElem? (i := 0) rfl)
theorem dX12_change_1 : decode cX12_change 1 = .ok (.getfield 13, 3) := dgX12_change_0 (1, (.getfield 13, 3)) (List.mem_of_getElem? (i := 1) rfl)
theorem dX12_change_4 : decode cX12_change 4 = .ok (.iload_n 1, 1) := dgX12_change_0 (4, (.iload_n 1, 1)) (List.mem_of_getElem? (i := 2) rfl)
theorem dX12_change_5 : decode cX12_change 5 = .ok (.iaload, 1) := dgX12_change_0 (5, (.iaload, 1)) (List.mem_of_getElem? (i := 3) rfl)
theorem dX12_change_6 : decode cX12_change 6 = .ok (.istore_n 3, 1) := dgX12_change_0 (6, (.istore_n 3, 1)) (List.mem_of_getElem? (i := 4) rfl)
theorem dX12_change_7 : decode cX12_change 7 = .ok (.aload_n 0, 1) := dgX12_change_0 (7, (.aload_n 0, 1)) (List.mem_of_getElem? (i := 5) rfl)
theorem dX12_change_8 : decode cX12_change 8 = .ok (.getfield 13, 3) := dgX12_change_0 (8, (.getfield 13, 3)) (List.mem_of_getElem? (i := 6) rfl)
theorem dX12_change_11 : decode cX12_change 11 = .ok (.iload_n 1, 1) := dgX12_change_0 (11, (.iload_n 1, 1)) (List.mem_of_getElem? (i := 7) rfl)
theorem dX12_change_12 : decode cX12_change 12 = .ok (.iload_n 2, 1) := dgX12_change_0 (12, (.iload_n 2, 1)) (List.mem_of_getElem? (i := 8) rfl)
theorem dX12_change_13 : decode cX12_change 13 = .ok (.iastore, 1) := dgX12_change_0 (13, (.iastore, 1)) (List.mem_of_getElem? (i := 9) rfl)
theorem dX12_change_14 : decode cX12_change 14 = .ok (.aload_n 0, 1) := dgX12_change_0 (14, (.aload_n 0, 1)) (List.mem_of_getElem? (i := 10) rfl)
theorem dX12_change_15 : decode cX12_change 15 = .ok (.iload_n 3, 1) := dgX12_change_0 (15, (.iload_n 3, 1)) (List.mem_of_getElem? (i := 11) rfl)
theorem dX12_change_16 : decode cX12_change 16 = .ok (.invokevirtual 117, 3) := dgX12_change_0 (16, (.invokevirtual 117, 3)) (List.mem_of_getElem? (i := 12) rfl)
theorem dX12_change_19 : decode cX12_change 19 = .ok (.ireturn, 1) := dgX12_change_0 (19, (.ireturn, 1)) (List.mem_of_getElem? (i := 13) rfl)
theorem ml_X12_117 : Cond.methodLink RX12 117 yX12_was ∈ tblG := tg 1403 (by decide +kernel) (by decide +kernel)
theorem im_X12_was : Cond.instanceMethod yX12_was ∈ tblG := tg 1405 (by decide +kernel) (by decide +kernel)
theorem se_X12_was : Cond.selects RX12 yX12_was yX12_was ∈ tblG := tg 35 (by decide +kernel) (by decide +kernel)
theorem cd_X12_was : Cond.code yX12_was cX12_was 2 (some .int) ∈ tblG := tg 1406 (by decide +kernel) (by decide +kernel)
theorem gW_X12_was : GoodIn tblG (wsG yX12_was cX12_was 2 (some .int)) := tgi cd_X12_was
theorem gV_X12_117 : GoodIn tblG (wsV RX12 117 RX12 yX12_was (wsG yX12_was cX12_was 2 (some .int))) := tgV ml_X12_117 im_X12_was se_X12_was ini_X12 gW_X12_was
theorem hv_X12_was : yX12_was.cls = RX12 ∧ yX12_was.cls ≠ "java/lang/invoke/MethodHandle" ∧ yX12_was.cls ≠ "java/lang/invoke/VarHandle" ∧ (parseMethodDescriptor yX12_was.desc).map (fun d => d.parameters.length) = some 1 := by decide +kernel
theorem dgX12_hasGlass_0 : ∀ r ∈ ([(0, (.iconst 0, 1)), (1, (.istore_n 2, 1)), (2, (.iconst 0, 1)), (3, (.istore_n 3, 1)), (4, (.iload_n 3, 1)), (5, (.aload_n 0, 1)), (6, (.getfield 13, 3)), (9, (.iconst 0, 1)), (10, (.iaload, 1)), (11, (.if_icmp .ge 29, 3)), (14, (.iload_n 2, 1)), (15, (.ifCond .ne 13, 3)), (18, (.aload_n 0, 1)), (19, (.iload_n 3, 1)), (20, (.iconst 0, 1)), (21, (.invokevirtual 134, 3)), (24, (.iload_n 1, 1)), (25, (.if_icmp .ne 7, 3)), (28, (.iconst 1, 1)), (29, (.goto 4, 3)), (32, (.iconst 0, 1)), (33, (.istore_n 2, 1)), (34, (.iinc 3 1, 3)), (37, (.goto (-33), 3)), (40, (.iload_n 2, 1)), (41, (.ireturn, 1))] : List (Nat × (Instr × Nat))), decode cX12_hasGlass r.1 = .ok r.2 := by decide +kernel
theorem dX12_hasGlass_0 : decode cX12_hasGlass 0 = .ok (.iconst 0, 1) := dgX12_hasGlass_0 (0, (.iconst 0, 1)) (List.mem_of_getElem? (i := 0) rfl)
theorem dX12_hasGlass_1 : decode cX12_hasGlass 1 = .ok (.istore_n 2, 1) := dgX12_hasGlass_0 (1, (.istore_n 2, 1)) (List.mem_of_getElem? (i := 1) rfl)
theorem dX12_hasGlass_2 : decode cX12_hasGlass 2 = .ok (.iconst 0, 1) := dgX12_hasGlass_0 (2, (.iconst 0, 1)) (List.mem_of_getElem? (i := 2) rfl)
theorem dX12_hasGlass_3 : decode cX12_hasGlass 3 = .ok (.istore_n 3, 1) := dgX12_hasGlass_0 (3, (.istore_n 3, 1)) (List.mem_of_getElem? (i := 3) rfl)
theorem dX12_hasGlass_4 : decode cX12_hasGlass 4 = .ok (.iload_n 3, 1) := dgX12_hasGlass_0 (4, (.iload_n 3, 1)) (List.mem_of_getElem? (i := 4) rfl)
theorem dX12_hasGlass_5 : decode cX12_hasGlass 5 = .ok (.aload_n 0, 1) := dgX12_hasGlass_0 (5, (.aload_n 0, 1)) (List.mem_of_getElem? (i := 5) rfl)
theorem dX12_hasGlass_6 : decode cX12_hasGlass 6 = .ok (.getfield 13, 3) := dgX12_hasGlass_0 (6, (.getfield 13, 3)) (List.mem_of_getElem? (i := 6) rfl)
theorem dX12_hasGlass_9 : decode cX12_hasGlass 9 = .ok (.iconst 0, 1) := dgX12_hasGlass_0 (9, (.iconst 0, 1)) (List.mem_of_getElem? (i := 7) rfl)
theorem dX12_hasGlass_10 : decode cX12_hasGlass 10 = .ok (.iaload, 1) := dgX12_hasGlass_0 (10, (.iaload, 1)) (List.mem_of_getElem? (i := 8) rfl)
theorem dX12_hasGlass_11 : decode cX12_hasGlass 11 = .ok (.if_icmp .ge 29, 3) := dgX12_hasGlass_0 (11, (.if_icmp .ge 29, 3)) (List.mem_of_getElem? (i := 9) rfl)
theorem dX12_hasGlass_14 : decode cX12_hasGlass 14 = .ok (.iload_n 2, 1) := dgX12_hasGlass_0 (14, (.iload_n 2, 1)) (List.mem_of_getElem? (i := 10) rfl)
theorem dX12_hasGlass_15 : decode cX12_hasGlass 15 = .ok (.ifCond .ne 13, 3) := dgX12_hasGlass_0 (15, (.ifCond .ne 13, 3)) (List.mem_of_getElem? (i := 11) rfl)
theorem dX12_hasGlass_18 : decode cX12_hasGlass 18 = .ok (.aload_n 0, 1) := dgX12_hasGlass_0 (18, (.aload_n 0, 1)) (List.mem_of_getElem? (i := 12) rfl)
theorem dX12_hasGlass_19 : decode cX12_hasGlass 19 = .ok (.iload_n 3, 1) := dgX12_hasGlass_0 (19, (.iload_n 3, 1)) (List.mem_of_getElem? (i := 13) rfl)
theorem dX12_hasGlass_20 : decode cX12_hasGlass 20 = .ok (.iconst 0, 1) := dgX12_hasGlass_0 (20, (.iconst 0, 1)) (List.mem_of_getElem? (i := 14) rfl)
theorem dX12_hasGlass_21 : decode cX12_hasGlass 21 = .ok (.invokevirtual 134, 3) := dgX12_hasGlass_0 (21, (.invokevirtual 134, 3)) (List.mem_of_getElem? (i := 15) rfl)
theorem dX12_hasGlass_24 : decode cX12_hasGlass 24 = .ok (.iload_n 1, 1) := dgX12_hasGlass_0 (24, (.iload_n 1, 1)) (List.mem_of_getElem? (i := 16) rfl)
theorem dX12_hasGlass_25 : decode cX12_hasGlass 25 = .ok (.if_icmp .ne 7, 3) := dgX12_hasGlass_0 (25, (.if_icmp .ne 7, 3)) (List.mem_of_getElem? (i := 17) rfl)
theorem dX12_hasGlass_28 : decode cX12_hasGlass 28 = .ok (.iconst 1, 1) := dgX12_hasGlass_0 (28, (.iconst 1, 1)) (List.mem_of_getElem? (i := 18) rfl)
theorem dX12_hasGlass_29 : decode cX12_hasGlass 29 = .ok (.goto 4, 3) := dgX12_hasGlass_0 (29, (.goto 4, 3)) (List.mem_of_getElem? (i := 19) rfl)
theorem dX12_hasGlass_32 : decode cX12_hasGlass 32 = .ok (.iconst 0, 1) := dgX12_hasGlass_0 (32, (.iconst 0, 1)) (List.mem_of_getElem? (i := 20) rfl)
theorem dX12_hasGlass_33 : decode cX12_hasGlass 33 = .ok (.istore_n 2, 1) := dgX12_hasGlass_0 (33, (.istore_n 2, 1)) (List.mem_of_getElem? (i := 21) rfl)
theorem dX12_hasGlass_34 : decode cX12_hasGlass 34 = .ok (.iinc 3 1, 3) := dgX12_hasGlass_0 (34, (.iinc 3 1, 3)) (List.mem_of_getElem? (i := 22) rfl)
theorem dX12_hasGlass_37 : decode cX12_hasGlass 37 = .ok (.goto (-33), 3) := dgX12_hasGlass_0 (37, (.goto (-33), 3)) (List.mem_of_getElem? (i := 23) rfl)
theorem dX12_hasGlass_40 : decode cX12_hasGlass 40 = .ok (.iload_n 2, 1) := dgX12_hasGlass_0 (40, (.iload_n 2, 1)) (List.mem_of_getElem? (i := 24) rfl)
theorem dX12_hasGlass_41 : decode cX12_hasGlass 41 = .ok (.ireturn, 1) := dgX12_hasGlass_0 (41, (.ireturn, 1)) (List.mem_of_getElem? (i := 25) rfl)
theorem ml_X12_134 : Cond.methodLink RX12 134 yX12_ofGlass ∈ tblG := tg 1387 (by decide +kernel) (by decide +kernel)
theorem im_X12_ofGlass : Cond.instanceMethod yX12_ofGlass ∈ tblG := tg 1389 (by decide +kernel) (by decide +kernel)
theorem se_X12_ofGlass : Cond.selects RX12 yX12_ofGlass yX12_ofGlass ∈ tblG := tg 31 (by decide +kernel) (by decide +kernel)
theorem cd_X12_ofGlass : Cond.code yX12_ofGlass cX12_ofGlass 3 (some .int) ∈ tblG := tg 1390 (by decide +kernel) (by decide +kernel)
theorem gW_X12_ofGlass : GoodIn tblG (wsG yX12_ofGlass cX12_ofGlass 3 (some .int)) := tgi cd_X12_ofGlass
theorem gV_X12_134 : GoodIn tblG (wsV RX12 134 RX12 yX12_ofGlass (wsG yX12_ofGlass cX12_ofGlass 3 (some .int))) := tgV ml_X12_134 im_X12_ofGlass se_X12_ofGlass ini_X12 gW_X12_ofGlass
theorem hv_X12_ofGlass : yX12_ofGlass.cls = RX12 ∧ yX12_ofGlass.cls ≠ "java/lang/invoke/MethodHandle" ∧ yX12_ofGlass.cls ≠ "java/lang/invoke/VarHandle" ∧ (parseMethodDescriptor yX12_ofGlass.desc).map (fun d => d.parameters.length) = some 2 := by decide +kernel
theorem dgX12_hasSpot_0 : ∀ r ∈ ([(0, (.iconst 0, 1)), (1, (.istore_n 2, 1)), (2, (.iconst 0, 1)), (3, (.istore_n 3, 1)), (4, (.iload_n 3, 1)), (5, (.aload_n 0, 1)), (6, (.getfield 13, 3)), (9, (.bipush 7, 2)), (11, (.iaload, 1)), (12, (.if_icmp .ge 35, 3)), (15, (.iload_n 2, 1)), (16, (.ifCond .ne 19, 3)), (19, (.aload_n 0, 1)), (20, (.getfield 13, 3)), (23, (.sipush 270, 3)), (26, (.iconst 3, 1)), (27, (.iload_n 3, 1)), (28, (.imul, 1)), (29, (.iadd, 1)), (30, (.iaload, 1)), (31, (.iload_n 1, 1)), (32, (.if_icmp .ne 7, 3)), (35, (.iconst 1, 1)), (36, (.goto 4, 3)), (39, (.iconst 0, 1)), (40, (.istore_n 2, 1)), (41, (.iinc 3 1, 3)), (44, (.goto (-40), 3)), (47, (.iload_n 2, 1)), (48, (.ireturn, 1))] : List (Nat × (Instr × Nat))), decode cX12_hasSpot r.1 = .ok r.2 := by decide +kernel
theorem dX12_hasSpot_0 : decode cX12_hasSpot 0 = .ok (.iconst 0, 1) := dgX12_hasSpot_0 (0, (.iconst 0, 1)) (List.mem_of_getElem? (i := 0) rfl)
theorem dX12_hasSpot_1 : decode cX12_hasSpot 1 = .ok (.istore_n 2, 1) := dgX12_hasSpot_0 (1, (.istore_n 2, 1)) (List.mem_of_getElem? (i := 1) rfl)
theorem dX12_hasSpot_2 : decode cX12_hasSpot 2 = .ok (.iconst 0, 1) := dgX12_hasSpot_0 (2, (.iconst 0, 1)) (List.mem_of_getElem? (i := 2) rfl)
theorem dX12_hasSpot_3 : decode cX12_hasSpot 3 = .ok (.istore_n 3, 1) := dgX12_hasSpot_0 (3, (.istore_n 3, 1)) (List.mem_of_getElem? (i := 3) rfl)
theorem dX12_hasSpot_4 : decode cX12_hasSpot 4 = .ok (.iload_n 3, 1) := dgX12_hasSpot_0 (4, (.iload_n 3, 1)) (List.mem_of_getElem? (i := 4) rfl)
theorem dX12_hasSpot_5 : decode cX12_hasSpot 5 = .ok (.aload_n 0, 1) := dgX12_hasSpot_0 (5, (.aload_n 0, 1)) (List.mem_of_getElem? (i := 5) rfl)
theorem dX12_hasSpot_6 : decode cX12_hasSpot 6 = .ok (.getfield 13, 3) := dgX12_hasSpot_0 (6, (.getfield 13, 3)) (List.mem_of_getElem? (i := 6) rfl)
theorem dX12_hasSpot_9 : decode cX12_hasSpot 9 = .ok (.bipush 7, 2) := dgX12_hasSpot_0 (9, (.bipush 7, 2)) (List.mem_of_getElem? (i := 7) rfl)
theorem dX12_hasSpot_11 : decode cX12_hasSpot 11 = .ok (.iaload, 1) := dgX12_hasSpot_0 (11, (.iaload, 1)) (List.mem_of_getElem? (i := 8) rfl)
theorem dX12_hasSpot_12 : decode cX12_hasSpot 12 = .ok (.if_icmp .ge 35, 3) := dgX12_hasSpot_0 (12, (.if_icmp .ge 35, 3)) (List.mem_of_getElem? (i := 9) rfl)
theorem dX12_hasSpot_15 : decode cX12_hasSpot 15 = .ok (.iload_n 2, 1) := dgX12_hasSpot_0 (15, (.iload_n 2, 1)) (List.mem_of_getElem? (i := 10) rfl)
theorem dX12_hasSpot_16 : decode cX12_hasSpot 16 = .ok (.ifCond .ne 19, 3) := dgX12_hasSpot_0 (16, (.ifCond .ne 19, 3)) (List.mem_of_getElem? (i := 11) rfl)
theorem dX12_hasSpot_19 : decode cX12_hasSpot 19 = .ok (.aload_n 0, 1) := dgX12_hasSpot_0 (19, (.aload_n 0, 1)) (List.mem_of_getElem? (i := 12) rfl)
theorem dX12_hasSpot_20 : decode cX12_hasSpot 20 = .ok (.getfield 13, 3) := dgX12_hasSpot_0 (20, (.getfield 13, 3)) (List.mem_of_getElem? (i := 13) rfl)
theorem dX12_hasSpot_23 : decode cX12_hasSpot 23 = .ok (.sipush 270, 3) := dgX12_hasSpot_0 (23, (.sipush 270, 3)) (List.mem_of_getElem? (i := 14) rfl)
theorem dX12_hasSpot_26 : decode cX12_hasSpot 26 = .ok (.iconst 3, 1) := dgX12_hasSpot_0 (26, (.iconst 3, 1)) (List.mem_of_getElem? (i := 15) rfl)
theorem dX12_hasSpot_27 : decode cX12_hasSpot 27 = .ok (.iload_n 3, 1) := dgX12_hasSpot_0 (27, (.iload_n 3, 1)) (List.mem_of_getElem? (i := 16) rfl)
theorem dX12_hasSpot_28 : decode cX12_hasSpot 28 = .ok (.imul, 1) := dgX12_hasSpot_0 (28, (.imul, 1)) (List.mem_of_getElem? (i := 17) rfl)
theorem dX12_hasSpot_29 : decode cX12_hasSpot 29 = .ok (.iadd, 1) := dgX12_hasSpot_0 (29, (.iadd, 1)) (List.mem_of_getElem? (i := 18) rfl)
theorem dX12_hasSpot_30 : decode cX12_hasSpot 30 = .ok (.iaload, 1) := dgX12_hasSpot_0 (30, (.iaload, 1)) (List.mem_of_getElem? (i := 19) rfl)
theorem dX12_hasSpot_31 : decode cX12_hasSpot 31 = .ok (.iload_n 1, 1) := dgX12_hasSpot_0 (31, (.iload_n 1, 1)) (List.mem_of_getElem? (i := 20) rfl)
theorem dX12_hasSpot_32 : decode cX12_hasSpot 32 = .ok (.if_icmp .ne 7, 3) := dgX12_hasSpot_0 (32, (.if_icmp .ne 7, 3)) (List.mem_of_getElem? (i := 21) rfl)
theorem dX12_hasSpot_35 : decode cX12_hasSpot 35 = .ok (.iconst 1, 1) := dgX12_hasSpot_0 (35, (.iconst 1, 1)) (List.mem_of_getElem? (i := 22) rfl)
theorem dX12_hasSpot_36 : decode cX12_hasSpot 36 = .ok (.goto 4, 3) := dgX12_hasSpot_0 (36, (.goto 4, 3)) (List.mem_of_getElem? (i := 23) rfl)
theorem dX12_hasSpot_39 : decode cX12_hasSpot 39 = .ok (.iconst 0, 1) := dgX12_hasSpot_0 (39, (.iconst 0, 1)) (List.mem_of_getElem? (i := 24) rfl)
theorem dX12_hasSpot_40 : decode cX12_hasSpot 40 = .ok (.istore_n 2, 1) := dgX12_hasSpot_0 (40, (.istore_n 2, 1)) (List.mem_of_getElem? (i := 25) rfl)
theorem dX12_hasSpot_41 : decode cX12_hasSpot 41 = .ok (.iinc 3 1, 3) := dgX12_hasSpot_0 (41, (.iinc 3 1, 3)) (List.mem_of_getElem? (i := 26) rfl)
theorem dX12_hasSpot_44 : decode cX12_hasSpot 44 = .ok (.goto (-40), 3) := dgX12_hasSpot_0 (44, (.goto (-40), 3)) (List.mem_of_getElem? (i := 27) rfl)
theorem dX12_hasSpot_47 : decode cX12_hasSpot 47 = .ok (.iload_n 2, 1) := dgX12_hasSpot_0 (47, (.iload_n 2, 1)) (List.mem_of_getElem? (i := 28) rfl)
theorem dX12_hasSpot_48 : decode cX12_hasSpot 48 = .ok (.ireturn, 1) := dgX12_hasSpot_0 (48, (.ireturn, 1)) (List.mem_of_getElem? (i := 29) rfl)
theorem dgX12_hasBody_0 : ∀ r ∈ ([(0, (.iconst 0, 1)), (1, (.istore_n 2, 1)), (2, (.iconst 0, 1)), (3, (.istore_n 3, 1)), (4, (.iload_n 3, 1)), (5, (.bipush 24, 2)), (7, (.aload_n 0, 1)), (8, (.getfield 13, 3)), (11, (.iconst 1, 1)), (12, (.iaload, 1)), (13, (.imul, 1)), (14, (.if_icmp .ge 32, 3)), (17, (.iload_n 2, 1)), (18, (.ifCond .ne 16, 3)), (21, (.aload_n 0, 1)), (22, (.getfield 13, 3)), (25, (.bipush 110, 2)), (27, (.iload_n 3, 1)), (28, (.iadd, 1)), (29, (.iaload, 1)), (30, (.iload_n 1, 1)), (31, (.if_icmp .ne 7, 3)), (34, (.iconst 1, 1)), (35, (.goto 4, 3)), (38, (.iconst 0, 1)), (39, (.istore_n 2, 1)), (40, (.iinc 3 1, 3)), (43, (.goto (-39), 3)), (46, (.iload_n 2, 1)), (47, (.ireturn, 1))] : List (Nat × (Instr × Nat))), decode cX12_hasBody r.1 = .ok r.2 := by decide +kernel
theorem dX12_hasBody_0 : decode cX12_hasBody 0 = .ok (.iconst 0, 1) := dgX12_hasBody_0 (0, (.iconst 0, 1)) (List.mem_of_getElem? (i := 0) rfl)
theorem dX12_hasBody_1 : decode cX12_hasBody 1 = .ok (.istore_n 2, 1) := dgX12_hasBody_0 (1, (.istore_n 2, 1)) (List.mem_of_getElem? (i := 1) rfl)
theorem dX12_hasBody_2 : decode cX12_hasBody 2 = .ok (.iconst 0, 1) := dgX12_hasBody_0 (2, (.iconst 0, 1)) (List.mem_of_getElem? (i := 2) rfl)
theorem dX12_hasBody_3 : decode cX12_hasBody 3 = .ok (.istore_n 3, 1) := dgX12_hasBody_0 (3, (.istore_n 3, 1)) (List.mem_of_getElem? (i := 3) rfl)
theorem dX12_hasBody_4 : decode cX12_hasBody 4 = .ok (.iload_n 3, 1) := dgX12_hasBody_0 (4, (.iload_n 3, 1)) (List.mem_of_getElem? (i := 4) rfl)
theorem dX12_hasBody_5 : decode cX12_hasBody 5 = .ok (.bipush 24, 2) := dgX12_hasBody_0 (5, (.bipush 24, 2)) (List.mem_of_getElem? (i := 5) rfl)
theorem dX12_hasBody_7 : decode cX12_hasBody 7 = .ok (.aload_n 0, 1) := dgX12_hasBody_0 (7, (.aload_n 0, 1)) (List.mem_of_getElem? (i := 6) rfl)
theorem dX12_hasBody_8 : decode cX12_hasBody 8 = .ok (.getfield 13, 3) := dgX12_hasBody_0 (8, (.getfield 13, 3)) (List.mem_of_getElem? (i := 7) rfl)
theorem dX12_hasBody_11 : decode cX12_hasBody 11 = .ok (.iconst 1, 1) := dgX12_hasBody_0 (11, (.iconst 1, 1)) (List.mem_of_getElem? (i := 8) rfl)
theorem dX12_hasBody_12 : decode cX12_hasBody 12 = .ok (.iaload, 1) := dgX12_hasBody_0 (12, (.iaload, 1)) (List.mem_of_getElem? (i := 9) rfl)
theorem dX12_hasBody_13 : decode cX12_hasBody 13 = .ok (.imul, 1) := dgX12_hasBody_0 (13, (.imul, 1)) (List.mem_of_getElem? (i := 10) rfl)
theorem dX12_hasBody_14 : decode cX12_hasBody 14 = .ok (.if_icmp .ge 32, 3) := dgX12_hasBody_0 (14, (.if_icmp .ge 32, 3)) (List.mem_of_getElem? (i := 11) rfl)
theorem dX12_hasBody_17 : decode cX12_hasBody 17 = .ok (.iload_n 2, 1) := dgX12_hasBody_0 (17, (.iload_n 2, 1)) (List.mem_of_getElem? (i := 12) rfl)
theorem dX12_hasBody_18 : decode cX12_hasBody 18 = .ok (.ifCond .ne 16, 3) := dgX12_hasBody_0 (18, (.ifCond .ne 16, 3)) (List.mem_of_getElem? (i := 13) rfl)
theorem dX12_hasBody_21 : decode cX12_hasBody 21 = .ok (.aload_n 0, 1) := dgX12_hasBody_0 (21, (.aload_n 0, 1)) (List.mem_of_getElem? (i := 14) rfl)
theorem dX12_hasBody_22 : decode cX12_hasBody 22 = .ok (.getfield 13, 3) := dgX12_hasBody_0 (22, (.getfield 13, 3)) (List.mem_of_getElem? (i := 15) rfl)
theorem dX12_hasBody_25 : decode cX12_hasBody 25 = .ok (.bipush 110, 2) := dgX12_hasBody_0 (25, (.bipush 110, 2)) (List.mem_of_getElem? (i := 16) rfl)
theorem dX12_hasBody_27 : decode cX12_hasBody 27 = .ok (.iload_n 3, 1) := dgX12_hasBody_0 (27, (.iload_n 3, 1)) (List.mem_of_getElem? (i := 17) rfl)
theorem dX12_hasBody_28 : decode cX12_hasBody 28 = .ok (.iadd, 1) := dgX12_hasBody_0 (28, (.iadd, 1)) (List.mem_of_getElem? (i := 18) rfl)
theorem dX12_hasBody_29 : decode cX12_hasBody 29 = .ok (.iaload, 1) := dgX12_hasBody_0 (29, (.iaload, 1)) (List.mem_of_getElem? (i := 19) rfl)
theorem dX12_hasBody_30 : decode cX12_hasBody 30 = .ok (.iload_n 1, 1) := dgX12_hasBody_0 (30, (.iload_n 1, 1)) (List.mem_of_getElem? (i := 20) rfl)
theorem dX12_hasBody_31 : decode cX12_hasBody 31 = .ok (.if_icmp .ne 7, 3) := dgX12_hasBody_0 (31, (.if_icmp .ne 7, 3)) (List.mem_of_getElem? (i := 21) rfl)
theorem dX12_hasBody_34 : decode cX12_hasBody 34 = .ok (.iconst 1, 1) := dgX12_hasBody_0 (34, (.iconst 1, 1)) (List.mem_of_getElem? (i := 22) rfl)
theorem dX12_hasBody_35 : decode cX12_hasBody 35 = .ok (.goto 4, 3) := dgX12_hasBody_0 (35, (.goto 4, 3)) (List.mem_of_getElem? (i := 23) rfl)
theorem dX12_hasBody_38 : decode cX12_hasBody 38 = .ok (.iconst 0, 1) := dgX12_hasBody_0 (38, (.iconst 0, 1)) (List.mem_of_getElem? (i := 24) rfl)
theorem dX12_hasBody_39 : decode cX12_hasBody 39 = .ok (.istore_n 2, 1) := dgX12_hasBody_0 (39, (.istore_n 2, 1)) (List.mem_of_getElem? (i := 25) rfl)
theorem dX12_hasBody_40 : decode cX12_hasBody 40 = .ok (.iinc 3 1, 3) := dgX12_hasBody_0 (40, (.iinc 3 1, 3)) (List.mem_of_getElem? (i := 26) rfl)
theorem dX12_hasBody_43 : decode cX12_hasBody 43 = .ok (.goto (-39), 3) := dgX12_hasBody_0 (43, (.goto (-39), 3)) (List.mem_of_getElem? (i := 27) rfl)
theorem dX12_hasBody_46 : decode cX12_hasBody 46 = .ok (.iload_n 2, 1) := dgX12_hasBody_0 (46, (.iload_n 2, 1)) (List.mem_of_getElem? (i := 28) rfl)
theorem dX12_hasBody_47 : decode cX12_hasBody 47 = .ok (.ireturn, 1) := dgX12_hasBody_0 (47, (.ireturn, 1)) (List.mem_of_getElem? (i := 29) rfl)
theorem dgX12_wall_0 : ∀ r ∈ ([(0, (.aload_n 0, 1)), (1, (.iconst 0, 1)), (2, (.putfield 107, 3)), (5, (.iload_n 1, 1)), (6, (.invokestatic 138, 3)), (9, (.ifCond .eq 13, 3)), (12, (.iload_n 2, 1)), (13, (.i2l, 1)), (14, (.lconst 0, 1)), (15, (.lconst 1, 1)), (16, (.invokestatic 121, 3)), (19, (.ifCond .ne 9, 3)), (22, (.aload_n 0, 1)), (23, (.iconst (-1), 1)), (24, (.invokevirtual 125, 3)), (27, (.ireturn, 1)), (28, (.iload_n 2, 1)), (29, (.iconst 1, 1)), (30, (.if_icmp .ne 45, 3)), (33, (.aload_n 0, 1)), (34, (.iload_n 1, 1)), (35, (.invokevirtual 142, 3)), (38, (.ifCond .ne 30, 3)), (41, (.aload_n 0, 1)), (42, (.iload_n 1, 1)), (43, (.invokevirtual 145, 3)), (46, (.ifCond .ne 22, 3)), (49, (.aload_n 0, 1)), (50, (.iload_n 1, 1)), (51, (.invokevirtual 148, 3)), (54, (.ifCond .ne 14, 3)), (57, (.aload_n 0, 1)), (58, (.getfield 13, 3)), (61, (.bipush 6, 2)), (63, (.iaload, 1)), (64, (.iload_n 1, 1)), (65, (.if_icmp .ne 10, 3)), (68, (.aload_n 0, 1)), (69, (.bipush (-3), 2)), (71, (.invokevirtual 125, 3))] : List (Nat × (Instr × Nat))), decode cX12_wall r.1 = .ok r.2 := by decide +kernel
theorem dX12_wall_0 : decode cX12_wall 0 = .ok (.aload_n 0, 1) := dgX12_wall_0 (0, (.aload_n 0, 1)) (List.mem_of_getElem? (i := 0) rfl)
theorem dX12_wall_1 : decode cX12_wall 1 = .ok (.iconst 0, 1) := dgX12_wall_0 (1, (.iconst 0, 1)) (List.mem_of_getElem? (i := 1) rfl)
theorem dX12_wall_2 : decode cX12_wall 2 = .ok (.putfield 107, 3) := dgX12_wall_0 (2, (.putfield 107, 3)) (List.mem_of_getElem? (i := 2) rfl)
theorem dX12_wall_5 : decode cX12_wall 5 = .ok (.iload_n 1, 1) := dgX12_wall_0 (5, (.iload_n 1, 1)) (List.mem_of_getElem? (i := 3) rfl)
theorem dX12_wall_6 : decode cX12_wall 6 = .ok (.invokestatic 138, 3) := dgX12_wall_0 (6, (.invokestatic 138, 3)) (List.mem_of_getElem? (i := 4) rfl)
theorem dX12_wall_9 : decode cX12_wall 9 = .ok (.ifCond .eq 13, 3) := dgX12_wall_0 (9, (.ifCond .eq 13, 3)) (List.mem_of_getElem? (i := 5) rfl)
theorem dX12_wall_12 : decode cX12_wall 12 = .ok (.iload_n 2, 1) := dgX12_wall_0 (12, (.iload_n 2, 1)) (List.mem_of_getElem? (i := 6) rfl)
theorem dX12_wall_13 : decode cX12_wall 13 = .ok (.i2l, 1) := dgX12_wall_0 (13, (.i2l, 1)) (List.mem_of_getElem? (i := 7) rfl)
theorem dX12_wall_14 : decode cX12_wall 14 = .ok (.lconst 0, 1) := dgX12_wall_0 (14, (.lconst 0, 1)) (List.mem_of_getElem? (i := 8) rfl)
theorem dX12_wall_15 : decode cX12_wall 15 = .ok (.lconst 1, 1) := dgX12_wall_0 (15, (.lconst 1, 1)) (List.mem_of_getElem? (i := 9) rfl)
theorem dX12_wall_16 : decode cX12_wall 16 = .ok (.invokestatic 121, 3) := dgX12_wall_0 (16, (.invokestatic 121, 3)) (List.mem_of_getElem? (i := 10) rfl)
theorem dX12_wall_19 : decode cX12_wall 19 = .ok (.ifCond .ne 9, 3) := dgX12_wall_0 (19, (.ifCond .ne 9, 3)) (List.mem_of_getElem? (i := 11) rfl)
theorem dX12_wall_22 : decode cX12_wall 22 = .ok (.aload_n 0, 1) := dgX12_wall_0 (22, (.aload_n 0, 1)) (List.mem_of_getElem? (i := 12) rfl)
theorem dX12_wall_23 : decode cX12_wall 23 = .ok (.iconst (-1), 1) := dgX12_wall_0 (23, (.iconst (-1), 1)) (List.mem_of_getElem? (i := 13) rfl)
theorem dX12_wall_24 : decode cX12_wall 24 = .ok (.invokevirtual 125, 3) := dgX12_wall_0 (24, (.invokevirtual 125, 3)) (List.mem_of_getElem? (i := 14) rfl)
theorem dX12_wall_27 : decode cX12_wall 27 = .ok (.ireturn, 1) := dgX12_wall_0 (27, (.ireturn, 1)) (List.mem_of_getElem? (i := 15) rfl)
theorem dX12_wall_28 : decode cX12_wall 28 = .ok (.iload_n 2, 1) := dgX12_wall_0 (28, (.iload_n 2, 1)) (List.mem_of_getElem? (i := 16) rfl)
theorem dX12_wall_29 : decode cX12_wall 29 = .ok (.iconst 1, 1) := dgX12_wall_0 (29, (.iconst 1, 1)) (List.mem_of_getElem? (i := 17) rfl)
theorem dX12_wall_30 : decode cX12_wall 30 = .ok (.if_icmp .ne 45, 3) := dgX12_wall_0 (30, (.if_icmp .ne 45, 3)) (List.mem_of_getElem? (i := 18) rfl)
theorem dX12_wall_33 : decode cX12_wall 33 = .ok (.aload_n 0, 1) := dgX12_wall_0 (33, (.aload_n 0, 1)) (List.mem_of_getElem? (i := 19) rfl)
theorem dX12_wall_34 : decode cX12_wall 34 = .ok (.iload_n 1, 1) := dgX12_wall_0 (34, (.iload_n 1, 1)) (List.mem_of_getElem? (i := 20) rfl)
theorem dX12_wall_35 : decode cX12_wall 35 = .ok (.invokevirtual 142, 3) := dgX12_wall_0 (35, (.invokevirtual 142, 3)) (List.mem_of_getElem? (i := 21) rfl)
theorem dX12_wall_38 : decode cX12_wall 38 = .ok (.ifCond .ne 30, 3) := dgX12_wall_0 (38, (.ifCond .ne 30, 3)) (List.mem_of_getElem? (i := 22) rfl)
theorem dX12_wall_41 : decode cX12_wall 41 = .ok (.aload_n 0, 1) := dgX12_wall_0 (41, (.aload_n 0, 1)) (List.mem_of_getElem? (i := 23) rfl)
theorem dX12_wall_42 : decode cX12_wall 42 = .ok (.iload_n 1, 1) := dgX12_wall_0 (42, (.iload_n 1, 1)) (List.mem_of_getElem? (i := 24) rfl)
theorem dX12_wall_43 : decode cX12_wall 43 = .ok (.invokevirtual 145, 3) := dgX12_wall_0 (43, (.invokevirtual 145, 3)) (List.mem_of_getElem? (i := 25) rfl)
theorem dX12_wall_46 : decode cX12_wall 46 = .ok (.ifCond .ne 22, 3) := dgX12_wall_0 (46, (.ifCond .ne 22, 3)) (List.mem_of_getElem? (i := 26) rfl)
theorem dX12_wall_49 : decode cX12_wall 49 = .ok (.aload_n 0, 1) := dgX12_wall_0 (49, (.aload_n 0, 1)) (List.mem_of_getElem? (i := 27) rfl)
theorem dX12_wall_50 : decode cX12_wall 50 = .ok (.iload_n 1, 1) := dgX12_wall_0 (50, (.iload_n 1, 1)) (List.mem_of_getElem? (i := 28) rfl)
theorem dX12_wall_51 : decode cX12_wall 51 = .ok (.invokevirtual 148, 3) := dgX12_wall_0 (51, (.invokevirtual 148, 3)) (List.mem_of_getElem? (i := 29) rfl)
theorem dX12_wall_54 : decode cX12_wall 54 = .ok (.ifCond .ne 14, 3) := dgX12_wall_0 (54, (.ifCond .ne 14, 3)) (List.mem_of_getElem? (i := 30) rfl)
theorem dX12_wall_57 : decode cX12_wall 57 = .ok (.aload_n 0, 1) := dgX12_wall_0 (57, (.aload_n 0, 1)) (List.mem_of_getElem? (i := 31) rfl)
theorem dX12_wall_58 : decode cX12_wall 58 = .ok (.getfield 13, 3) := dgX12_wall_0 (58, (.getfield 13, 3)) (List.mem_of_getElem? (i := 32) rfl)
theorem dX12_wall_61 : decode cX12_wall 61 = .ok (.bipush 6, 2) := dgX12_wall_0 (61, (.bipush 6, 2)) (List.mem_of_getElem? (i := 33) rfl)
theorem dX12_wall_63 : decode cX12_wall 63 = .ok (.iaload, 1) := dgX12_wall_0 (63, (.iaload, 1)) (List.mem_of_getElem? (i := 34) rfl)
theorem dX12_wall_64 : decode cX12_wall 64 = .ok (.iload_n 1, 1) := dgX12_wall_0 (64, (.iload_n 1, 1)) (List.mem_of_getElem? (i := 35) rfl)
theorem dX12_wall_65 : decode cX12_wall 65 = .ok (.if_icmp .ne 10, 3) := dgX12_wall_0 (65, (.if_icmp .ne 10, 3)) (List.mem_of_getElem? (i := 36) rfl)
theorem dX12_wall_68 : decode cX12_wall 68 = .ok (.aload_n 0, 1) := dgX12_wall_0 (68, (.aload_n 0, 1)) (List.mem_of_getElem? (i := 37) rfl)
theorem dX12_wall_69 : decode cX12_wall 69 = .ok (.bipush (-3), 2) := dgX12_wall_0 (69, (.bipush (-3), 2)) (List.mem_of_getElem? (i := 38) rfl)
theorem dX12_wall_71 : decode cX12_wall 71 = .ok (.invokevirtual 125, 3) := dgX12_wall_0 (71, (.invokevirtual 125, 3)) (List.mem_of_getElem? (i := 39) rfl)
theorem dgX12_wall_1 : ∀ r ∈ ([(74, (.ireturn, 1)), (75, (.aload_n 0, 1)), (76, (.bipush 10, 2)), (78, (.iload_n 1, 1)), (79, (.iadd, 1)), (80, (.iload_n 2, 1)), (81, (.invokevirtual 151, 3)), (84, (.ireturn, 1))] : List (Nat × (Instr × Nat))), decode cX12_wall r.1 = .ok r.2 := by decide +kernel
theorem dX12_wall_74 : decode cX12_wall 74 = .ok (.ireturn, 1) := dgX12_wall_1 (74, (.ireturn, 1)) (List.mem_of_getElem? (i := 0) rfl)
theorem dX12_wall_75 : decode cX12_wall 75 = .ok (.aload_n 0, 1) := dgX12_wall_1 (75, (.aload_n 0, 1)) (List.mem_of_getElem? (i := 1) rfl)
theorem dX12_wall_76 : decode cX12_wall 76 = .ok (.bipush 10, 2) := dgX12_wall_1 (76, (.bipush 10, 2)) (List.mem_of_getElem? (i := 2) rfl)
theorem dX12_wall_78 : decode cX12_wall 78 = .ok (.iload_n 1, 1) := dgX12_wall_1 (78, (.iload_n 1, 1)) (List.mem_of_getElem? (i := 3) rfl)
theorem dX12_wall_79 : decode cX12_wall 79 = .ok (.iadd, 1) := dgX12_wall_1 (79, (.iadd, 1)) (List.mem_of_getElem? (i := 4) rfl)
theorem dX12_wall_80 : decode cX12_wall 80 = .ok (.iload_n 2, 1) := dgX12_wall_1 (80, (.iload_n 2, 1)) (List.mem_of_getElem? (i := 5) rfl)
theorem dX12_wall_81 : decode cX12_wall 81 = .ok (.invokevirtual 151, 3) := dgX12_wall_1 (81, (.invokevirtual 151, 3)) (List.mem_of_getElem? (i := 6) rfl)
theorem dX12_wall_84 : decode cX12_wall 84 = .ok (.ireturn, 1) := dgX12_wall_1 (84, (.ireturn, 1)) (List.mem_of_getElem? (i := 7) rfl)
theorem fl_X12_107 : Cond.fieldLink RX12 107 "LateGlassModel" "thrown" "I" ∈ tblG := tg 1203 (by decide +kernel) (by decide +kernel)
set_option maxHeartbeats 4000000 in
set_option maxRecDepth 100000 in
theorem n_in_0_1 (l : Launch) (G : g5_G) (sz : Nat) (p_x : Int32) : Met l yX12_in (wsG yX12_in cX12_in 6 (some .boolean)) ({ frames := 0, cells := 0, slots := 0, locals := 0 }) (va_Pc [.long p_x.toInt64, .long 0, .long 1] (g5_P G [] sz)) (va_Qi (fun (r : Int32) (u : va_W) => ((p_x.toInt < 0 ∨ 1 < p_x.toInt) ∧ (r = 0) ∧ (u = [])) ∨ ((0 ≤ p_x.toInt ∧ p_x.toInt ≤ 1) ∧ (r = 1) ∧ (u = []))) (g5_B G (va_A [] sz)) (va_A [] sz)) 0 0 (va_A [] sz) := by
  refine Met.ofW (cc := cX12_in) (maxL := 6) (ret := (some .boolean)) (by decide) rfl ?_
  intro p e s m args below meth c s₁ B hml hv
  obtain ⟨rfl, hsz, hP, hK, hD0, hN, hT⟩ := hv
  have hx := B.exec
  have hb := B.bytes
  have hr := B.returns
  have hts : ∀ w ∈ tblG, w.before _ s = true := fun w h => atoms_spec (ws := (wsG yX12_in cX12_in 6 (some .boolean))) B.pre w (List.mem_cons_of_mem _ h)
  have hown : s.vm.findClass RX12 = some m.cls := findClass_of_methodNamed B.named
  have hlocks := B.notSynchronized
  subst hsz
  have hD := hD0.self (sz := s.heap.size)
  generalize hAe : va_A [] s.heap.size = A at hD hT ⊢
  have hA : ∀ q : Nat, s.heap.size ≤ q → A q := fun q h => by rw [← hAe]; exact Or.inr h
  have hS : va_S A s.heap s.heap [] := va_S.rf
  have hP : va_P G.1 vwCl [] s.heap := hP
  have hl := lv_entry ([.long p_x.toInt64, .long 0, .long 1]) (n := 6) (Nat.le_of_ble_eq_true rfl)
  rw [lg_entry_eq]
  generalize (lg_sl ([.long p_x.toInt64, .long 0, .long 1]) ++ List.replicate (6 - (lg_sl ([.long p_x.toInt64, .long 0, .long 1])).length) Slot.unset).toArray = ls at hl ⊢
  have hl : lv_has ls 6 [(0, .long p_x.toInt64), (2, .long 0), (4, .long 1)] := hl
  refine lv_lload_n hx hb dX12_in_0 rfl (lv_at hl 0 rfl) ?_
  refine lv_lload_n hx hb dX12_in_1 rfl (lv_at hl 1 rfl) ?_
  have tl_1 : p_x.toInt64.toInt = p_x.toInt := Int32.toInt_toInt64 _
  have tl_2 : (0 : Int64).toInt = 0 := (by decide)
  have tc_3 := g5_cmpI p_x.toInt64 0
  refine W.lcmp hx hb dX12_in_2 ?_
  refine lv_if_lt (tgt := 17) hx hb dX12_in_3 (by decide) (fun c_4 => ?_) (fun c_4 => ?_)
  ·
    have i_4 : (lg_cmp p_x.toInt64 0).toInt < 0 := by have z := g5_lt (a := (lg_cmp p_x.toInt64 0).toInt) (b := 0) (by rfl) (by decide) c_4; omega
    refine lv_iconst (v := 0) hx hb dX12_in_17 (by decide) ?_
    exact W.zret (v := 0) hx hb hr rfl (fun t ht hW => ⟨⟨0, [], rfl, Or.inl (⟨by omega, rfl, rfl⟩), by rw [ht]; exact hP.sub [] rfl, hD.sub [] (by decide) rfl⟩, hS.F ht⟩) hS.2.2 dX12_in_18
  ·
    have i_4 : (lg_cmp p_x.toInt64 0).toInt ≥ 0 := by have z := g5_ltN (a := (lg_cmp p_x.toInt64 0).toInt) (b := 0) (by rfl) (by decide) c_4; omega
    refine lv_lload_n hx hb dX12_in_6 rfl (lv_at hl 0 rfl) ?_
    refine lv_lload hx hb dX12_in_7 (lv_at hl 2 rfl) ?_
    have tl_5 : p_x.toInt64.toInt = p_x.toInt := Int32.toInt_toInt64 _
    have tl_6 : (1 : Int64).toInt = 1 := (by decide)
    have tc_7 := g5_cmpI p_x.toInt64 1
    refine W.lcmp hx hb dX12_in_9 ?_
    refine lv_if_gt (tgt := 17) hx hb dX12_in_10 (by decide) (fun c_8 => ?_) (fun c_8 => ?_)
    ·
      have i_8 : (lg_cmp p_x.toInt64 1).toInt > 0 := by have z := g5_gt (a := (lg_cmp p_x.toInt64 1).toInt) (b := 0) (by rfl) (by decide) c_8; omega
      refine lv_iconst (v := 0) hx hb dX12_in_17 (by decide) ?_
      exact W.zret (v := 0) hx hb hr rfl (fun t ht hW => ⟨⟨0, [], rfl, Or.inl (⟨by omega, rfl, rfl⟩), by rw [ht]; exact hP.sub [] rfl, hD.sub [] (by decide) rfl⟩, hS.F ht⟩) hS.2.2 dX12_in_18
    ·
      have i_8 : (lg_cmp p_x.toInt64 1).toInt ≤ 0 := by have z := g5_gtN (a := (lg_cmp p_x.toInt64 1).toInt) (b := 0) (by rfl) (by decide) c_8; omega
      refine lv_iconst (v := 1) hx hb dX12_in_13 (by decide) ?_
      refine lv_goto (tgt := 18) hx hb dX12_in_14 (by decide) ?_
      exact W.zret (v := 1) hx hb hr rfl (fun t ht hW => ⟨⟨1, [], rfl, Or.inr (⟨by omega, rfl, rfl⟩), by rw [ht]; exact hP.sub [] rfl, hD.sub [] (by decide) rfl⟩, hS.F ht⟩) hS.2.2 dX12_in_18
theorem ml_X12_125 : Cond.methodLink RX12 125 yX12_tell ∈ tblG := tg 1367 (by decide +kernel) (by decide +kernel)
theorem im_X12_tell : Cond.instanceMethod yX12_tell ∈ tblG := tg 1369 (by decide +kernel) (by decide +kernel)
theorem se_X12_tell : Cond.selects RX12 yX12_tell yX12_tell ∈ tblG := tg 29 (by decide +kernel) (by decide +kernel)
theorem cd_X12_tell : Cond.code yX12_tell cX12_tell 2 (some .int) ∈ tblG := tg 1370 (by decide +kernel) (by decide +kernel)
theorem gW_X12_tell : GoodIn tblG (wsG yX12_tell cX12_tell 2 (some .int)) := tgi cd_X12_tell
theorem gV_X12_125 : GoodIn tblG (wsV RX12 125 RX12 yX12_tell (wsG yX12_tell cX12_tell 2 (some .int))) := tgV ml_X12_125 im_X12_tell se_X12_tell ini_X12 gW_X12_tell
theorem hv_X12_tell : yX12_tell.cls = RX12 ∧ yX12_tell.cls ≠ "java/lang/invoke/MethodHandle" ∧ yX12_tell.cls ≠ "java/lang/invoke/VarHandle" ∧ (parseMethodDescriptor yX12_tell.desc).map (fun d => d.parameters.length) = some 1 := by decide +kernel
theorem ml_X12_151 : Cond.methodLink RX12 151 yX12_change ∈ tblG := tg 1399 (by decide +kernel) (by decide +kernel)
theorem im_X12_change : Cond.instanceMethod yX12_change ∈ tblG := tg 1401 (by decide +kernel) (by decide +kernel)
theorem se_X12_change : Cond.selects RX12 yX12_change yX12_change ∈ tblG := tg 34 (by decide +kernel) (by decide +kernel)
theorem cd_X12_change : Cond.code yX12_change cX12_change 4 (some .int) ∈ tblG := tg 1402 (by decide +kernel) (by decide +kernel)
theorem gW_X12_change : GoodIn tblG (wsG yX12_change cX12_change 4 (some .int)) := tgi cd_X12_change
theorem gV_X12_151 : GoodIn tblG (wsV RX12 151 RX12 yX12_change (wsG yX12_change cX12_change 4 (some .int))) := tgV ml_X12_151 im_X12_change se_X12_change ini_X12 gW_X12_change
theorem hv_X12_change : yX12_change.cls = RX12 ∧ yX12_change.cls ≠ "java/lang/invoke/MethodHandle" ∧ yX12_change.cls ≠ "java/lang/invoke/VarHandle" ∧ (parseMethodDescriptor yX12_change.desc).map (fun d => d.parameters.length) = some 2 := by decide +kernel
theorem ml_X12_142 : Cond.methodLink RX12 142 yX12_hasGlass ∈ tblG := tg 1383 (by decide +kernel) (by decide +kernel)
theorem im_X12_hasGlass : Cond.instanceMethod yX12_hasGlass ∈ tblG := tg 1385 (by decide +kernel) (by decide +kernel)
theorem se_X12_hasGlass : Cond.selects RX12 yX12_hasGlass yX12_hasGlass ∈ tblG := tg 30 (by decide +kernel) (by decide +kernel)
theorem cd_X12_hasGlass : Cond.code yX12_hasGlass cX12_hasGlass 4 (some .boolean) ∈ tblG := tg 1386 (by decide +kernel) (by decide +kernel)
theorem gW_X12_hasGlass : GoodIn tblG (wsG yX12_hasGlass cX12_hasGlass 4 (some .boolean)) := tgi cd_X12_hasGlass
theorem gV_X12_142 : GoodIn tblG (wsV RX12 142 RX12 yX12_hasGlass (wsG yX12_hasGlass cX12_hasGlass 4 (some .boolean))) := tgV ml_X12_142 im_X12_hasGlass se_X12_hasGlass ini_X12 gW_X12_hasGlass
theorem hv_X12_hasGlass : yX12_hasGlass.cls = RX12 ∧ yX12_hasGlass.cls ≠ "java/lang/invoke/MethodHandle" ∧ yX12_hasGlass.cls ≠ "java/lang/invoke/VarHandle" ∧ (parseMethodDescriptor yX12_hasGlass.desc).map (fun d => d.parameters.length) = some 1 := by decide +kernel
theorem ml_X12_145 : Cond.methodLink RX12 145 yX12_hasSpot ∈ tblG := tg 1391 (by decide +kernel) (by decide +kernel)
theorem im_X12_hasSpot : Cond.instanceMethod yX12_hasSpot ∈ tblG := tg 1393 (by decide +kernel) (by decide +kernel)
theorem se_X12_hasSpot : Cond.selects RX12 yX12_hasSpot yX12_hasSpot ∈ tblG := tg 32 (by decide +kernel) (by decide +kernel)
theorem cd_X12_hasSpot : Cond.code yX12_hasSpot cX12_hasSpot 4 (some .boolean) ∈ tblG := tg 1394 (by decide +kernel) (by decide +kernel)
theorem gW_X12_hasSpot : GoodIn tblG (wsG yX12_hasSpot cX12_hasSpot 4 (some .boolean)) := tgi cd_X12_hasSpot
theorem gV_X12_145 : GoodIn tblG (wsV RX12 145 RX12 yX12_hasSpot (wsG yX12_hasSpot cX12_hasSpot 4 (some .boolean))) := tgV ml_X12_145 im_X12_hasSpot se_X12_hasSpot ini_X12 gW_X12_hasSpot
theorem hv_X12_hasSpot : yX12_hasSpot.cls = RX12 ∧ yX12_hasSpot.cls ≠ "java/lang/invoke/MethodHandle" ∧ yX12_hasSpot.cls ≠ "java/lang/invoke/VarHandle" ∧ (parseMethodDescriptor yX12_hasSpot.desc).map (fun d => d.parameters.length) = some 1 := by decide +kernel
theorem ml_X12_148 : Cond.methodLink RX12 148 yX12_hasBody ∈ tblG := tg 1395 (by decide +kernel) (by decide +kernel)
theorem im_X12_hasBody : Cond.instanceMethod yX12_hasBody ∈ tblG := tg 1397 (by decide +kernel) (by decide +kernel)
theorem se_X12_hasBody : Cond.selects RX12 yX12_hasBody yX12_hasBody ∈ tblG := tg 33 (by decide +kernel) (by decide +kernel)
theorem cd_X12_hasBody : Cond.code yX12_hasBody cX12_hasBody 4 (some .boolean) ∈ tblG := tg 1398 (by decide +kernel) (by decide +kernel)
theorem gW_X12_hasBody : GoodIn tblG (wsG yX12_hasBody cX12_hasBody 4 (some .boolean)) := tgi cd_X12_hasBody
theorem gV_X12_148 : GoodIn tblG (wsV RX12 148 RX12 yX12_hasBody (wsG yX12_hasBody cX12_hasBody 4 (some .boolean))) := tgV ml_X12_148 im_X12_hasBody se_X12_hasBody ini_X12 gW_X12_hasBody
theorem hv_X12_hasBody : yX12_hasBody.cls = RX12 ∧ yX12_hasBody.cls ≠ "java/lang/invoke/MethodHandle" ∧ yX12_hasBody.cls ≠ "java/lang/invoke/VarHandle" ∧ (parseMethodDescriptor yX12_hasBody.desc).map (fun d => d.parameters.length) = some 1 := by decide +kernel
theorem dgX12_canHang_0 : ∀ r ∈ ([(0, (.aload_n 0, 1)), (1, (.iload_n 1, 1)), (2, (.invokevirtual 160, 3)), (5, (.ifCond .ne 23, 3)), (8, (.aload_n 0, 1)), (9, (.iload_n 1, 1)), (10, (.invokevirtual 142, 3)), (13, (.ifCond .ne 15, 3)), (16, (.aload_n 0, 1)), (17, (.iload_n 1, 1)), (18, (.invokevirtual 145, 3)), (21, (.ifCond .ne 7, 3)), (24, (.iconst 1, 1)), (25, (.goto 4, 3)), (28, (.iconst 0, 1)), (29, (.ireturn, 1))] : List (Nat × (Instr × Nat))), decode cX12_canHang r.1 = .ok r.2 := by decide +kernel
theorem dX12_canHang_0 : decode cX12_canHang 0 = .ok (.aload_n 0, 1) := dgX12_canHang_0 (0, (.aload_n 0, 1)) (List.mem_of_getElem? (i := 0) rfl)
theorem dX12_canHang_1 : decode cX12_canHang 1 = .ok (.iload_n 1, 1) := dgX12_canHang_0 (1, (.iload_n 1, 1)) (List.mem_of_getElem? (i := 1) rfl)
theorem dX12_canHang_2 : decode cX12_canHang 2 = .ok (.invokevirtual 160, 3) := dgX12_canHang_0 (2, (.invokevirtual 160, 3)) (List.mem_of_getElem? (i := 2) rfl)
theorem dX12_canHang_5 : decode cX12_canHang 5 = .ok (.ifCond .ne 23, 3) := dgX12_canHang_0 (5, (.ifCond .ne 23, 3)) (List.mem_of_getElem? (i := 3) rfl)
theorem dX12_canHang_8 : decode cX12_canHang 8 = .ok (.aload_n 0, 1) := dgX12_canHang_0 (8, (.aload_n 0, 1)) (List.mem_of_getElem? (i := 4) rfl)
theorem dX12_canHang_9 : decode cX12_canHang 9 = .ok (.iload_n 1, 1) := dgX12_canHang_0 (9, (.iload_n 1, 1)) (List.mem_of_getElem? (i := 5) rfl)
theorem dX12_canHang_10 : decode cX12_canHang 10 = .ok (.invokevirtual 142, 3) := dgX12_canHang_0 (10, (.invokevirtual 142, 3)) (List.mem_of_getElem? (i := 6) rfl)
theorem dX12_canHang_13 : decode cX12_canHang 13 = .ok (.ifCond .ne 15, 3) := dgX12_canHang_0 (13, (.ifCond .ne 15, 3)) (List.mem_of_getElem? (i := 7) rfl)
theorem dX12_canHang_16 : decode cX12_canHang 16 = .ok (.aload_n 0, 1) := dgX12_canHang_0 (16, (.aload_n 0, 1)) (List.mem_of_getElem? (i := 8) rfl)
theorem dX12_canHang_17 : decode cX12_canHang 17 = .ok (.iload_n 1, 1) := dgX12_canHang_0 (17, (.iload_n 1, 1)) (List.mem_of_getElem? (i := 9) rfl)
theorem dX12_canHang_18 : decode cX12_canHang 18 = .ok (.invokevirtual 145, 3) := dgX12_canHang_0 (18, (.invokevirtual 145, 3)) (List.mem_of_getElem? (i := 10) rfl)
theorem dX12_canHang_21 : decode cX12_canHang 21 = .ok (.ifCond .ne 7, 3) := dgX12_canHang_0 (21, (.ifCond .ne 7, 3)) (List.mem_of_getElem? (i := 11) rfl)
theorem dX12_canHang_24 : decode cX12_canHang 24 = .ok (.iconst 1, 1) := dgX12_canHang_0 (24, (.iconst 1, 1)) (List.mem_of_getElem? (i := 12) rfl)
theorem dX12_canHang_25 : decode cX12_canHang 25 = .ok (.goto 4, 3) := dgX12_canHang_0 (25, (.goto 4, 3)) (List.mem_of_getElem? (i := 13) rfl)
theorem dX12_canHang_28 : decode cX12_canHang 28 = .ok (.iconst 0, 1) := dgX12_canHang_0 (28, (.iconst 0, 1)) (List.mem_of_getElem? (i := 14) rfl)
theorem dX12_canHang_29 : decode cX12_canHang 29 = .ok (.ireturn, 1) := dgX12_canHang_0 (29, (.ireturn, 1)) (List.mem_of_getElem? (i := 15) rfl)
theorem ml_X12_160 : Cond.methodLink RX12 160 yX12_isWall ∈ tblG := tg 1422 (by decide +kernel) (by decide +kernel)
theorem im_X12_isWall : Cond.instanceMethod yX12_isWall ∈ tblG := tg 1424 (by decide +kernel) (by decide +kernel)
theorem se_X12_isWall : Cond.selects RX12 yX12_isWall yX12_isWall ∈ tblG := tg 37 (by decide +kernel) (by decide +kernel)
theorem cd_X12_isWall : Cond.code yX12_isWall cX12_isWall 2 (some .boolean) ∈ tblG := tg 1425 (by decide +kernel) (by decide +kernel)
theorem gW_X12_isWall : GoodIn tblG (wsG yX12_isWall cX12_isWall 2 (some .boolean)) := tgi cd_X12_isWall
theorem gV_X12_160 : GoodIn tblG (wsV RX12 160 RX12 yX12_isWall (wsG yX12_isWall cX12_isWall 2 (some .boolean))) := tgV ml_X12_160 im_X12_isWall se_X12_isWall ini_X12 gW_X12_isWall
theorem hv_X12_isWall : yX12_isWall.cls = RX12 ∧ yX12_isWall.cls ≠ "java/lang/invoke/MethodHandle" ∧ yX12_isWall.cls ≠ "java/lang/invoke/VarHandle" ∧ (parseMethodDescriptor yX12_isWall.desc).map (fun d => d.parameters.length) = some 1 := by decide +kernel
theorem dgX12_glass_0 : ∀ r ∈ ([(0, (.aload_n 0, 1)), (1, (.iconst 0, 1)), (2, (.putfield 107, 3)), (5, (.iload_n 1, 1)), (6, (.invokestatic 138, 3)), (9, (.ifCond .eq 28, 3)), (12, (.iconst 0, 1)), (13, (.iload_n 2, 1)), (14, (.invokestatic 163, 3)), (17, (.ifCond .eq 20, 3)), (20, (.iconst 1, 1)), (21, (.iload_n 3, 1)), (22, (.invokestatic 163, 3)), (25, (.ifCond .eq 12, 3)), (28, (.iconst 2, 1)), (29, (.iload 4, 2)), (31, (.invokestatic 163, 3)), (34, (.ifCond .ne 9, 3)), (37, (.aload_n 0, 1)), (38, (.iconst (-1), 1)), (39, (.invokevirtual 125, 3)), (42, (.ireturn, 1)), (43, (.aload_n 0, 1)), (44, (.iload_n 1, 1)), (45, (.invokevirtual 167, 3)), (48, (.ifCond .ne 10, 3)), (51, (.aload_n 0, 1)), (52, (.bipush (-3), 2)), (54, (.invokevirtual 125, 3)), (57, (.ireturn, 1)), (58, (.aload_n 0, 1)), (59, (.getfield 13, 3)), (62, (.iconst 0, 1)), (63, (.iaload, 1)), (64, (.istore 5, 2)), (66, (.iload 5, 2)), (68, (.bipush 6, 2)), (70, (.if_icmp .ne 10, 3)), (73, (.aload_n 0, 1)), (74, (.bipush (-5), 2))] : List (Nat × (Instr × Nat))), decode cX12_glass r.1 = .ok r.2 := by decide +kernel
theorem dX12_glass_0 : decode cX12_glass 0 = .ok (.aload_n 0, 1) := dgX12_glass_0 (0, (.aload_n 0, 1)) (List.mem_of_getElem? (i := 0) rfl)
theorem dX12_glass_1 : decode cX12_glass 1 = .ok (.iconst 0, 1) := dgX12_glass_0 (1, (.iconst 0, 1)) (List.mem_of_getElem? (i := 1) rfl)
theorem dX12_glass_2 : decode cX12_glass 2 = .ok (.putfield 107, 3) := dgX12_glass_0 (2, (.putfield 107, 3)) (List.mem_of_getElem? (i := 2) rfl)
theorem dX12_glass_5 : decode cX12_glass 5 = .ok (.iload_n 1, 1) := dgX12_glass_0 (5, (.iload_n 1, 1)) (List.mem_of_getElem? (i := 3) rfl)
theorem dX12_glass_6 : decode cX12_glass 6 = .ok (.invokestatic 138, 3) := dgX12_glass_0 (6, (.invokestatic 138, 3)) (List.mem_of_getElem? (i := 4) rfl)
theorem dX12_glass_9 : decode cX12_glass 9 = .ok (.ifCond .eq 28, 3) := dgX12_glass_0 (9, (.ifCond .eq 28, 3)) (List.mem_of_getElem? (i := 5) rfl)
theorem dX12_glass_12 : decode cX12_glass 12 = .ok (.iconst 0, 1) := dgX12_glass_0 (12, (.iconst 0, 1)) (List.mem_of_getElem? (i := 6) rfl)
theorem dX12_glass_13 : decode cX12_glass 13 = .ok (.iload_n 2, 1) := dgX12_glass_0 (13, (.iload_n 2, 1)) (List.mem_of_getElem? (i := 7) rfl)
theorem dX12_glass_14 : decode cX12_glass 14 = .ok (.invokestatic 163, 3) := dgX12_glass_0 (14, (.invokestatic 163, 3)) (List.mem_of_getElem? (i := 8) rfl)
theorem dX12_glass_17 : decode cX12_glass 17 = .ok (.ifCond .eq 20, 3) := dgX12_glass_0 (17, (.ifCond .eq 20, 3)) (List.mem_of_getElem? (i := 9) rfl)
theorem dX12_glass_20 : decode cX12_glass 20 = .ok (.iconst 1, 1) := dgX12_glass_0 (20, (.iconst 1, 1)) (List.mem_of_getElem? (i := 10) rfl)
theorem dX12_glass_21 : decode cX12_glass 21 = .ok (.iload_n 3, 1) := dgX12_glass_0 (21, (.iload_n 3, 1)) (List.mem_of_getElem? (i := 11) rfl)
theorem dX12_glass_22 : decode cX12_glass 22 = .ok (.invokestatic 163, 3) := dgX12_glass_0 (22, (.invokestatic 163, 3)) (List.mem_of_getElem? (i := 12) rfl)
theorem dX12_glass_25 : decode cX12_glass 25 = .ok (.ifCond .eq 12, 3) := dgX12_glass_0 (25, (.ifCond .eq 12, 3)) (List.mem_of_getElem? (i := 13) rfl)
theorem dX12_glass_28 : decode cX12_glass 28 = .ok (.iconst 2, 1) := dgX12_glass_0 (28, (.iconst 2, 1)) (List.mem_of_getElem? (i := 14) rfl)
theorem dX12_glass_29 : decode cX12_glass 29 = .ok (.iload 4, 2) := dgX12_glass_0 (29, (.iload 4, 2)) (List.mem_of_getElem? (i := 15) rfl)
theorem dX12_glass_31 : decode cX12_glass 31 = .ok (.invokestatic 163, 3) := dgX12_glass_0 (31, (.invokestatic 163, 3)) (List.mem_of_getElem? (i := 16) rfl)
theorem dX12_glass_34 : decode cX12_glass 34 = .ok (.ifCond .ne 9, 3) := dgX12_glass_0 (34, (.ifCond .ne 9, 3)) (List.mem_of_getElem? (i := 17) rfl)
theorem dX12_glass_37 : decode cX12_glass 37 = .ok (.aload_n 0, 1) := dgX12_glass_0 (37, (.aload_n 0, 1)) (List.mem_of_getElem? (i := 18) rfl)
theorem dX12_glass_38 : decode cX12_glass 38 = .ok (.iconst (-1), 1) := dgX12_glass_0 (38, (.iconst (-1), 1)) (List.mem_of_getElem? (i := 19) rfl)
theorem dX12_glass_39 : decode cX12_glass 39 = .ok (.invokevirtual 125, 3) := dgX12_glass_0 (39, (.invokevirtual 125, 3)) (List.mem_of_getElem? (i := 20) rfl)
theorem dX12_glass_42 : decode cX12_glass 42 = .ok (.ireturn, 1) := dgX12_glass_0 (42, (.ireturn, 1)) (List.mem_of_getElem? (i := 21) rfl)
theorem dX12_glass_43 : decode cX12_glass 43 = .ok (.aload_n 0, 1) := dgX12_glass_0 (43, (.aload_n 0, 1)) (List.mem_of_getElem? (i := 22) rfl)
theorem dX12_glass_44 : decode cX12_glass 44 = .ok (.iload_n 1, 1) := dgX12_glass_0 (44, (.iload_n 1, 1)) (List.mem_of_getElem? (i := 23) rfl)
theorem dX12_glass_45 : decode cX12_glass 45 = .ok (.invokevirtual 167, 3) := dgX12_glass_0 (45, (.invokevirtual 167, 3)) (List.mem_of_getElem? (i := 24) rfl)
theorem dX12_glass_48 : decode cX12_glass 48 = .ok (.ifCond .ne 10, 3) := dgX12_glass_0 (48, (.ifCond .ne 10, 3)) (List.mem_of_getElem? (i := 25) rfl)
theorem dX12_glass_51 : decode cX12_glass 51 = .ok (.aload_n 0, 1) := dgX12_glass_0 (51, (.aload_n 0, 1)) (List.mem_of_getElem? (i := 26) rfl)
theorem dX12_glass_52 : decode cX12_glass 52 = .ok (.bipush (-3), 2) := dgX12_glass_0 (52, (.bipush (-3), 2)) (List.mem_of_getElem? (i := 27) rfl)
theorem dX12_glass_54 : decode cX12_glass 54 = .ok (.invokevirtual 125, 3) := dgX12_glass_0 (54, (.invokevirtual 125, 3)) (List.mem_of_getElem? (i := 28) rfl)
theorem dX12_glass_57 : decode cX12_glass 57 = .ok (.ireturn, 1) := dgX12_glass_0 (57, (.ireturn, 1)) (List.mem_of_getElem? (i := 29) rfl)
theorem dX12_glass_58 : decode cX12_glass 58 = .ok (.aload_n 0, 1) := dgX12_glass_0 (58, (.aload_n 0, 1)) (List.mem_of_getElem? (i := 30) rfl)
theorem dX12_glass_59 : decode cX12_glass 59 = .ok (.getfield 13, 3) := dgX12_glass_0 (59, (.getfield 13, 3)) (List.mem_of_getElem? (i := 31) rfl)
theorem dX12_glass_62 : decode cX12_glass 62 = .ok (.iconst 0, 1) := dgX12_glass_0 (62, (.iconst 0, 1)) (List.mem_of_getElem? (i := 32) rfl)
theorem dX12_glass_63 : decode cX12_glass 63 = .ok (.iaload, 1) := dgX12_glass_0 (63, (.iaload, 1)) (List.mem_of_getElem? (i := 33) rfl)
theorem dX12_glass_64 : decode cX12_glass 64 = .ok (.istore 5, 2) := dgX12_glass_0 (64, (.istore 5, 2)) (List.mem_of_getElem? (i := 34) rfl)
theorem dX12_glass_66 : decode cX12_glass 66 = .ok (.iload 5, 2) := dgX12_glass_0 (66, (.iload 5, 2)) (List.mem_of_getElem? (i := 35) rfl)
theorem dX12_glass_68 : decode cX12_glass 68 = .ok (.bipush 6, 2) := dgX12_glass_0 (68, (.bipush 6, 2)) (List.mem_of_getElem? (i := 36) rfl)
theorem dX12_glass_70 : decode cX12_glass 70 = .ok (.if_icmp .ne 10, 3) := dgX12_glass_0 (70, (.if_icmp .ne 10, 3)) (List.mem_of_getElem? (i := 37) rfl)
theorem dX12_glass_73 : decode cX12_glass 73 = .ok (.aload_n 0, 1) := dgX12_glass_0 (73, (.aload_n 0, 1)) (List.mem_of_getElem? (i := 38) rfl)
theorem dX12_glass_74 : decode cX12_glass 74 = .ok (.bipush (-5), 2) := dgX12_glass_0 (74, (.bipush (-5), 2)) (List.mem_of_getElem? (i := 39) rfl)
theorem dgX12_glass_1 : ∀ r ∈ ([(76, (.invokevirtual 125, 3)), (79, (.ireturn, 1)), (80, (.bipush 80, 2)), (82, (.iconst 5, 1)), (83, (.iload 5, 2)), (85, (.imul, 1)), (86, (.iadd, 1)), (87, (.istore 6, 2)), (89, (.aload_n 0, 1)), (90, (.getfield 13, 3)), (93, (.iload 6, 2)), (95, (.iload_n 1, 1)), (96, (.iastore, 1)), (97, (.aload_n 0, 1)), (98, (.getfield 13, 3)), (101, (.iload 6, 2)), (103, (.iconst 1, 1)), (104, (.iadd, 1)), (105, (.iload_n 2, 1)), (106, (.iastore, 1)), (107, (.aload_n 0, 1)), (108, (.getfield 13, 3)), (111, (.iload 6, 2)), (113, (.iconst 2, 1)), (114, (.iadd, 1)), (115, (.iload_n 3, 1)), (116, (.iastore, 1)), (117, (.aload_n 0, 1)), (118, (.getfield 13, 3)), (121, (.iload 6, 2)), (123, (.iconst 3, 1)), (124, (.iadd, 1)), (125, (.iload 4, 2)), (127, (.iastore, 1)), (128, (.aload_n 0, 1)), (129, (.getfield 13, 3)), (132, (.iload 6, 2)), (134, (.iconst 4, 1)), (135, (.iadd, 1)), (136, (.iconst 0, 1))] : List (Nat × (Instr × Nat))), decode cX12_glass r.1 = .ok r.2 := by decide +kernel
theorem dX12_glass_76 : decode cX12_glass 76 = .ok (.invokevirtual 125, 3) := dgX12_glass_1 (76, (.invokevirtual 125, 3)) (List.mem_of_getElem? (i := 0) rfl)
theorem dX12_glass_79 : decode cX12_glass 79 = .ok (.ireturn, 1) := dgX12_glass_1 (79, (.ireturn, 1)) (List.mem_of_getElem? (i := 1) rfl)
theorem dX12_glass_80 : decode cX12_glass 80 = .ok (.bipush 80, 2) := dgX12_glass_1 (80, (.bipush 80, 2)) (List.mem_of_getElem? (i := 2) rfl)
theorem dX12_glass_82 : decode cX12_glass 82 = .ok (.iconst 5, 1) := dgX12_glass_1 (82, (.iconst 5, 1)) (List.mem_of_getElem? (i := 3) rfl)
theorem dX12_glass_83 : decode cX12_glass 83 = .ok (.iload 5, 2) := dgX12_glass_1 (83, (.iload 5, 2)) (List.mem_of_getElem? (i := 4) rfl)
theorem dX12_glass_85 : decode cX12_glass 85 = .ok (.imul, 1) := dgX12_glass_1 (85, (.imul, 1)) (List.mem_of_getElem? (i := 5) rfl)
theorem dX12_glass_86 : decode cX12_glass 86 = .ok (.iadd, 1) := dgX12_glass_1 (86, (.iadd, 1)) (List.mem_of_getElem? (i := 6) rfl)
theorem dX12_glass_87 : decode cX12_glass 87 = .ok (.istore 6, 2) := dgX12_glass_1 (87, (.istore 6, 2)) (List.mem_of_getElem? (i := 7) rfl)
theorem dX12_glass_89 : decode cX12_glass 89 = .ok (.aload_n 0, 1) := dgX12_glass_1 (89, (.aload_n 0, 1)) (List.mem_of_getElem? (i := 8) rfl)
theorem dX12_glass_90 : decode cX12_glass 90 = .ok (.getfield 13, 3) := dgX12_glass_1 (90, (.getfield 13, 3)) (List.mem_of_getElem? (i := 9) rfl)
theorem dX12_glass_93 : decode cX12_glass 93 = .ok (.iload 6, 2) := dgX12_glass_1 (93, (.iload 6, 2)) (List.mem_of_getElem? (i := 10) rfl)
theorem dX12_glass_95 : decode cX12_glass 95 = .ok (.iload_n 1, 1) := dgX12_glass_1 (95, (.iload_n 1, 1)) (List.mem_of_getElem? (i := 11) rfl)
theorem dX12_glass_96 : decode cX12_glass 96 = .ok (.iastore, 1) := dgX12_glass_1 (96, (.iastore, 1)) (List.mem_of_getElem? (i := 12) rfl)
theorem dX12_glass_97 : decode cX12_glass 97 = .ok (.aload_n 0, 1) := dgX12_glass_1 (97, (.aload_n 0, 1)) (List.mem_of_getElem? (i := 13) rfl)
theorem dX12_glass_98 : decode cX12_glass 98 = .ok (.getfield 13, 3) := dgX12_glass_1 (98, (.getfield 13, 3)) (List.mem_of_getElem? (i := 14) rfl)
theorem dX12_glass_101 : decode cX12_glass 101 = .ok (.iload 6, 2) := dgX12_glass_1 (101, (.iload 6, 2)) (List.mem_of_getElem? (i := 15) rfl)
theorem dX12_glass_103 : decode cX12_glass 103 = .ok (.iconst 1, 1) := dgX12_glass_1 (103, (.iconst 1, 1)) (List.mem_of_getElem? (i := 16) rfl)
theorem dX12_glass_104 : decode cX12_glass 104 = .ok (.iadd, 1) := dgX12_glass_1 (104, (.iadd, 1)) (List.mem_of_getElem? (i := 17) rfl)
theorem dX12_glass_105 : decode cX12_glass 105 = .ok (.iload_n 2, 1) := dgX12_glass_1 (105, (.iload_n 2, 1)) (List.mem_of_getElem? (i := 18) rfl)
theorem dX12_glass_106 : decode cX12_glass 106 = .ok (.iastore, 1) := dgX12_glass_1 (106, (.iastore, 1)) (List.mem_of_getElem? (i := 19) rfl)
theorem dX12_glass_107 : decode cX12_glass 107 = .ok (.aload_n 0, 1) := dgX12_glass_1 (107, (.aload_n 0, 1)) (List.mem_of_getElem? (i := 20) rfl)
theorem dX12_glass_108 : decode cX12_glass 108 = .ok (.getfield 13, 3) := dgX12_glass_1 (108, (.getfield 13, 3)) (List.mem_of_getElem? (i := 21) rfl)
theorem dX12_glass_111 : decode cX12_glass 111 = .ok (.iload 6, 2) := dgX12_glass_1 (111, (.iload 6, 2)) (List.mem_of_getElem? (i := 22) rfl)
theorem dX12_glass_113 : decode cX12_glass 113 = .ok (.iconst 2, 1) := dgX12_glass_1 (113, (.iconst 2, 1)) (List.mem_of_getElem? (i := 23) rfl)
theorem dX12_glass_114 : decode cX12_glass 114 = .ok (.iadd, 1) := dgX12_glass_1 (114, (.iadd, 1)) (List.mem_of_getElem? (i := 24) rfl)
theorem dX12_glass_115 : decode cX12_glass 115 = .ok (.iload_n 3, 1) := dgX12_glass_1 (115, (.iload_n 3, 1)) (List.mem_of_getElem? (i := 25) rfl)
theorem dX12_glass_116 : decode cX12_glass 116 = .ok (.iastore, 1) := dgX12_glass_1 (116, (.iastore, 1)) (List.mem_of_getElem? (i := 26) rfl)
theorem dX12_glass_117 : decode cX12_glass 117 = .ok (.aload_n 0, 1) := dgX12_glass_1 (117, (.aload_n 0, 1)) (List.mem_of_getElem? (i := 27) rfl)
theorem dX12_glass_118 : decode cX12_glass 118 = .ok (.getfield 13, 3) := dgX12_glass_1 (118, (.getfield 13, 3)) (List.mem_of_getElem? (i := 28) rfl)
theorem dX12_glass_121 : decode cX12_glass 121 = .ok (.iload 6, 2) := dgX12_glass_1 (121, (.iload 6, 2)) (List.mem_of_getElem? (i := 29) rfl)
theorem dX12_glass_123 : decode cX12_glass 123 = .ok (.iconst 3, 1) := dgX12_glass_1 (123, (.iconst 3, 1)) (List.mem_of_getElem? (i := 30) rfl)
theorem dX12_glass_124 : decode cX12_glass 124 = .ok (.iadd, 1) := dgX12_glass_1 (124, (.iadd, 1)) (List.mem_of_getElem? (i := 31) rfl)
theorem dX12_glass_125 : decode cX12_glass 125 = .ok (.iload 4, 2) := dgX12_glass_1 (125, (.iload 4, 2)) (List.mem_of_getElem? (i := 32) rfl)
theorem dX12_glass_127 : decode cX12_glass 127 = .ok (.iastore, 1) := dgX12_glass_1 (127, (.iastore, 1)) (List.mem_of_getElem? (i := 33) rfl)
theorem dX12_glass_128 : decode cX12_glass 128 = .ok (.aload_n 0, 1) := dgX12_glass_1 (128, (.aload_n 0, 1)) (List.mem_of_getElem? (i := 34) rfl)
theorem dX12_glass_129 : decode cX12_glass 129 = .ok (.getfield 13, 3) := dgX12_glass_1 (129, (.getfield 13, 3)) (List.mem_of_getElem? (i := 35) rfl)
theorem dX12_glass_132 : decode cX12_glass 132 = .ok (.iload 6, 2) := dgX12_glass_1 (132, (.iload 6, 2)) (List.mem_of_getElem? (i := 36) rfl)
theorem dX12_glass_134 : decode cX12_glass 134 = .ok (.iconst 4, 1) := dgX12_glass_1 (134, (.iconst 4, 1)) (List.mem_of_getElem? (i := 37) rfl)
theorem dX12_glass_135 : decode cX12_glass 135 = .ok (.iadd, 1) := dgX12_glass_1 (135, (.iadd, 1)) (List.mem_of_getElem? (i := 38) rfl)
theorem dX12_glass_136 : decode cX12_glass 136 = .ok (.iconst 0, 1) := dgX12_glass_1 (136, (.iconst 0, 1)) (List.mem_of_getElem? (i := 39) rfl)
theorem dgX12_glass_2 : ∀ r ∈ ([(137, (.iastore, 1)), (138, (.aload_n 0, 1)), (139, (.getfield 13, 3)), (142, (.iconst 0, 1)), (143, (.dup2, 1)), (144, (.iaload, 1)), (145, (.iconst 1, 1)), (146, (.iadd, 1)), (147, (.iastore, 1)), (148, (.aload_n 0, 1)), (149, (.iload 5, 2)), (151, (.invokevirtual 125, 3)), (154, (.ireturn, 1))] : List (Nat × (Instr × Nat))), decode cX12_glass r.1 = .ok r.2 := by decide +kernel
theorem dX12_glass_137 : decode cX12_glass 137 = .ok (.iastore, 1) := dgX12_glass_2 (137, (.iastore, 1)) (List.mem_of_getElem? (i := 0) rfl)
theorem dX12_glass_138 : decode cX12_glass 138 = .ok (.aload_n 0, 1) := dgX12_glass_2 (138, (.aload_n 0, 1)) (List.mem_of_getElem? (i := 1) rfl)
theorem dX12_glass_139 : decode cX12_glass 139 = .ok (.getfield 13, 3) := dgX12_glass_2 (139, (.getfield 13, 3)) (List.mem_of_getElem? (i := 2) rfl)
theorem dX12_glass_142 : decode cX12_glass 142 = .ok (.iconst 0, 1) := dgX12_glass_2 (142, (.iconst 0, 1)) (List.mem_of_getElem? (i := 3) rfl)
theorem dX12_glass_143 : decode cX12_glass 143 = .ok (.dup2, 1) := dgX12_glass_2 (143, (.dup2, 1)) (List.mem_of_getElem? (i := 4) rfl)
theorem dX12_glass_144 : decode cX12_glass 144 = .ok (.iaload, 1) := dgX12_glass_2 (144, (.iaload, 1)) (List.mem_of_getElem? (i := 5) rfl)
theorem dX12_glass_145 : decode cX12_glass 145 = .ok (.iconst 1, 1) := dgX12_glass_2 (145, (.iconst 1, 1)) (List.mem_of_getElem? (i := 6) rfl)
theorem dX12_glass_146 : decode cX12_glass 146 = .ok (.iadd, 1) := dgX12_glass_2 (146, (.iadd, 1)) (List.mem_of_getElem? (i := 7) rfl)
theorem dX12_glass_147 : decode cX12_glass 147 = .ok (.iastore, 1) := dgX12_glass_2 (147, (.iastore, 1)) (List.mem_of_getElem? (i := 8) rfl)
theorem dX12_glass_148 : decode cX12_glass 148 = .ok (.aload_n 0, 1) := dgX12_glass_2 (148, (.aload_n 0, 1)) (List.mem_of_getElem? (i := 9) rfl)
theorem dX12_glass_149 : decode cX12_glass 149 = .ok (.iload 5, 2) := dgX12_glass_2 (149, (.iload 5, 2)) (List.mem_of_getElem? (i := 10) rfl)
theorem dX12_glass_151 : decode cX12_glass 151 = .ok (.invokevirtual 125, 3) := dgX12_glass_2 (151, (.invokevirtual 125, 3)) (List.mem_of_getElem? (i := 11) rfl)
theorem dX12_glass_154 : decode cX12_glass 154 = .ok (.ireturn, 1) := dgX12_glass_2 (154, (.ireturn, 1)) (List.mem_of_getElem? (i := 12) rfl)
theorem ml_X12_163 : Cond.methodLink RX12 163 yX12_fits ∈ tblG := tg 1411 (by decide +kernel) (by decide +kernel)
theorem st_X12_fits : Cond.static yX12_fits ∈ tblG := tg 1412 (by decide +kernel) (by decide +kernel)
theorem cd_X12_fits : Cond.code yX12_fits cX12_fits 2 (some .boolean) ∈ tblG := tg 1413 (by decide +kernel) (by decide +kernel)
theorem gW_X12_fits : GoodIn tblG (wsG yX12_fits cX12_fits 2 (some .boolean)) := tgi cd_X12_fits
theorem gS_X12_163 : GoodIn tblG (va_wsS RX12 163 yX12_fits (wsG yX12_fits cX12_fits 2 (some .boolean))) := tgS ml_X12_163 st_X12_fits ini_X12 gW_X12_fits
theorem hs_X12_fits : yX12_fits.cls ≠ "java/lang/invoke/MethodHandle" ∧ yX12_fits.cls ≠ "java/lang/invoke/VarHandle" ∧ (parseMethodDescriptor yX12_fits.desc).map (fun d => d.parameters.length) = some 2 := by decide +kernel
theorem ml_X12_167 : Cond.methodLink RX12 167 yX12_canHang ∈ tblG := tg 1418 (by decide +kernel) (by decide +kernel)
theorem im_X12_canHang : Cond.instanceMethod yX12_canHang ∈ tblG := tg 1420 (by decide +kernel) (by decide +kernel)
theorem se_X12_canHang : Cond.selects RX12 yX12_canHang yX12_canHang ∈ tblG := tg 36 (by decide +kernel) (by decide +kernel)
theorem cd_X12_canHang : Cond.code yX12_canHang cX12_canHang 2 (some .boolean) ∈ tblG := tg 1421 (by decide +kernel) (by decide +kernel)
theorem gW_X12_canHang : GoodIn tblG (wsG yX12_canHang cX12_canHang 2 (some .boolean)) := tgi cd_X12_canHang
theorem gV_X12_167 : GoodIn tblG (wsV RX12 167 RX12 yX12_canHang (wsG yX12_canHang cX12_canHang 2 (some .boolean))) := tgV ml_X12_167 im_X12_canHang se_X12_canHang ini_X12 gW_X12_canHang
theorem hv_X12_canHang : yX12_canHang.cls = RX12 ∧ yX12_canHang.cls ≠ "java/lang/invoke/MethodHandle" ∧ yX12_canHang.cls ≠ "java/lang/invoke/VarHandle" ∧ (parseMethodDescriptor yX12_canHang.desc).map (fun d => d.parameters.length) = some 1 := by decide +kernel
theorem dgX12_isGlass_0 : ∀ r ∈ ([(0, (.iload_n 1, 1)), (1, (.i2l, 1)), (2, (.lconst 0, 1)), (3, (.aload_n 0, 1)), (4, (.getfield 13, 3)), (7, (.iconst 0, 1)), (8, (.iaload, 1)), (9, (.i2l, 1)), (10, (.lconst 1, 1)), (11, (.lsub, 1)), (12, (.invokestatic 121, 3)), (15, (.ireturn, 1))] : List (Nat × (Instr × Nat))), decode cX12_isGlass r.1 = .ok r.2 := by decide +kernel
theorem dX12_isGlass_0 : decode cX12_isGlass 0 = .ok (.iload_n 1, 1) := dgX12_isGlass_0 (0, (.iload_n 1, 1)) (List.mem_of_getElem? (i := 0) rfl)
theorem dX12_isGlass_1 : decode cX12_isGlass 1 = .ok (.i2l, 1) := dgX12_isGlass_0 (1, (.i2l, 1)) (List.mem_of_getElem? (i := 1) rfl)
theorem dX12_isGlass_2 : decode cX12_isGlass 2 = .ok (.lconst 0, 1) := dgX12_isGlass_0 (2, (.lconst 0, 1)) (List.mem_of_getElem? (i := 2) rfl)
theorem dX12_isGlass_3 : decode cX12_isGlass 3 = .ok (.aload_n 0, 1) := dgX12_isGlass_0 (3, (.aload_n 0, 1)) (List.mem_of_getElem? (i := 3) rfl)
theorem dX12_isGlass_4 : decode cX12_isGlass 4 = .ok (.getfield 13, 3) := dgX12_isGlass_0 (4, (.getfield 13, 3)) (List.mem_of_getElem? (i := 4) rfl)
theorem dX12_isGlass_7 : decode cX12_isGlass 7 = .ok (.iconst 0, 1) := dgX12_isGlass_0 (7, (.iconst 0, 1)) (List.mem_of_getElem? (i := 5) rfl)
theorem dX12_isGlass_8 : decode cX12_isGlass 8 = .ok (.iaload, 1) := dgX12_isGlass_0 (8, (.iaload, 1)) (List.mem_of_getElem? (i := 6) rfl)
theorem dX12_isGlass_9 : decode cX12_isGlass 9 = .ok (.i2l, 1) := dgX12_isGlass_0 (9, (.i2l, 1)) (List.mem_of_getElem? (i := 7) rfl)
theorem dX12_isGlass_10 : decode cX12_isGlass 10 = .ok (.lconst 1, 1) := dgX12_isGlass_0 (10, (.lconst 1, 1)) (List.mem_of_getElem? (i := 8) rfl)
theorem dX12_isGlass_11 : decode cX12_isGlass 11 = .ok (.lsub, 1) := dgX12_isGlass_0 (11, (.lsub, 1)) (List.mem_of_getElem? (i := 9) rfl)
theorem dX12_isGlass_12 : decode cX12_isGlass 12 = .ok (.invokestatic 121, 3) := dgX12_isGlass_0 (12, (.invokestatic 121, 3)) (List.mem_of_getElem? (i := 10) rfl)
theorem dX12_isGlass_15 : decode cX12_isGlass 15 = .ok (.ireturn, 1) := dgX12_isGlass_0 (15, (.ireturn, 1)) (List.mem_of_getElem? (i := 11) rfl)
theorem dgX12_isBody_0 : ∀ r ∈ ([(0, (.iload_n 1, 1)), (1, (.i2l, 1)), (2, (.lconst 0, 1)), (3, (.aload_n 0, 1)), (4, (.getfield 13, 3)), (7, (.iconst 1, 1)), (8, (.iaload, 1)), (9, (.i2l, 1)), (10, (.lconst 1, 1)), (11, (.lsub, 1)), (12, (.invokestatic 121, 3)), (15, (.ireturn, 1))] : List (Nat × (Instr × Nat))), decode cX12_isBody r.1 = .ok r.2 := by decide +kernel
theorem dX12_isBody_0 : decode cX12_isBody 0 = .ok (.iload_n 1, 1) := dgX12_isBody_0 (0, (.iload_n 1, 1)) (List.mem_of_getElem? (i := 0) rfl)
theorem dX12_isBody_1 : decode cX12_isBody 1 = .ok (.i2l, 1) := dgX12_isBody_0 (1, (.i2l, 1)) (List.mem_of_getElem? (i := 1) rfl)
theorem dX12_isBody_2 : decode cX12_isBody 2 = .ok (.lconst 0, 1) := dgX12_isBody_0 (2, (.lconst 0, 1)) (List.mem_of_getElem? (i := 2) rfl)
theorem dX12_isBody_3 : decode cX12_isBody 3 = .ok (.aload_n 0, 1) := dgX12_isBody_0 (3, (.aload_n 0, 1)) (List.mem_of_getElem? (i := 3) rfl)
theorem dX12_isBody_4 : decode cX12_isBody 4 = .ok (.getfield 13, 3) := dgX12_isBody_0 (4, (.getfield 13, 3)) (List.mem_of_getElem? (i := 4) rfl)
theorem dX12_isBody_7 : decode cX12_isBody 7 = .ok (.iconst 1, 1) := dgX12_isBody_0 (7, (.iconst 1, 1)) (List.mem_of_getElem? (i := 5) rfl)
theorem dX12_isBody_8 : decode cX12_isBody 8 = .ok (.iaload, 1) := dgX12_isBody_0 (8, (.iaload, 1)) (List.mem_of_getElem? (i := 6) rfl)
theorem dX12_isBody_9 : decode cX12_isBody 9 = .ok (.i2l, 1) := dgX12_isBody_0 (9, (.i2l, 1)) (List.mem_of_getElem? (i := 7) rfl)
theorem dX12_isBody_10 : decode cX12_isBody 10 = .ok (.lconst 1, 1) := dgX12_isBody_0 (10, (.lconst 1, 1)) (List.mem_of_getElem? (i := 8) rfl)
theorem dX12_isBody_11 : decode cX12_isBody 11 = .ok (.lsub, 1) := dgX12_isBody_0 (11, (.lsub, 1)) (List.mem_of_getElem? (i := 9) rfl)
theorem dX12_isBody_12 : decode cX12_isBody 12 = .ok (.invokestatic 121, 3) := dgX12_isBody_0 (12, (.invokestatic 121, 3)) (List.mem_of_getElem? (i := 10) rfl)
theorem dX12_isBody_15 : decode cX12_isBody 15 = .ok (.ireturn, 1) := dgX12_isBody_0 (15, (.ireturn, 1)) (List.mem_of_getElem? (i := 11) rfl)
set_option maxHeartbeats 4000000 in
set_option maxRecDepth 100000 in
theorem n_isBody (l : Launch) (G : g5_G) (b_o b_ro b_rf b_im b_ke b_tp b_nl b_op b_ar b_pi b_pa b_ws b_hw b_se b_re b_pt b_ip b_ah b_be b_me b_tr b_ld b_wn : Nat) (sz : Nat) (u_th : Int32) (u_sa : Int32) (u_fd : Int32) (u_td : Int32) (u_fr : Int32) (u_to : Int32) (u_so : Int32) (u_fa : Int32) (u_bd : Int32) (u_nc : Int32) (u_co : Int32) (u_le : Int32) (u_pd : Int32) (u_od : Int32) (u_la : Int32) (u_bk : Int32) (u_ce : Int32) (u_ho : Int32) (u_wy : Int32) (u_bt : Int32) (u_ps : Int32) (u_tg : Int32) (u_sn : Int32) (u_ic : Int32) (u_wd : Int32) (u_id : Int32) (p_1 : Int32) (u_wo : Int64) (u_va : Int64) (u_su : Int64) (u_st : Int64) (v_ro : Nat → Int32) (h_u_td : 0 ≤ u_td.toInt ∧ u_td.toInt ≤ 400) (h_u_fr : 0 ≤ u_fr.toInt ∧ u_fr.toInt ≤ 400) (h_u_to : 0 ≤ u_to.toInt ∧ u_to.toInt ≤ 400) (h_u_bd : 0 ≤ u_bd.toInt ∧ u_bd.toInt ≤ 1) (h_u_nc : 0 ≤ u_nc.toInt ∧ u_nc.toInt ≤ 12) (h_u_co : 0 ≤ u_co.toInt ∧ u_co.toInt ≤ 400) (h_u_pd : 0 ≤ u_pd.toInt ∧ u_pd.toInt ≤ 400) (h_u_la : 0 ≤ u_la.toInt ∧ u_la.toInt ≤ 4840) (h_u_bk : 0 ≤ u_bk.toInt ∧ u_bk.toInt ≤ 1) (h_u_ce : 0 ≤ u_ce.toInt ∧ u_ce.toInt ≤ 63) (h_u_ho : 0 ≤ u_ho.toInt ∧ u_ho.toInt ≤ 23) (h_u_wy : 0 ≤ u_wy.toInt ∧ u_wy.toInt ≤ 3) (h_u_bt : 0 ≤ u_bt.toInt ∧ u_bt.toInt ≤ 1000000) (h_u_ps : 0 ≤ u_ps.toInt ∧ u_ps.toInt ≤ 200) (h_u_ic : 0 ≤ u_ic.toInt ∧ u_ic.toInt ≤ 1) (h_u_id : 0 ≤ u_id.toInt ∧ u_id.toInt ≤ 1) (r_ro : MI v_ro) : Met l yX12_isBody (wsG yX12_isBody cX12_isBody 2 (some .boolean)) ({ frames := 1, cells := 0, slots := 0, locals := 25 }) (va_Pc [.ref b_o, .int p_1] (g5_P G [(b_o, (oc12 u_th u_sa b_rf b_ro b_im b_ke u_fd b_tp u_td u_fr u_to u_so u_wo u_fa u_bd u_nc b_nl u_co b_op b_ar u_le b_pi b_pa u_pd u_od b_ws b_hw u_la b_se b_re u_bk u_va u_su u_ce u_ho u_wy u_bt u_ps b_pt u_tg u_sn b_ip u_ic b_ah b_be b_me u_wd b_tr b_ld u_st b_wn u_id)), (b_ro, (arI G 5740 v_ro))] sz)) (va_Qi (fun (r : Int32) (u : va_W) => ((0 ≤ p_1.toInt ∧ p_1.toInt ≤ 4) ∧ (r = 1) ∧ (u = [(b_o, (oc12 u_th u_sa b_rf b_ro b_im b_ke u_fd b_tp u_td u_fr u_to u_so u_wo u_fa u_bd u_nc b_nl u_co b_op b_ar u_le b_pi b_pa u_pd u_od b_ws b_hw u_la b_se b_re u_bk u_va u_su u_ce u_ho u_wy u_bt u_ps b_pt u_tg u_sn b_ip u_ic b_ah b_be b_me u_wd b_tr b_ld u_st b_wn u_id)), (b_ro, (arI G 5740 v_ro))])) ∨ ((r = 0) ∧ (u = [(b_o, (oc12 u_th u_sa b_rf b_ro b_im b_ke u_fd b_tp u_td u_fr u_to u_so u_wo u_fa u_bd u_nc b_nl u_co b_op b_ar u_le b_pi b_pa u_pd u_od b_ws b_hw u_la b_se b_re u_bk u_va u_su u_ce u_ho u_wy u_bt u_ps b_pt u_tg u_sn b_ip u_ic b_ah b_be b_me u_wd b_tr b_ld u_st b_wn u_id)), (b_ro, (arI G 5740 v_ro))]))) (g5_B G (va_A [(b_o, (oc12 u_th u_sa b_rf b_ro b_im b_ke u_fd b_tp u_td u_fr u_to u_so u_wo u_fa u_bd u_nc b_nl u_co b_op b_ar u_le b_pi b_pa u_pd u_od b_ws b_hw u_la b_se b_re u_bk u_va u_su u_ce u_ho u_wy u_bt u_ps b_pt u_tg u_sn b_ip u_ic b_ah b_be b_me u_wd b_tr b_ld u_st b_wn u_id)), (b_ro, (arI G 5740 v_ro))] sz)) (va_A [(b_o, (oc12 u_th u_sa b_rf b_ro b_im b_ke u_fd b_tp u_td u_fr u_to u_so u_wo u_fa u_bd u_nc b_nl u_co b_op b_ar u_le b_pi b_pa u_pd u_od b_ws b_hw u_la b_se b_re u_bk u_va u_su u_ce u_ho u_wy u_bt u_ps b_pt u_tg u_sn b_ip u_ic b_ah b_be b_me u_wd b_tr b_ld u_st b_wn u_id)), (b_ro, (arI G 5740 v_ro))] sz)) 0 0 (va_A [(b_o, (oc12 u_th u_sa b_rf b_ro b_im b_ke u_fd b_tp u_td u_fr u_to u_so u_wo u_fa u_bd u_nc b_nl u_co b_op b_ar u_le b_pi b_pa u_pd u_od b_ws b_hw u_la b_se b_re u_bk u_va u_su u_ce u_ho u_wy u_bt u_ps b_pt u_tg u_sn b_ip u_ic b_ah b_be b_me u_wd b_tr b_ld u_st b_wn u_id)), (b_ro, (arI G 5740 v_ro))] sz) := by
  refine Met.ofW (cc := cX12_isBody) (maxL := 2) (ret := (some .boolean)) (by decide +kernel) rfl ?_
  intro p e s m args below meth c s₁ B hml hv
  obtain ⟨rfl, hsz, hP, hK, hD0, hN, hT⟩ := hv
  have hx := B.exec
  have hb := B.bytes
  have hr := B.returns
  have hts : ∀ w ∈ tblG, w.before _ s = true := fun w h => atoms_spec (ws := (wsG yX12_isBody cX12_isBody 2 (some .boolean))) B.pre w (List.mem_cons_of_mem _ h)
  have hown : s.vm.findClass RX12 = some m.cls := findClass_of_methodNamed B.named
  have hlocks := B.notSynchronized
  subst hsz
  have hD := hD0.self (sz := s.heap.size)
  generalize hAe : va_A [(b_o, (oc12 u_th u_sa b_rf b_ro b_im b_ke u_fd b_tp u_td u_fr u_to u_so u_wo u_fa u_bd u_nc b_nl u_co b_op b_ar u_le b_pi b_pa u_pd u_od b_ws b_hw u_la b_se b_re u_bk u_va u_su u_ce u_ho u_wy u_bt u_ps b_pt u_tg u_sn b_ip u_ic b_ah b_be b_me u_wd b_tr b_ld u_st b_wn u_id)), (b_ro, (arI G 5740 v_ro))] s.heap.size = A at hD hT ⊢
  have hA : ∀ q : Nat, s.heap.size ≤ q → A q := fun q h => by rw [← hAe]; exact Or.inr h
  have hS : va_S A s.heap s.heap [] := va_S.rf
  replace hP : va_P G.1 vwCl [(b_o, (oc12 u_th u_sa b_rf b_ro b_im b_ke u_fd b_tp u_td u_fr u_to u_so u_wo u_fa u_bd u_nc b_nl u_co b_op b_ar u_le b_pi b_pa u_pd u_od b_ws b_hw u_la b_se b_re u_bk u_va u_su u_ce u_ho u_wy u_bt u_ps b_pt u_tg u_sn b_ip u_ic b_ah b_be b_me u_wd b_tr b_ld u_st b_wn u_id)), (b_ro, (arI G 5740 v_ro))] s.heap := hP
  have hl := lv_entry ([.ref b_o, .int p_1]) (n := 2) (Nat.le_of_ble_eq_true rfl)
  rw [lg_entry_eq]
  generalize (lg_sl ([.ref b_o, .int p_1]) ++ List.replicate (2 - (lg_sl ([.ref b_o, .int p_1])).length) Slot.unset).toArray = ls at hl ⊢
  replace hl : lv_has ls 2 [(0, .ref b_o), (1, .int p_1)] := hl
  refine lv_iload_n hx hb dX12_isBody_0 rfl (lv_at hl 1 rfl) ?_
  refine lv_i2l (v := p_1.toInt64) hx hb dX12_isBody_1 rfl ?_
  refine lv_lconst (v := 0) hx hb dX12_isBody_2 (by decide +kernel) ?_
  refine lv_aload_n hx hb dX12_isBody_3 rfl (lv_at hl 0 rfl) ?_
  refine W.eq (g2 := F0 m 4 ls [.ref b_o, .long 0, .long p_1.toInt64]) rfl ?_
  refine va_get (D := G.1) (ci := 12) (v := .ref b_ro) (C := RX12) (T := TX12) (N := 52) hx hb hts inG_X12 hown hK hP 0 rfl rfl 3 (by decide +kernel) (hts _ fl_X12_13) (fun _ h9 => h9) rfl dX12_isBody_4 ?_
  refine lv_iconst (v := 1) hx hb dX12_isBody_7 (by decide +kernel) ?_
  refine va_iald hx hb hK hP 1 0 rfl rfl (i := 1) (by unfold vp_in; decide) dX12_isBody_8 ?_
  refine g5_ti (v := (v_ro 1)) rfl ?_
  have hr_1 : 0 ≤ (v_ro 1).toInt ∧ (v_ro 1).toInt ≤ 5 := mi_1 r_ro
  refine lv_i2l (v := (v_ro 1).toInt64) hx hb dX12_isBody_9 rfl ?_
  refine lv_lconst (v := 1) hx hb dX12_isBody_10 (by decide +kernel) ?_
  refine W.eq (g2 := F0 m 11 ls [.long 1, .long (v_ro 1).toInt64, .long 0, .long p_1.toInt64]) rfl ?_
  refine lv_lsub hx hb dX12_isBody_11 ?_
  obtain ⟨hPc, hDc, hFc⟩ := g5_sub3 (wc := []) hP hD hS hA [] (by decide +kernel) rfl
  refine va_calli (va_runS (As := [.long p_1.toInt64, .long 0, .long (((v_ro 1).toInt64) - 1)]) (rest := []) ⟨hx, hb, hml, hown, hts⟩ (n_in_n l G s.heap.size p_1 (v_ro 1) ⟨by omega, by omega⟩) (va_cwS 3 hts gS_X12_121 rfl rfl rfl hs_X12_in ⟨Nat.le_of_ble_eq_true rfl, Nat.le_of_ble_eq_true rfl⟩) (g5_preS hPc hK hDc hN hT hS hFc) rfl rfl hl.1 rfl (lv_room (Nat.le_of_ble_eq_true rfl)) dX12_isBody_12 ⟨Nat.le_of_ble_eq_true rfl, Nat.le_of_ble_eq_true rfl⟩) hS (fun q _ h => hFc q h) hFc (fun r u t H locs ht hvm hw hB hz1 hk1 hS => ?_)
  obtain ⟨hP1, hD1⟩ := hB
  have hP1 := g5_ht ht hP1
  rcases hw with ⟨(i_2 : p_1.toInt < 0 ∨ (v_ro 1).toInt ≤ p_1.toInt), rfl, rfl⟩ | ⟨(i_3 : 0 ≤ p_1.toInt ∧ p_1.toInt < (v_ro 1).toInt), rfl, rfl⟩
  ·
    have hJ9 := g5_same hP hk1
    clear hP hPc hDc hFc ht hvm hz1 hk1 hP1 hD1
    have hP := hJ9
    clear hJ9
    exact W.zret (v := 0) hx hb hr rfl (fun t ht hW => ⟨⟨0, [(b_o, (oc12 u_th u_sa b_rf b_ro b_im b_ke u_fd b_tp u_td u_fr u_to u_so u_wo u_fa u_bd u_nc b_nl u_co b_op b_ar u_le b_pi b_pa u_pd u_od b_ws b_hw u_la b_se b_re u_bk u_va u_su u_ce u_ho u_wy u_bt u_ps b_pt u_tg u_sn b_ip u_ic b_ah b_be b_me u_wd b_tr b_ld u_st b_wn u_id)), (b_ro, (arI G 5740 v_ro))], rfl, Or.inr (⟨rfl, rfl⟩), by rw [ht]; exact hP.sub [0, 1] rfl, hD.sub [0, 1] (by decide +kernel) rfl⟩, hS.F ht⟩) hS.2.2 dX12_isBody_15
  ·
    have hJ9 := g5_same hP hk1
    clear hP hPc hDc hFc ht hvm hz1 hk1 hP1 hD1
    have hP := hJ9
    clear hJ9
    exact W.zret (v := 1) hx hb hr rfl (fun t ht hW => ⟨⟨1, [(b_o, (oc12 u_th u_sa b_rf b_ro b_im b_ke u_fd b_tp u_td u_fr u_to u_so u_wo u_fa u_bd u_nc b_nl u_co b_op b_ar u_le b_pi b_pa u_pd u_od b_ws b_hw u_la b_se b_re u_bk u_va u_su u_ce u_ho u_wy u_bt u_ps b_pt u_tg u_sn b_ip u_ic b_ah b_be b_me u_wd b_tr b_ld u_st b_wn u_id)), (b_ro, (arI G 5740 v_ro))], rfl, Or.inl (⟨by omega, rfl, rfl⟩), by rw [ht]; exact hP.sub [0, 1] rfl, hD.sub [0, 1] (by decide +kernel) rfl⟩, hS.F ht⟩) hS.2.2 dX12_isBody_15
theorem dgX12_turn_0 : ∀ r ∈ ([(0, (.aload_n 0, 1)), (1, (.iconst 0, 1)), (2, (.putfield 107, 3)), (5, (.iload_n 2, 1)), (6, (.iload_n 3, 1)), (7, (.invokestatic 163, 3)), (10, (.ifCond .ne 9, 3)), (13, (.aload_n 0, 1)), (14, (.iconst (-1), 1)), (15, (.invokevirtual 125, 3)), (18, (.ireturn, 1)), (19, (.aload_n 0, 1)), (20, (.iload_n 1, 1)), (21, (.invokevirtual 170, 3)), (24, (.ifCond .eq 21, 3)), (27, (.aload_n 0, 1)), (28, (.bipush 80, 2)), (30, (.iconst 5, 1)), (31, (.iload_n 1, 1)), (32, (.imul, 1)), (33, (.iadd, 1)), (34, (.iconst 1, 1)), (35, (.iadd, 1)), (36, (.iload_n 2, 1)), (37, (.iadd, 1)), (38, (.iload_n 3, 1)), (39, (.invokevirtual 151, 3)), (42, (.goto 9, 3)), (45, (.aload_n 0, 1)), (46, (.bipush (-2), 2)), (48, (.invokevirtual 125, 3)), (51, (.ireturn, 1))] : List (Nat × (Instr × Nat))), decode cX12_turn r.1 = .ok r.2 := by decide +kernel
theorem dX12_turn_0 : decode cX12_turn 0 = .ok (.aload_n 0, 1) := dgX12_turn_0 (0, (.aload_n 0, 1)) (List.mem_of_getElem? (i := 0) rfl)
theorem dX12_turn_1 : decode cX12_turn 1 = .ok (.iconst 0, 1) := dgX12_turn_0 (1, (.iconst 0, 1)) (List.mem_of_getElem? (i := 1) rfl)
theorem dX12_turn_2 : decode cX12_turn 2 = .ok (.putfield 107, 3) := dgX12_turn_0 (2, (.putfield 107, 3)) (List.mem_of_getElem? (i := 2) rfl)
theorem dX12_turn_5 : decode cX12_turn 5 = .ok (.iload_n 2, 1) := dgX12_turn_0 (5, (.iload_n 2, 1)) (List.mem_of_getElem? (i := 3) rfl)
theorem dX12_turn_6 : decode cX12_turn 6 = .ok (.iload_n 3, 1) := dgX12_turn_0 (6, (.iload_n 3, 1)) (List.mem_of_getElem? (i := 4) rfl)
theorem dX12_turn_7 : decode cX12_turn 7 = .ok (.invokestatic 163, 3) := dgX12_turn_0 (7, (.invokestatic 163, 3)) (List.mem_of_getElem? (i := 5) rfl)
theorem dX12_turn_10 : decode cX12_turn 10 = .ok (.ifCond .ne 9, 3) := dgX12_turn_0 (10, (.ifCond .ne 9, 3)) (List.mem_of_getElem? (i := 6) rfl)
theorem dX12_turn_13 : decode cX12_turn 13 = .ok (.aload_n 0, 1) := dgX12_turn_0 (13, (.aload_n 0, 1)) (List.mem_of_getElem? (i := 7) rfl)
theorem dX12_turn_14 : decode cX12_turn 14 = .ok (.iconst (-1), 1) := dgX12_turn_0 (14, (.iconst (-1), 1)) (List.mem_of_getElem? (i := 8) rfl)
theorem dX12_turn_15 : decode cX12_turn 15 = .ok (.invokevirtual 125, 3) := dgX12_turn_0 (15, (.invokevirtual 125, 3)) (List.mem_of_getElem? (i := 9) rfl)
theorem dX12_turn_18 : decode cX12_turn 18 = .ok (.ireturn, 1) := dgX12_turn_0 (18, (.ireturn, 1)) (List.mem_of_getElem? (i := 10) rfl)
theorem dX12_turn_19 : decode cX12_turn 19 = .ok (.aload_n 0, 1) := dgX12_turn_0 (19, (.aload_n 0, 1)) (List.mem_of_getElem? (i := 11) rfl)
theorem dX12_turn_20 : decode cX12_turn 20 = .ok (.iload_n 1, 1) := dgX12_turn_0 (20, (.iload_n 1, 1)) (List.mem_of_getElem? (i := 12) rfl)
theorem dX12_turn_21 : decode cX12_turn 21 = .ok (.invokevirtual 170, 3) := dgX12_turn_0 (21, (.invokevirtual 170, 3)) (List.mem_of_getElem? (i := 13) rfl)
theorem dX12_turn_24 : decode cX12_turn 24 = .ok (.ifCond .eq 21, 3) := dgX12_turn_0 (24, (.ifCond .eq 21, 3)) (List.mem_of_getElem? (i := 14) rfl)
theorem dX12_turn_27 : decode cX12_turn 27 = .ok (.aload_n 0, 1) := dgX12_turn_0 (27, (.aload_n 0, 1)) (List.mem_of_getElem? (i := 15) rfl)
theorem dX12_turn_28 : decode cX12_turn 28 = .ok (.bipush 80, 2) := dgX12_turn_0 (28, (.bipush 80, 2)) (List.mem_of_getElem? (i := 16) rfl)
theorem dX12_turn_30 : decode cX12_turn 30 = .ok (.iconst 5, 1) := dgX12_turn_0 (30, (.iconst 5, 1)) (List.mem_of_getElem? (i := 17) rfl)
theorem dX12_turn_31 : decode cX12_turn 31 = .ok (.iload_n 1, 1) := dgX12_turn_0 (31, (.iload_n 1, 1)) (List.mem_of_getElem? (i := 18) rfl)
theorem dX12_turn_32 : decode cX12_turn 32 = .ok (.imul, 1) := dgX12_turn_0 (32, (.imul, 1)) (List.mem_of_getElem? (i := 19) rfl)
theorem dX12_turn_33 : decode cX12_turn 33 = .ok (.iadd, 1) := dgX12_turn_0 (33, (.iadd, 1)) (List.mem_of_getElem? (i := 20) rfl)
theorem dX12_turn_34 : decode cX12_turn 34 = .ok (.iconst 1, 1) := dgX12_turn_0 (34, (.iconst 1, 1)) (List.mem_of_getElem? (i := 21) rfl)
theorem dX12_turn_35 : decode cX12_turn 35 = .ok (.iadd, 1) := dgX12_turn_0 (35, (.iadd, 1)) (List.mem_of_getElem? (i := 22) rfl)
theorem dX12_turn_36 : decode cX12_turn 36 = .ok (.iload_n 2, 1) := dgX12_turn_0 (36, (.iload_n 2, 1)) (List.mem_of_getElem? (i := 23) rfl)
theorem dX12_turn_37 : decode cX12_turn 37 = .ok (.iadd, 1) := dgX12_turn_0 (37, (.iadd, 1)) (List.mem_of_getElem? (i := 24) rfl)
theorem dX12_turn_38 : decode cX12_turn 38 = .ok (.iload_n 3, 1) := dgX12_turn_0 (38, (.iload_n 3, 1)) (List.mem_of_getElem? (i := 25) rfl)
theorem dX12_turn_39 : decode cX12_turn 39 = .ok (.invokevirtual 151, 3) := dgX12_turn_0 (39, (.invokevirtual 151, 3)) (List.mem_of_getElem? (i := 26) rfl)
theorem dX12_turn_42 : decode cX12_turn 42 = .ok (.goto 9, 3) := dgX12_turn_0 (42, (.goto 9, 3)) (List.mem_of_getElem? (i := 27) rfl)
theorem dX12_turn_45 : decode cX12_turn 45 = .ok (.aload_n 0, 1) := dgX12_turn_0 (45, (.aload_n 0, 1)) (List.mem_of_getElem? (i := 28) rfl)
theorem dX12_turn_46 : decode cX12_turn 46 = .ok (.bipush (-2), 2) := dgX12_turn_0 (46, (.bipush (-2), 2)) (List.mem_of_getElem? (i := 29) rfl)
theorem dX12_turn_48 : decode cX12_turn 48 = .ok (.invokevirtual 125, 3) := dgX12_turn_0 (48, (.invokevirtual 125, 3)) (List.mem_of_getElem? (i := 30) rfl)
theorem dX12_turn_51 : decode cX12_turn 51 = .ok (.ireturn, 1) := dgX12_turn_0 (51, (.ireturn, 1)) (List.mem_of_getElem? (i := 31) rfl)
theorem ml_X12_170 : Cond.methodLink RX12 170 yX12_isGlass ∈ tblG := tg 1430 (by decide +kernel) (by decide +kernel)
theorem im_X12_isGlass : Cond.instanceMethod yX12_isGlass ∈ tblG := tg 1432 (by decide +kernel) (by decide +kernel)
theorem se_X12_isGlass : Cond.selects RX12 yX12_isGlass yX12_isGlass ∈ tblG := tg 38 (by decide +kernel) (by decide +kernel)
theorem cd_X12_isGlass : Cond.code yX12_isGlass cX12_isGlass 2 (some .boolean) ∈ tblG := tg 1433 (by decide +kernel) (by decide +kernel)
theorem gW_X12_isGlass : GoodIn tblG (wsG yX12_isGlass cX12_isGlass 2 (some .boolean)) := tgi cd_X12_isGlass
theorem gV_X12_170 : GoodIn tblG (wsV RX12 170 RX12 yX12_isGlass (wsG yX12_isGlass cX12_isGlass 2 (some .boolean))) := tgV ml_X12_170 im_X12_isGlass se_X12_isGlass ini_X12 gW_X12_isGlass
theorem hv_X12_isGlass : yX12_isGlass.cls = RX12 ∧ yX12_isGlass.cls ≠ "java/lang/invoke/MethodHandle" ∧ yX12_isGlass.cls ≠ "java/lang/invoke/VarHandle" ∧ (parseMethodDescriptor yX12_isGlass.desc).map (fun d => d.parameters.length) = some 1 := by decide +kernel
theorem dgX12_of_0 : ∀ r ∈ ([(0, (.aload_n 0, 1)), (1, (.iconst 0, 1)), (2, (.putfield 107, 3)), (5, (.aload_n 0, 1)), (6, (.iload_n 1, 1)), (7, (.invokevirtual 170, 3)), (10, (.ifCond .eq 24, 3)), (13, (.iload_n 2, 1)), (14, (.i2l, 1)), (15, (.lconst 0, 1)), (16, (.ldc2_w 173, 3)), (19, (.invokestatic 121, 3)), (22, (.ifCond .eq 12, 3)), (25, (.aload_n 0, 1)), (26, (.iload_n 1, 1)), (27, (.iload_n 2, 1)), (28, (.invokevirtual 134, 3)), (31, (.goto 4, 3)), (34, (.iconst (-1), 1)), (35, (.ireturn, 1))] : List (Nat × (Instr × Nat))), decode cX12_of r.1 = .ok r.2 := by decide +kernel
theorem dX12_of_0 : decode cX12_of 0 = .ok (.aload_n 0, 1) := dgX12_of_0 (0, (.aload_n 0, 1)) (List.mem_of_getElem? (i := 0) rfl)
theorem dX12_of_1 : decode cX12_of 1 = .ok (.iconst 0, 1) := dgX12_of_0 (1, (.iconst 0, 1)) (List.mem_of_getElem? (i := 1) rfl)
theorem dX12_of_2 : decode cX12_of 2 = .ok (.putfield 107, 3) := dgX12_of_0 (2, (.putfield 107, 3)) (List.mem_of_getElem? (i := 2) rfl)
theorem dX12_of_5 : decode cX12_of 5 = .ok (.aload_n 0, 1) := dgX12_of_0 (5, (.aload_n 0, 1)) (List.mem_of_getElem? (i := 3) rfl)
theorem dX12_of_6 : decode cX12_of 6 = .ok (.iload_n 1, 1) := dgX12_of_0 (6, (.iload_n 1, 1)) (List.mem_of_getElem? (i := 4) rfl)
theorem dX12_of_7 : decode cX12_of 7 = .ok (.invokevirtual 170, 3) := dgX12_of_0 (7, (.invokevirtual 170, 3)) (List.mem_of_getElem? (i := 5) rfl)
theorem dX12_of_10 : decode cX12_of 10 = .ok (.ifCond .eq 24, 3) := dgX12_of_0 (10, (.ifCond .eq 24, 3)) (List.mem_of_getElem? (i := 6) rfl)
theorem dX12_of_13 : decode cX12_of 13 = .ok (.iload_n 2, 1) := dgX12_of_0 (13, (.iload_n 2, 1)) (List.mem_of_getElem? (i := 7) rfl)
theorem dX12_of_14 : decode cX12_of 14 = .ok (.i2l, 1) := dgX12_of_0 (14, (.i2l, 1)) (List.mem_of_getElem? (i := 8) rfl)
theorem dX12_of_15 : decode cX12_of 15 = .ok (.lconst 0, 1) := dgX12_of_0 (15, (.lconst 0, 1)) (List.mem_of_getElem? (i := 9) rfl)
theorem dX12_of_16 : decode cX12_of 16 = .ok (.ldc2_w 173, 3) := dgX12_of_0 (16, (.ldc2_w 173, 3)) (List.mem_of_getElem? (i := 10) rfl)
theorem dX12_of_19 : decode cX12_of 19 = .ok (.invokestatic 121, 3) := dgX12_of_0 (19, (.invokestatic 121, 3)) (List.mem_of_getElem? (i := 11) rfl)
theorem dX12_of_22 : decode cX12_of 22 = .ok (.ifCond .eq 12, 3) := dgX12_of_0 (22, (.ifCond .eq 12, 3)) (List.mem_of_getElem? (i := 12) rfl)
theorem dX12_of_25 : decode cX12_of 25 = .ok (.aload_n 0, 1) := dgX12_of_0 (25, (.aload_n 0, 1)) (List.mem_of_getElem? (i := 13) rfl)
theorem dX12_of_26 : decode cX12_of 26 = .ok (.iload_n 1, 1) := dgX12_of_0 (26, (.iload_n 1, 1)) (List.mem_of_getElem? (i := 14) rfl)
theorem dX12_of_27 : decode cX12_of 27 = .ok (.iload_n 2, 1) := dgX12_of_0 (27, (.iload_n 2, 1)) (List.mem_of_getElem? (i := 15) rfl)
theorem dX12_of_28 : decode cX12_of 28 = .ok (.invokevirtual 134, 3) := dgX12_of_0 (28, (.invokevirtual 134, 3)) (List.mem_of_getElem? (i := 16) rfl)
theorem dX12_of_31 : decode cX12_of 31 = .ok (.goto 4, 3) := dgX12_of_0 (31, (.goto 4, 3)) (List.mem_of_getElem? (i := 17) rfl)
theorem dX12_of_34 : decode cX12_of 34 = .ok (.iconst (-1), 1) := dgX12_of_0 (34, (.iconst (-1), 1)) (List.mem_of_getElem? (i := 18) rfl)
theorem dX12_of_35 : decode cX12_of 35 = .ok (.ireturn, 1) := dgX12_of_0 (35, (.ireturn, 1)) (List.mem_of_getElem? (i := 19) rfl)
theorem kl_X12_173 : Cond.constantLong RX12 173 4 ∈ tblG := tg 1438 (by decide +kernel) (by decide +kernel)
set_option maxHeartbeats 4000000 in
set_option maxRecDepth 100000 in
theorem n_in_0_4 (l : Launch) (G : g5_G) (sz : Nat) (p_x : Int32) : Met l yX12_in (wsG yX12_in cX12_in 6 (some .boolean)) ({ frames := 0, cells := 0, slots := 0, locals := 0 }) (va_Pc [.long p_x.toInt64, .long 0, .long 4] (g5_P G [] sz)) (va_Qi (fun (r : Int32) (u : va_W) => ((p_x.toInt < 0 ∨ 4 < p_x.toInt) ∧ (r = 0) ∧ (u = [])) ∨ ((0 ≤ p_x.toInt ∧ p_x.toInt ≤ 4) ∧ (r = 1) ∧ (u = []))) (g5_B G (va_A [] sz)) (va_A [] sz)) 0 0 (va_A [] sz) := by
  refine Met.ofW (cc := cX12_in) (maxL := 6) (ret := (some .boolean)) (by decide) rfl ?_
  intro p e s m args below meth c s₁ B hml hv
  obtain ⟨rfl, hsz, hP, hK, hD0, hN, hT⟩ := hv
  have hx := B.exec
  have hb := B.bytes
  have hr := B.returns
  have hts : ∀ w ∈ tblG, w.before _ s = true := fun w h => atoms_spec (ws := (wsG yX12_in cX12_in 6 (some .boolean))) B.pre w (List.mem_cons_of_mem _ h)
  have hown : s.vm.findClass RX12 = some m.cls := findClass_of_methodNamed B.named
  have hlocks := B.notSynchronized
  subst hsz
  have hD := hD0.self (sz := s.heap.size)
  generalize hAe : va_A [] s.heap.size = A at hD hT ⊢
  have hA : ∀ q : Nat, s.heap.size ≤ q → A q := fun q h => by rw [← hAe]; exact Or.inr h
  have hS : va_S A s.heap s.heap [] := va_S.rf
  have hP : va_P G.1 vwCl [] s.heap := hP
  have hl := lv_entry ([.long p_x.toInt64, .long 0, .long 4]) (n := 6) (Nat.le_of_ble_eq_true rfl)
  rw [lg_entry_eq]
  generalize (lg_sl ([.long p_x.toInt64, .long 0, .long 4]) ++ List.replicate (6 - (lg_sl ([.long p_x.toInt64, .long 0, .long 4])).length) Slot.unset).toArray = ls at hl ⊢
  have hl : lv_has ls 6 [(0, .long p_x.toInt64), (2, .long 0), (4, .long 4)] := hl
  refine lv_lload_n hx hb dX12_in_0 rfl (lv_at hl 0 rfl) ?_
  refine lv_lload_n hx hb dX12_in_1 rfl (lv_at hl 1 rfl) ?_
  have tl_1 : p_x.toInt64.toInt = p_x.toInt := Int32.toInt_toInt64 _
  have tl_2 : (0 : Int64).toInt = 0 := (by decide)
  have tc_3 := g5_cmpI p_x.toInt64 0
  refine W.lcmp hx hb dX12_in_2 ?_
  refine lv_if_lt (tgt := 17) hx hb dX12_in_3 (by decide) (fun c_4 => ?_) (fun c_4 => ?_)
  ·
    have i_4 : (lg_cmp p_x.toInt64 0).toInt < 0 := by have z := g5_lt (a := (lg_cmp p_x.toInt64 0).toInt) (b := 0) (by rfl) (by decide) c_4; omega
    refine lv_iconst (v := 0) hx hb dX12_in_17 (by decide) ?_
    exact W.zret (v := 0) hx hb hr rfl (fun t ht hW => ⟨⟨0, [], rfl, Or.inl (⟨by omega, rfl, rfl⟩), by rw [ht]; exact hP.sub [] rfl, hD.sub [] (by decide) rfl⟩, hS.F ht⟩) hS.2.2 dX12_in_18
  ·
    have i_4 : (lg_cmp p_x.toInt64 0).toInt ≥ 0 := by have z := g5_ltN (a := (lg_cmp p_x.toInt64 0).toInt) (b := 0) (by rfl) (by decide) c_4; omega
    refine lv_lload_n hx hb dX12_in_6 rfl (lv_at hl 0 rfl) ?_
    refine lv_lload hx hb dX12_in_7 (lv_at hl 2 rfl) ?_
    have tl_5 : p_x.toInt64.toInt = p_x.toInt := Int32.toInt_toInt64 _
    have tl_6 : (4 : Int64).toInt = 4 := (by decide)
    have tc_7 := g5_cmpI p_x.toInt64 4
    refine W.lcmp hx hb dX12_in_9 ?_
    refine lv_if_gt (tgt := 17) hx hb dX12_in_10 (by decide) (fun c_8 => ?_) (fun c_8 => ?_)
    ·
      have i_8 : (lg_cmp p_x.toInt64 4).toInt > 0 := by have z := g5_gt (a := (lg_cmp p_x.toInt64 4).toInt) (b := 0) (by rfl) (by decide) c_8; omega
      refine lv_iconst (v := 0) hx hb dX12_in_17 (by decide) ?_
      exact W.zret (v := 0) hx hb hr rfl (fun t ht hW => ⟨⟨0, [], rfl, Or.inl (⟨by omega, rfl, rfl⟩), by rw [ht]; exact hP.sub [] rfl, hD.sub [] (by decide) rfl⟩, hS.F ht⟩) hS.2.2 dX12_in_18
    ·
      have i_8 : (lg_cmp p_x.toInt64 4).toInt ≤ 0 := by have z := g5_gtN (a := (lg_cmp p_x.toInt64 4).toInt) (b := 0) (by rfl) (by decide) c_8; omega
      refine lv_iconst (v := 1) hx hb dX12_in_13 (by decide) ?_
      refine lv_goto (tgt := 18) hx hb dX12_in_14 (by decide) ?_
      exact W.zret (v := 1) hx hb hr rfl (fun t ht hW => ⟨⟨1, [], rfl, Or.inr (⟨by omega, rfl, rfl⟩), by rw [ht]; exact hP.sub [] rfl, hD.sub [] (by decide) rfl⟩, hS.F ht⟩) hS.2.2 dX12_in_18
theorem dgX12_body_0 : ∀ r ∈ ([(0, (.aload_n 0, 1)), (1, (.iconst 0, 1)), (2, (.putfield 107, 3)), (5, (.aload_n 0, 1)), (6, (.getfield 13, 3)), (9, (.iconst 1, 1)), (10, (.iaload, 1)), (11, (.istore_n 1, 1)), (12, (.iload_n 1, 1)), (13, (.iconst 5, 1)), (14, (.if_icmp .ne 10, 3)), (17, (.aload_n 0, 1)), (18, (.bipush (-5), 2)), (20, (.invokevirtual 125, 3)), (23, (.ireturn, 1)), (24, (.iconst 0, 1)), (25, (.istore_n 2, 1)), (26, (.iload_n 2, 1)), (27, (.bipush 24, 2)), (29, (.if_icmp .ge 24, 3)), (32, (.aload_n 0, 1)), (33, (.getfield 13, 3)), (36, (.bipush 110, 2)), (38, (.bipush 24, 2)), (40, (.iload_n 1, 1)), (41, (.imul, 1)), (42, (.iadd, 1)), (43, (.iload_n 2, 1)), (44, (.iadd, 1)), (45, (.iconst (-1), 1)), (46, (.iastore, 1)), (47, (.iinc 2 1, 3)), (50, (.goto (-24), 3)), (53, (.aload_n 0, 1)), (54, (.getfield 13, 3)), (57, (.iconst 1, 1)), (58, (.dup2, 1)), (59, (.iaload, 1)), (60, (.iconst 1, 1)), (61, (.iadd, 1))] : List (Nat × (Instr × Nat))), decode cX12_body r.1 = .ok r.2 := by decide +kernel
theorem dX12_body_0 : decode cX12_body 0 = .ok (.aload_n 0, 1) := dgX12_body_0 (0, (.aload_n 0, 1)) (List.mem_of_getElem? (i := 0) rfl)
theorem dX12_body_1 : decode cX12_body 1 = .ok (.iconst 0, 1) := dgX12_body_0 (1, (.iconst 0, 1)) (List.mem_of_getElem? (i := 1) rfl)
theorem dX12_body_2 : decode cX12_body 2 = .ok (.putfield 107, 3) := dgX12_body_0 (2, (.putfield 107, 3)) (List.mem_of_getElem? (i := 2) rfl)
theorem dX12_body_5 : decode cX12_body 5 = .ok (.aload_n 0, 1) := dgX12_body_0 (5, (.aload_n 0, 1)) (List.mem_of_getElem? (i := 3) rfl)
theorem dX12_body_6 : decode cX12_body 6 = .ok (.getfield 13, 3) := dgX12_body_0 (6, (.getfield 13, 3)) (List.mem_of_getElem? (i := 4) rfl)
theorem dX12_body_9 : decode cX12_body 9 = .ok (.iconst 1, 1) := dgX12_body_0 (9, (.iconst 1, 1)) (List.mem_of_getElem? (i := 5) rfl)
theorem dX12_body_10 : decode cX12_body 10 = .ok (.iaload, 1) := dgX12_body_0 (10, (.iaload, 1)) (List.mem_of_getElem? (i := 6) rfl)
theorem dX12_body_11 : decode cX12_body 11 = .ok (.istore_n 1, 1) := dgX12_body_0 (11, (.istore_n 1, 1)) (List.mem_of_getElem? (i := 7) rfl)
theorem dX12_body_12 : decode cX12_body 12 = .ok (.iload_n 1, 1) := dgX12_body_0 (12, (.iload_n 1, 1)) (List.mem_of_getElem? (i := 8) rfl)
theorem dX12_body_13 : decode cX12_body 13 = .ok (.iconst 5, 1) := dgX12_body_0 (13, (.iconst 5, 1)) (List.mem_of_getElem? (i := 9) rfl)
theorem dX12_body_14 : decode cX12_body 14 = .ok (.if_icmp .ne 10, 3) := dgX12_body_0 (14, (.if_icmp .ne 10, 3)) (List.mem_of_getElem? (i := 10) rfl)
theorem dX12_body_17 : decode cX12_body 17 = .ok (.aload_n 0, 1) := dgX12_body_0 (17, (.aload_n 0, 1)) (List.mem_of_getElem? (i := 11) rfl)
theorem dX12_body_18 : decode cX12_body 18 = .ok (.bipush (-5), 2) := dgX12_body_0 (18, (.bipush (-5), 2)) (List.mem_of_getElem? (i := 12) rfl)
theorem dX12_body_20 : decode cX12_body 20 = .ok (.invokevirtual 125, 3) := dgX12_body_0 (20, (.invokevirtual 125, 3)) (List.mem_of_getElem? (i := 13) rfl)
theorem dX12_body_23 : decode cX12_body 23 = .ok (.ireturn, 1) := dgX12_body_0 (23, (.ireturn, 1)) (List.mem_of_getElem? (i := 14) rfl)
theorem dX12_body_24 : decode cX12_body 24 = .ok (.iconst 0, 1) := dgX12_body_0 (24, (.iconst 0, 1)) (List.mem_of_getElem? (i := 15) rfl)
theorem dX12_body_25 : decode cX12_body 25 = .ok (.istore_n 2, 1) := dgX12_body_0 (25, (.istore_n 2, 1)) (List.mem_of_getElem? (i := 16) rfl)
theorem dX12_body_26 : decode cX12_body 26 = .ok (.iload_n 2, 1) := dgX12_body_0 (26, (.iload_n 2, 1)) (List.mem_of_getElem? (i := 17) rfl)
theorem dX12_body_27 : decode cX12_body 27 = .ok (.bipush 24, 2) := dgX12_body_0 (27, (.bipush 24, 2)) (List.mem_of_getElem? (i := 18) rfl)
theorem dX12_body_29 : decode cX12_body 29 = .ok (.if_icmp .ge 24, 3) := dgX12_body_0 (29, (.if_icmp .ge 24, 3)) (List.mem_of_getElem? (i := 19) rfl)
theorem dX12_body_32 : decode cX12_body 32 = .ok (.aload_n 0, 1) := dgX12_body_0 (32, (.aload_n 0, 1)) (List.mem_of_getElem? (i := 20) rfl)
theorem dX12_body_33 : decode cX12_body 33 = .ok (.getfield 13, 3) := dgX12_body_0 (33, (.getfield 13, 3)) (List.mem_of_getElem? (i := 21) rfl)
theorem dX12_body_36 : decode cX12_body 36 = .ok (.bipush 110, 2) := dgX12_body_0 (36, (.bipush 110, 2)) (List.mem_of_getElem? (i := 22) rfl)
theorem dX12_body_38 : decode cX12_body 38 = .ok (.bipush 24, 2) := dgX12_body_0 (38, (.bipush 24, 2)) (List.mem_of_getElem? (i := 23) rfl)
theorem dX12_body_40 : decode cX12_body 40 = .ok (.iload_n 1, 1) := dgX12_body_0 (40, (.iload_n 1, 1)) (List.mem_of_getElem? (i := 24) rfl)
theorem dX12_body_41 : decode cX12_body 41 = .ok (.imul, 1) := dgX12_body_0 (41, (.imul, 1)) (List.mem_of_getElem? (i := 25) rfl)
theorem dX12_body_42 : decode cX12_body 42 = .ok (.iadd, 1) := dgX12_body_0 (42, (.iadd, 1)) (List.mem_of_getElem? (i := 26) rfl)
theorem dX12_body_43 : decode cX12_body 43 = .ok (.iload_n 2, 1) := dgX12_body_0 (43, (.iload_n 2, 1)) (List.mem_of_getElem? (i := 27) rfl)
theorem dX12_body_44 : decode cX12_body 44 = .ok (.iadd, 1) := dgX12_body_0 (44, (.iadd, 1)) (List.mem_of_getElem? (i := 28) rfl)
theorem dX12_body_45 : decode cX12_body 45 = .ok (.iconst (-1), 1) := dgX12_body_0 (45, (.iconst (-1), 1)) (List.mem_of_getElem? (i := 29) rfl)
theorem dX12_body_46 : decode cX12_body 46 = .ok (.iastore, 1) := dgX12_body_0 (46, (.iastore, 1)) (List.mem_of_getElem? (i := 30) rfl)
theorem dX12_body_47 : decode cX12_body 47 = .ok (.iinc 2 1, 3) := dgX12_body_0 (47, (.iinc 2 1, 3)) (List.mem_of_getElem? (i := 31) rfl)
theorem dX12_body_50 : decode cX12_body 50 = .ok (.goto (-24), 3) := dgX12_body_0 (50, (.goto (-24), 3)) (List.mem_of_getElem? (i := 32) rfl)
theorem dX12_body_53 : decode cX12_body 53 = .ok (.aload_n 0, 1) := dgX12_body_0 (53, (.aload_n 0, 1)) (List.mem_of_getElem? (i := 33) rfl)
theorem dX12_body_54 : decode cX12_body 54 = .ok (.getfield 13, 3) := dgX12_body_0 (54, (.getfield 13, 3)) (List.mem_of_getElem? (i := 34) rfl)
theorem dX12_body_57 : decode cX12_body 57 = .ok (.iconst 1, 1) := dgX12_body_0 (57, (.iconst 1, 1)) (List.mem_of_getElem? (i := 35) rfl)
theorem dX12_body_58 : decode cX12_body 58 = .ok (.dup2, 1) := dgX12_body_0 (58, (.dup2, 1)) (List.mem_of_getElem? (i := 36) rfl)
theorem dX12_body_59 : decode cX12_body 59 = .ok (.iaload, 1) := dgX12_body_0 (59, (.iaload, 1)) (List.mem_of_getElem? (i := 37) rfl)
theorem dX12_body_60 : decode cX12_body 60 = .ok (.iconst 1, 1) := dgX12_body_0 (60, (.iconst 1, 1)) (List.mem_of_getElem? (i := 38) rfl)
theorem dX12_body_61 : decode cX12_body 61 = .ok (.iadd, 1) := dgX12_body_0 (61, (.iadd, 1)) (List.mem_of_getElem? (i := 39) rfl)
theorem dgX12_body_1 : ∀ r ∈ ([(62, (.iastore, 1)), (63, (.aload_n 0, 1)), (64, (.iload_n 1, 1)), (65, (.invokevirtual 125, 3)), (68, (.ireturn, 1))] : List (Nat × (Instr × Nat))), decode cX12_body r.1 = .ok r.2 := by decide +kernel
theorem dX12_body_62 : decode cX12_body 62 = .ok (.iastore, 1) := dgX12_body_1 (62, (.iastore, 1)) (List.mem_of_getElem? (i := 0) rfl)
theorem dX12_body_63 : decode cX12_body 63 = .ok (.aload_n 0, 1) := dgX12_body_1 (63, (.aload_n 0, 1)) (List.mem_of_getElem? (i := 1) rfl)
theorem dX12_body_64 : decode cX12_body 64 = .ok (.iload_n 1, 1) := dgX12_body_1 (64, (.iload_n 1, 1)) (List.mem_of_getElem? (i := 2) rfl)
theorem dX12_body_65 : decode cX12_body 65 = .ok (.invokevirtual 125, 3) := dgX12_body_1 (65, (.invokevirtual 125, 3)) (List.mem_of_getElem? (i := 3) rfl)
theorem dX12_body_68 : decode cX12_body 68 = .ok (.ireturn, 1) := dgX12_body_1 (68, (.ireturn, 1)) (List.mem_of_getElem? (i := 4) rfl)
theorem dgX12_stays_0 : ∀ r ∈ ([(0, (.iload_n 2, 1)), (1, (.istore 5, 2)), (3, (.iload 5, 2)), (5, (.iload_n 3, 1)), (6, (.if_icmp .gt 26, 3)), (9, (.aload_n 0, 1)), (10, (.getfield 13, 3)), (13, (.bipush 110, 2)), (15, (.bipush 24, 2)), (17, (.iload_n 1, 1)), (18, (.imul, 1)), (19, (.iadd, 1)), (20, (.iload 5, 2)), (22, (.iadd, 1)), (23, (.iload 4, 2)), (25, (.iastore, 1)), (26, (.iinc 5 1, 3)), (29, (.goto (-26), 3)), (32, (.return_, 1))] : List (Nat × (Instr × Nat))), decode cX12_stays r.1 = .ok r.2 := by decide +kernel
theorem dX12_stays_0 : decode cX12_stays 0 = .ok (.iload_n 2, 1) := dgX12_stays_0 (0, (.iload_n 2, 1)) (List.mem_of_getElem? (i := 0) rfl)
theorem dX12_stays_1 : decode cX12_stays 1 = .ok (.istore 5, 2) := dgX12_stays_0 (1, (.istore 5, 2)) (List.mem_of_getElem? (i := 1) rfl)
theorem dX12_stays_3 : decode cX12_stays 3 = .ok (.iload 5, 2) := dgX12_stays_0 (3, (.iload 5, 2)) (List.mem_of_getElem? (i := 2) rfl)
theorem dX12_stays_5 : decode cX12_stays 5 = .ok (.iload_n 3, 1) := dgX12_stays_0 (5, (.iload_n 3, 1)) (List.mem_of_getElem? (i := 3) rfl)
theorem dX12_stays_6 : decode cX12_stays 6 = .ok (.if_icmp .gt 26, 3) := dgX12_stays_0 (6, (.if_icmp .gt 26, 3)) (List.mem_of_getElem? (i := 4) rfl)
theorem dX12_stays_9 : decode cX12_stays 9 = .ok (.aload_n 0, 1) := dgX12_stays_0 (9, (.aload_n 0, 1)) (List.mem_of_getElem? (i := 5) rfl)
theorem dX12_stays_10 : decode cX12_stays 10 = .ok (.getfield 13, 3) := dgX12_stays_0 (10, (.getfield 13, 3)) (List.mem_of_getElem? (i := 6) rfl)
theorem dX12_stays_13 : decode cX12_stays 13 = .ok (.bipush 110, 2) := dgX12_stays_0 (13, (.bipush 110, 2)) (List.mem_of_getElem? (i := 7) rfl)
theorem dX12_stays_15 : decode cX12_stays 15 = .ok (.bipush 24, 2) := dgX12_stays_0 (15, (.bipush 24, 2)) (List.mem_of_getElem? (i := 8) rfl)
theorem dX12_stays_17 : decode cX12_stays 17 = .ok (.iload_n 1, 1) := dgX12_stays_0 (17, (.iload_n 1, 1)) (List.mem_of_getElem? (i := 9) rfl)
theorem dX12_stays_18 : decode cX12_stays 18 = .ok (.imul, 1) := dgX12_stays_0 (18, (.imul, 1)) (List.mem_of_getElem? (i := 10) rfl)
theorem dX12_stays_19 : decode cX12_stays 19 = .ok (.iadd, 1) := dgX12_stays_0 (19, (.iadd, 1)) (List.mem_of_getElem? (i := 11) rfl)
theorem dX12_stays_20 : decode cX12_stays 20 = .ok (.iload 5, 2) := dgX12_stays_0 (20, (.iload 5, 2)) (List.mem_of_getElem? (i := 12) rfl)
theorem dX12_stays_22 : decode cX12_stays 22 = .ok (.iadd, 1) := dgX12_stays_0 (22, (.iadd, 1)) (List.mem_of_getElem? (i := 13) rfl)
theorem dX12_stays_23 : decode cX12_stays 23 = .ok (.iload 4, 2) := dgX12_stays_0 (23, (.iload 4, 2)) (List.mem_of_getElem? (i := 14) rfl)
theorem dX12_stays_25 : decode cX12_stays 25 = .ok (.iastore, 1) := dgX12_stays_0 (25, (.iastore, 1)) (List.mem_of_getElem? (i := 15) rfl)
theorem dX12_stays_26 : decode cX12_stays 26 = .ok (.iinc 5 1, 3) := dgX12_stays_0 (26, (.iinc 5 1, 3)) (List.mem_of_getElem? (i := 16) rfl)
theorem dX12_stays_29 : decode cX12_stays 29 = .ok (.goto (-26), 3) := dgX12_stays_0 (29, (.goto (-26), 3)) (List.mem_of_getElem? (i := 17) rfl)
theorem dX12_stays_32 : decode cX12_stays 32 = .ok (.return_, 1) := dgX12_stays_0 (32, (.return_, 1)) (List.mem_of_getElem? (i := 18) rfl)
theorem dgX12_stay_0 : ∀ r ∈ ([(0, (.aload_n 0, 1)), (1, (.iconst 0, 1)), (2, (.putfield 107, 3)), (5, (.iload_n 2, 1)), (6, (.invokestatic 175, 3)), (9, (.ifCond .eq 30, 3)), (12, (.iload_n 3, 1)), (13, (.invokestatic 175, 3)), (16, (.ifCond .eq 23, 3)), (19, (.iload_n 3, 1)), (20, (.iload_n 2, 1)), (21, (.if_icmp .lt 18, 3)), (24, (.iload 4, 2)), (26, (.i2l, 1)), (27, (.ldc2_w 178, 3)), (30, (.ldc2_w 128, 3)), (33, (.invokestatic 121, 3)), (36, (.ifCond .ne 9, 3)), (39, (.aload_n 0, 1)), (40, (.iconst (-1), 1)), (41, (.invokevirtual 125, 3)), (44, (.ireturn, 1)), (45, (.aload_n 0, 1)), (46, (.iload_n 1, 1)), (47, (.invokevirtual 180, 3)), (50, (.ifCond .ne 10, 3)), (53, (.aload_n 0, 1)), (54, (.bipush (-2), 2)), (56, (.invokevirtual 125, 3)), (59, (.ireturn, 1)), (60, (.iload 4, 2)), (62, (.iconst (-1), 1)), (63, (.if_icmp .eq 29, 3)), (66, (.aload_n 0, 1)), (67, (.iload 4, 2)), (69, (.iconst (-1), 1)), (70, (.if_icmp .ne 7, 3)), (73, (.iconst 0, 1)), (74, (.goto 5, 3)), (77, (.iload 4, 2))] : List (Nat × (Instr × Nat))), decode cX12_stay r.1 = .ok r.2 := by decide +kernel
theorem dX12_stay_0 : decode cX12_stay 0 = .ok (.aload_n 0, 1) := dgX12_stay_0 (0, (.aload_n 0, 1)) (List.mem_of_getElem? (i := 0) rfl)
theorem dX12_stay_1 : decode cX12_stay 1 = .ok (.iconst 0, 1) := dgX12_stay_0 (1, (.iconst 0, 1)) (List.mem_of_getElem? (i := 1) rfl)
theorem dX12_stay_2 : decode cX12_stay 2 = .ok (.putfield 107, 3) := dgX12_stay_0 (2, (.putfield 107, 3)) (List.mem_of_getElem? (i := 2) rfl)
theorem dX12_stay_5 : decode cX12_stay 5 = .ok (.iload_n 2, 1) := dgX12_stay_0 (5, (.iload_n 2, 1)) (List.mem_of_getElem? (i := 3) rfl)
theorem dX12_stay_6 : decode cX12_stay 6 = .ok (.invokestatic 175, 3) := dgX12_stay_0 (6, (.invokestatic 175, 3)) (List.mem_of_getElem? (i := 4) rfl)
theorem dX12_stay_9 : decode cX12_stay 9 = .ok (.ifCond .eq 30, 3) := dgX12_stay_0 (9, (.ifCond .eq 30, 3)) (List.mem_of_getElem? (i := 5) rfl)
theorem dX12_stay_12 : decode cX12_stay 12 = .ok (.iload_n 3, 1) := dgX12_stay_0 (12, (.iload_n 3, 1)) (List.mem_of_getElem? (i := 6) rfl)
theorem dX12_stay_13 : decode cX12_stay 13 = .ok (.invokestatic 175, 3) := dgX12_stay_0 (13, (.invokestatic 175, 3)) (List.mem_of_getElem? (i := 7) rfl)
theorem dX12_stay_16 : decode cX12_stay 16 = .ok (.ifCond .eq 23, 3) := dgX12_stay_0 (16, (.ifCond .eq 23, 3)) (List.mem_of_getElem? (i := 8) rfl)
theorem dX12_stay_19 : decode cX12_stay 19 = .ok (.iload_n 3, 1) := dgX12_stay_0 (19, (.iload_n 3, 1)) (List.mem_of_getElem? (i := 9) rfl)
theorem dX12_stay_20 : decode cX12_stay 20 = .ok (.iload_n 2, 1) := dgX12_stay_0 (20, (.iload_n 2, 1)) (List.mem_of_getElem? (i := 10) rfl)
theorem dX12_stay_21 : decode cX12_stay 21 = .ok (.if_icmp .lt 18, 3) := dgX12_stay_0 (21, (.if_icmp .lt 18, 3)) (List.mem_of_getElem? (i := 11) rfl)
theorem dX12_stay_24 : decode cX12_stay 24 = .ok (.iload 4, 2) := dgX12_stay_0 (24, (.iload 4, 2)) (List.mem_of_getElem? (i := 12) rfl)
theorem dX12_stay_26 : decode cX12_stay 26 = .ok (.i2l, 1) := dgX12_stay_0 (26, (.i2l, 1)) (List.mem_of_getElem? (i := 13) rfl)
theorem dX12_stay_27 : decode cX12_stay 27 = .ok (.ldc2_w 178, 3) := dgX12_stay_0 (27, (.ldc2_w 178, 3)) (List.mem_of_getElem? (i := 14) rfl)
theorem dX12_stay_30 : decode cX12_stay 30 = .ok (.ldc2_w 128, 3) := dgX12_stay_0 (30, (.ldc2_w 128, 3)) (List.mem_of_getElem? (i := 15) rfl)
theorem dX12_stay_33 : decode cX12_stay 33 = .ok (.invokestatic 121, 3) := dgX12_stay_0 (33, (.invokestatic 121, 3)) (List.mem_of_getElem? (i := 16) rfl)
theorem dX12_stay_36 : decode cX12_stay 36 = .ok (.ifCond .ne 9, 3) := dgX12_stay_0 (36, (.ifCond .ne 9, 3)) (List.mem_of_getElem? (i := 17) rfl)
theorem dX12_stay_39 : decode cX12_stay 39 = .ok (.aload_n 0, 1) := dgX12_stay_0 (39, (.aload_n 0, 1)) (List.mem_of_getElem? (i := 18) rfl)
theorem dX12_stay_40 : decode cX12_stay 40 = .ok (.iconst (-1), 1) := dgX12_stay_0 (40, (.iconst (-1), 1)) (List.mem_of_getElem? (i := 19) rfl)
theorem dX12_stay_41 : decode cX12_stay 41 = .ok (.invokevirtual 125, 3) := dgX12_stay_0 (41, (.invokevirtual 125, 3)) (List.mem_of_getElem? (i := 20) rfl)
theorem dX12_stay_44 : decode cX12_stay 44 = .ok (.ireturn, 1) := dgX12_stay_0 (44, (.ireturn, 1)) (List.mem_of_getElem? (i := 21) rfl)
theorem dX12_stay_45 : decode cX12_stay 45 = .ok (.aload_n 0, 1) := dgX12_stay_0 (45, (.aload_n 0, 1)) (List.mem_of_getElem? (i := 22) rfl)
theorem dX12_stay_46 : decode cX12_stay 46 = .ok (.iload_n 1, 1) := dgX12_stay_0 (46, (.iload_n 1, 1)) (List.mem_of_getElem? (i := 23) rfl)
theorem dX12_stay_47 : decode cX12_stay 47 = .ok (.invokevirtual 180, 3) := dgX12_stay_0 (47, (.invokevirtual 180, 3)) (List.mem_of_getElem? (i := 24) rfl)
theorem dX12_stay_50 : decode cX12_stay 50 = .ok (.ifCond .ne 10, 3) := dgX12_stay_0 (50, (.ifCond .ne 10, 3)) (List.mem_of_getElem? (i := 25) rfl)
theorem dX12_stay_53 : decode cX12_stay 53 = .ok (.aload_n 0, 1) := dgX12_stay_0 (53, (.aload_n 0, 1)) (List.mem_of_getElem? (i := 26) rfl)
theorem dX12_stay_54 : decode cX12_stay 54 = .ok (.bipush (-2), 2) := dgX12_stay_0 (54, (.bipush (-2), 2)) (List.mem_of_getElem? (i := 27) rfl)
theorem dX12_stay_56 : decode cX12_stay 56 = .ok (.invokevirtual 125, 3) := dgX12_stay_0 (56, (.invokevirtual 125, 3)) (List.mem_of_getElem? (i := 28) rfl)
theorem dX12_stay_59 : decode cX12_stay 59 = .ok (.ireturn, 1) := dgX12_stay_0 (59, (.ireturn, 1)) (List.mem_of_getElem? (i := 29) rfl)
theorem dX12_stay_60 : decode cX12_stay 60 = .ok (.iload 4, 2) := dgX12_stay_0 (60, (.iload 4, 2)) (List.mem_of_getElem? (i := 30) rfl)
theorem dX12_stay_62 : decode cX12_stay 62 = .ok (.iconst (-1), 1) := dgX12_stay_0 (62, (.iconst (-1), 1)) (List.mem_of_getElem? (i := 31) rfl)
theorem dX12_stay_63 : decode cX12_stay 63 = .ok (.if_icmp .eq 29, 3) := dgX12_stay_0 (63, (.if_icmp .eq 29, 3)) (List.mem_of_getElem? (i := 32) rfl)
theorem dX12_stay_66 : decode cX12_stay 66 = .ok (.aload_n 0, 1) := dgX12_stay_0 (66, (.aload_n 0, 1)) (List.mem_of_getElem? (i := 33) rfl)
theorem dX12_stay_67 : decode cX12_stay 67 = .ok (.iload 4, 2) := dgX12_stay_0 (67, (.iload 4, 2)) (List.mem_of_getElem? (i := 34) rfl)
theorem dX12_stay_69 : decode cX12_stay 69 = .ok (.iconst (-1), 1) := dgX12_stay_0 (69, (.iconst (-1), 1)) (List.mem_of_getElem? (i := 35) rfl)
theorem dX12_stay_70 : decode cX12_stay 70 = .ok (.if_icmp .ne 7, 3) := dgX12_stay_0 (70, (.if_icmp .ne 7, 3)) (List.mem_of_getElem? (i := 36) rfl)
theorem dX12_stay_77 : decode cX12_stay 77 = .ok (.iload 4, 2) := dgX12_stay_0 (77, (.iload 4, 2)) (List.mem_of_getElem? (i := 39) rfl)
theorem dgX12_stay_1 : ∀ r ∈ ([(79, (.invokevirtual 160, 3)), (82, (.ifCond .eq 10, 3)), (85, (.aload_n 0, 1)), (86, (.bipush (-3), 2)), (88, (.invokevirtual 125, 3)), (91, (.ireturn, 1)), (92, (.aload_n 0, 1)), (93, (.iload_n 1, 1)), (94, (.iload_n 2, 1)), (95, (.iload_n 3, 1)), (96, (.iload 4, 2)), (98, (.invokevirtual 183, 3)), (101, (.aload_n 0, 1)), (102, (.iconst 0, 1)), (103, (.invokevirtual 125, 3)), (106, (.ireturn, 1))] : List (Nat × (Instr × Nat))), decode cX12_stay r.1 = .ok r.2 := by decide +kernel
theorem dX12_stay_79 : decode cX12_stay 79 = .ok (.invokevirtual 160, 3) := dgX12_stay_1 (79, (.invokevirtual 160, 3)) (List.mem_of_getElem? (i := 0) rfl)
theorem dX12_stay_82 : decode cX12_stay 82 = .ok (.ifCond .eq 10, 3) := dgX12_stay_1 (82, (.ifCond .eq 10, 3)) (List.mem_of_getElem? (i := 1) rfl)
theorem dX12_stay_85 : decode cX12_stay 85 = .ok (.aload_n 0, 1) := dgX12_stay_1 (85, (.aload_n 0, 1)) (List.mem_of_getElem? (i := 2) rfl)
theorem dX12_stay_86 : decode cX12_stay 86 = .ok (.bipush (-3), 2) := dgX12_stay_1 (86, (.bipush (-3), 2)) (List.mem_of_getElem? (i := 3) rfl)
theorem dX12_stay_88 : decode cX12_stay 88 = .ok (.invokevirtual 125, 3) := dgX12_stay_1 (88, (.invokevirtual 125, 3)) (List.mem_of_getElem? (i := 4) rfl)
theorem dX12_stay_91 : decode cX12_stay 91 = .ok (.ireturn, 1) := dgX12_stay_1 (91, (.ireturn, 1)) (List.mem_of_getElem? (i := 5) rfl)
theorem dX12_stay_92 : decode cX12_stay 92 = .ok (.aload_n 0, 1) := dgX12_stay_1 (92, (.aload_n 0, 1)) (List.mem_of_getElem? (i := 6) rfl)
theorem dX12_stay_93 : decode cX12_stay 93 = .ok (.iload_n 1, 1) := dgX12_stay_1 (93, (.iload_n 1, 1)) (List.mem_of_getElem? (i := 7) rfl)
theorem dX12_stay_94 : decode cX12_stay 94 = .ok (.iload_n 2, 1) := dgX12_stay_1 (94, (.iload_n 2, 1)) (List.mem_of_getElem? (i := 8) rfl)
theorem dX12_stay_95 : decode cX12_stay 95 = .ok (.iload_n 3, 1) := dgX12_stay_1 (95, (.iload_n 3, 1)) (List.mem_of_getElem? (i := 9) rfl)
theorem dX12_stay_96 : decode cX12_stay 96 = .ok (.iload 4, 2) := dgX12_stay_1 (96, (.iload 4, 2)) (List.mem_of_getElem? (i := 10) rfl)
theorem dX12_stay_98 : decode cX12_stay 98 = .ok (.invokevirtual 183, 3) := dgX12_stay_1 (98, (.invokevirtual 183, 3)) (List.mem_of_getElem? (i := 11) rfl)
theorem dX12_stay_101 : decode cX12_stay 101 = .ok (.aload_n 0, 1) := dgX12_stay_1 (101, (.aload_n 0, 1)) (List.mem_of_getElem? (i := 12) rfl)
theorem dX12_stay_102 : decode cX12_stay 102 = .ok (.iconst 0, 1) := dgX12_stay_1 (102, (.iconst 0, 1)) (List.mem_of_getElem? (i := 13) rfl)
theorem dX12_stay_103 : decode cX12_stay 103 = .ok (.invokevirtual 125, 3) := dgX12_stay_1 (103, (.invokevirtual 125, 3)) (List.mem_of_getElem? (i := 14) rfl)
theorem dX12_stay_106 : decode cX12_stay 106 = .ok (.ireturn, 1) := dgX12_stay_1 (106, (.ireturn, 1)) (List.mem_of_getElem? (i := 15) rfl)
theorem kl_X12_178 : Cond.constantLong RX12 178 (-1) ∈ tblG := tg 1450 (by decide +kernel) (by decide +kernel)
set_option maxHeartbeats 4000000 in
set_option maxRecDepth 100000 in
theorem n_in_m1_63 (l : Launch) (G : g5_G) (sz : Nat) (p_x : Int32) : Met l yX12_in (wsG yX12_in cX12_in 6 (some .boolean)) ({ frames := 0, cells := 0, slots := 0, locals := 0 }) (va_Pc [.long p_x.toInt64, .long (-1), .long 63] (g5_P G [] sz)) (va_Qi (fun (r : Int32) (u : va_W) => ((p_x.toInt < (-1) ∨ 63 < p_x.toInt) ∧ (r = 0) ∧ (u = [])) ∨ (((-1) ≤ p_x.toInt ∧ p_x.toInt ≤ 63) ∧ (r = 1) ∧ (u = []))) (g5_B G (va_A [] sz)) (va_A [] sz)) 0 0 (va_A [] sz) := by
  refine Met.ofW (cc := cX12_in) (maxL := 6) (ret := (some .boolean)) (by decide) rfl ?_
  intro p e s m args below meth c s₁ B hml hv
  obtain ⟨rfl, hsz, hP, hK, hD0, hN, hT⟩ := hv
  have hx := B.exec
  have hb := B.bytes
  have hr := B.returns
  have hts : ∀ w ∈ tblG, w.before _ s = true := fun w h => atoms_spec (ws := (wsG yX12_in cX12_in 6 (some .boolean))) B.pre w (List.mem_cons_of_mem _ h)
  have hown : s.vm.findClass RX12 = some m.cls := findClass_of_methodNamed B.named
  have hlocks := B.notSynchronized
  subst hsz
  have hD := hD0.self (sz := s.heap.size)
  generalize hAe : va_A [] s.heap.size = A at hD hT ⊢
  have hA : ∀ q : Nat, s.heap.size ≤ q → A q := fun q h => by rw [← hAe]; exact Or.inr h
  have hS : va_S A s.heap s.heap [] := va_S.rf
  have hP : va_P G.1 vwCl [] s.heap := hP
  have hl := lv_entry ([.long p_x.toInt64, .long (-1), .long 63]) (n := 6) (Nat.le_of_ble_eq_true rfl)
  rw [lg_entry_eq]
  generalize (lg_sl ([.long p_x.toInt64, .long (-1), .long 63]) ++ List.replicate (6 - (lg_sl ([.long p_x.toInt64, .long (-1), .long 63])).length) Slot.unset).toArray = ls at hl ⊢
  have hl : lv_has ls 6 [(0, .long p_x.toInt64), (2, .long (-1)), (4, .long 63)] := hl
  refine lv_lload_n hx hb dX12_in_0 rfl (lv_at hl 0 rfl) ?_
  refine lv_lload_n hx hb dX12_in_1 rfl (lv_at hl 1 rfl) ?_
  have tl_1 : p_x.toInt64.toInt = p_x.toInt := Int32.toInt_toInt64 _
  have tl_2 : ((-1) : Int64).toInt = (-1) := (by decide)
  have tc_3 := g5_cmpI p_x.toInt64 (-1)
  refine W.lcmp hx hb dX12_in_2 ?_
  refine lv_if_lt (tgt := 17) hx hb dX12_in_3 (by decide) (fun c_4 => ?_) (fun c_4 => ?_)
  ·
    have i_4 : (lg_cmp p_x.toInt64 (-1)).toInt < 0 := by have z := g5_lt (a := (lg_cmp p_x.toInt64 (-1)).toInt) (b := 0) (by rfl) (by decide) c_4; omega
    refine lv_iconst (v := 0) hx hb dX12_in_17 (by decide) ?_
    exact W.zret (v := 0) hx hb hr rfl (fun t ht hW => ⟨⟨0, [], rfl, Or.inl (⟨by omega, rfl, rfl⟩), by rw [ht]; exact hP.sub [] rfl, hD.sub [] (by decide) rfl⟩, hS.F ht⟩) hS.2.2 dX12_in_18
  ·
    have i_4 : (lg_cmp p_x.toInt64 (-1)).toInt ≥ 0 := by have z := g5_ltN (a := (lg_cmp p_x.toInt64 (-1)).toInt) (b := 0) (by rfl) (by decide) c_4; omega
    refine lv_lload_n hx hb dX12_in_6 rfl (lv_at hl 0 rfl) ?_
    refine lv_lload hx hb dX12_in_7 (lv_at hl 2 rfl) ?_
    have tl_5 : p_x.toInt64.toInt = p_x.toInt := Int32.toInt_toInt64 _
    have tl_6 : (63 : Int64).toInt = 63 := (by decide)
    have tc_7 := g5_cmpI p_x.toInt64 63
    refine W.lcmp hx hb dX12_in_9 ?_
    refine lv_if_gt (tgt := 17) hx hb dX12_in_10 (by decide) (fun c_8 => ?_) (fun c_8 => ?_)
    ·
      have i_8 : (lg_cmp p_x.toInt64 63).toInt > 0 := by have z := g5_gt (a := (lg_cmp p_x.toInt64 63).toInt) (b := 0) (by rfl) (by decide) c_8; omega
      refine lv_iconst (v := 0) hx hb dX12_in_17 (by decide) ?_
      exact W.zret (v := 0) hx hb hr rfl (fun t ht hW => ⟨⟨0, [], rfl, Or.inl (⟨by omega, rfl, rfl⟩), by rw [ht]; exact hP.sub [] rfl, hD.sub [] (by decide) rfl⟩, hS.F ht⟩) hS.2.2 dX12_in_18
    ·
      have i_8 : (lg_cmp p_x.toInt64 63).toInt ≤ 0 := by have z := g5_gtN (a := (lg_cmp p_x.toInt64 63).toInt) (b := 0) (by rfl) (by decide) c_8; omega
      refine lv_iconst (v := 1) hx hb dX12_in_13 (by decide) ?_
      refine lv_goto (tgt := 18) hx hb dX12_in_14 (by decide) ?_
      exact W.zret (v := 1) hx hb hr rfl (fun t ht hW => ⟨⟨1, [], rfl, Or.inr (⟨by omega, rfl, rfl⟩), by rw [ht]; exact hP.sub [] rfl, hD.sub [] (by decide) rfl⟩, hS.F ht⟩) hS.2.2 dX12_in_18
theorem ml_X12_180 : Cond.methodLink RX12 180 yX12_isBody ∈ tblG := tg 1451 (by decide +kernel) (by decide +kernel)
theorem im_X12_isBody : Cond.instanceMethod yX12_isBody ∈ tblG := tg 1453 (by decide +kernel) (by decide +kernel)
theorem se_X12_isBody : Cond.selects RX12 yX12_isBody yX12_isBody ∈ tblG := tg 39 (by decide +kernel) (by decide +kernel)
theorem cd_X12_isBody : Cond.code yX12_isBody cX12_isBody 2 (some .boolean) ∈ tblG := tg 1454 (by decide +kernel) (by decide +kernel)
theorem gW_X12_isBody : GoodIn tblG (wsG yX12_isBody cX12_isBody 2 (some .boolean)) := tgi cd_X12_isBody
theorem gV_X12_180 : GoodIn tblG (wsV RX12 180 RX12 yX12_isBody (wsG yX12_isBody cX12_isBody 2 (some .boolean))) := tgV ml_X12_180 im_X12_isBody se_X12_isBody ini_X12 gW_X12_isBody
theorem hv_X12_isBody : yX12_isBody.cls = RX12 ∧ yX12_isBody.cls ≠ "java/lang/invoke/MethodHandle" ∧ yX12_isBody.cls ≠ "java/lang/invoke/VarHandle" ∧ (parseMethodDescriptor yX12_isBody.desc).map (fun d => d.parameters.length) = some 1 := by decide +kernel
theorem ml_X12_183 : Cond.methodLink RX12 183 yX12_stays ∈ tblG := tg 1455 (by decide +kernel) (by decide +kernel)
theorem im_X12_stays : Cond.instanceMethod yX12_stays ∈ tblG := tg 1457 (by decide +kernel) (by decide +kernel)
theorem se_X12_stays : Cond.selects RX12 yX12_stays yX12_stays ∈ tblG := tg 40 (by decide +kernel) (by decide +kernel)
theorem cd_X12_stays : Cond.code yX12_stays cX12_stays 6 none ∈ tblG := tg 1458 (by decide +kernel) (by decide +kernel)
theorem gW_X12_stays : GoodIn tblG (wsG yX12_stays cX12_stays 6 none) := tgi cd_X12_stays
theorem gV_X12_183 : GoodIn tblG (wsV RX12 183 RX12 yX12_stays (wsG yX12_stays cX12_stays 6 none)) := tgV ml_X12_183 im_X12_stays se_X12_stays ini_X12 gW_X12_stays
theorem hv_X12_stays : yX12_stays.cls = RX12 ∧ yX12_stays.cls ≠ "java/lang/invoke/MethodHandle" ∧ yX12_stays.cls ≠ "java/lang/invoke/VarHandle" ∧ (parseMethodDescriptor yX12_stays.desc).map (fun d => d.parameters.length) = some 4 := by decide +kernel
theorem dgX12_where_0 : ∀ r ∈ ([(0, (.aload_n 0, 1)), (1, (.iconst 0, 1)), (2, (.putfield 107, 3)), (5, (.aload_n 0, 1)), (6, (.iload_n 1, 1)), (7, (.invokevirtual 180, 3)), (10, (.ifCond .eq 19, 3)), (13, (.iload_n 2, 1)), (14, (.invokestatic 175, 3)), (17, (.ifCond .eq 12, 3)), (20, (.aload_n 0, 1)), (21, (.iload_n 1, 1)), (22, (.iload_n 2, 1)), (23, (.invokevirtual 187, 3)), (26, (.goto 4, 3)), (29, (.iconst (-1), 1)), (30, (.ireturn, 1))] : List (Nat × (Instr × Nat))), decode cX12_where r.1 = .ok r.2 := by decide +kernel
theorem dX12_where_0 : decode cX12_where 0 = .ok (.aload_n 0, 1) := dgX12_where_0 (0, (.aload_n 0, 1)) (List.mem_of_getElem? (i := 0) rfl)
theorem dX12_where_1 : decode cX12_where 1 = .ok (.iconst 0, 1) := dgX12_where_0 (1, (.iconst 0, 1)) (List.mem_of_getElem? (i := 1) rfl)
theorem dX12_where_2 : decode cX12_where 2 = .ok (.putfield 107, 3) := dgX12_where_0 (2, (.putfield 107, 3)) (List.mem_of_getElem? (i := 2) rfl)
theorem dX12_where_5 : decode cX12_where 5 = .ok (.aload_n 0, 1) := dgX12_where_0 (5, (.aload_n 0, 1)) (List.mem_of_getElem? (i := 3) rfl)
theorem dX12_where_6 : decode cX12_where 6 = .ok (.iload_n 1, 1) := dgX12_where_0 (6, (.iload_n 1, 1)) (List.mem_of_getElem? (i := 4) rfl)
theorem dX12_where_7 : decode cX12_where 7 = .ok (.invokevirtual 180, 3) := dgX12_where_0 (7, (.invokevirtual 180, 3)) (List.mem_of_getElem? (i := 5) rfl)
theorem dX12_where_10 : decode cX12_where 10 = .ok (.ifCond .eq 19, 3) := dgX12_where_0 (10, (.ifCond .eq 19, 3)) (List.mem_of_getElem? (i := 6) rfl)
theorem dX12_where_13 : decode cX12_where 13 = .ok (.iload_n 2, 1) := dgX12_where_0 (13, (.iload_n 2, 1)) (List.mem_of_getElem? (i := 7) rfl)
theorem dX12_where_14 : decode cX12_where 14 = .ok (.invokestatic 175, 3) := dgX12_where_0 (14, (.invokestatic 175, 3)) (List.mem_of_getElem? (i := 8) rfl)
theorem dX12_where_17 : decode cX12_where 17 = .ok (.ifCond .eq 12, 3) := dgX12_where_0 (17, (.ifCond .eq 12, 3)) (List.mem_of_getElem? (i := 9) rfl)
theorem dX12_where_20 : decode cX12_where 20 = .ok (.aload_n 0, 1) := dgX12_where_0 (20, (.aload_n 0, 1)) (List.mem_of_getElem? (i := 10) rfl)
theorem dX12_where_21 : decode cX12_where 21 = .ok (.iload_n 1, 1) := dgX12_where_0 (21, (.iload_n 1, 1)) (List.mem_of_getElem? (i := 11) rfl)
theorem dX12_where_22 : decode cX12_where 22 = .ok (.iload_n 2, 1) := dgX12_where_0 (22, (.iload_n 2, 1)) (List.mem_of_getElem? (i := 12) rfl)
theorem dX12_where_23 : decode cX12_where 23 = .ok (.invokevirtual 187, 3) := dgX12_where_0 (23, (.invokevirtual 187, 3)) (List.mem_of_getElem? (i := 13) rfl)
theorem dX12_where_26 : decode cX12_where 26 = .ok (.goto 4, 3) := dgX12_where_0 (26, (.goto 4, 3)) (List.mem_of_getElem? (i := 14) rfl)
theorem dX12_where_29 : decode cX12_where 29 = .ok (.iconst (-1), 1) := dgX12_where_0 (29, (.iconst (-1), 1)) (List.mem_of_getElem? (i := 15) rfl)
theorem dX12_where_30 : decode cX12_where 30 = .ok (.ireturn, 1) := dgX12_where_0 (30, (.ireturn, 1)) (List.mem_of_getElem? (i := 16) rfl)
theorem ml_X12_187 : Cond.methodLink RX12 187 yX12_whereIs ∈ tblG := tg 1463 (by decide +kernel) (by decide +kernel)
theorem im_X12_whereIs : Cond.instanceMethod yX12_whereIs ∈ tblG := tg 1465 (by decide +kernel) (by decide +kernel)
theorem se_X12_whereIs : Cond.selects RX12 yX12_whereIs yX12_whereIs ∈ tblG := tg 41 (by decide +kernel) (by decide +kernel)
theorem cd_X12_whereIs : Cond.code yX12_whereIs cX12_whereIs 3 (some .int) ∈ tblG := tg 1466 (by decide +kernel) (by decide +kernel)
theorem gW_X12_whereIs : GoodIn tblG (wsG yX12_whereIs cX12_whereIs 3 (some .int)) := tgi cd_X12_whereIs
theorem gV_X12_187 : GoodIn tblG (wsV RX12 187 RX12 yX12_whereIs (wsG yX12_whereIs cX12_whereIs 3 (some .int))) := tgV ml_X12_187 im_X12_whereIs se_X12_whereIs ini_X12 gW_X12_whereIs
theorem hv_X12_whereIs : yX12_whereIs.cls = RX12 ∧ yX12_whereIs.cls ≠ "java/lang/invoke/MethodHandle" ∧ yX12_whereIs.cls ≠ "java/lang/invoke/VarHandle" ∧ (parseMethodDescriptor yX12_whereIs.desc).map (fun d => d.parameters.length) = some 2 := by decide +kernel
theorem dgX12_least_0 : ∀ r ∈ ([(0, (.aload_n 0, 1)), (1, (.iconst 0, 1)), (2, (.putfield 107, 3)), (5, (.iload_n 1, 1)), (6, (.i2l, 1)), (7, (.lconst 0, 1)), (8, (.ldc2_w 190, 3)), (11, (.invokestatic 121, 3)), (14, (.ifCond .eq 12, 3)), (17, (.aload_n 0, 1)), (18, (.iconst 4, 1)), (19, (.iload_n 1, 1)), (20, (.invokevirtual 151, 3)), (23, (.goto 8, 3)), (26, (.aload_n 0, 1)), (27, (.iconst (-1), 1)), (28, (.invokevirtual 125, 3)), (31, (.ireturn, 1))] : List (Nat × (Instr × Nat))), decode cX12_least r.1 = .ok r.2 := by decide +kernel
theorem dX12_least_0 : decode cX12_least 0 = .ok (.aload_n 0, 1) := dgX12_least_0 (0, (.aload_n 0, 1)) (List.mem_of_getElem? (i := 0) rfl)
theorem dX12_least_1 : decode cX12_least 1 = .ok (.iconst 0, 1) := dgX12_least_0 (1, (.iconst 0, 1)) (List.mem_of_getElem? (i := 1) rfl)
theorem dX12_least_2 : decode cX12_least 2 = .ok (.putfield 107, 3) := dgX12_least_0 (2, (.putfield 107, 3)) (List.mem_of_getElem? (i := 2) rfl)
theorem dX12_least_5 : decode cX12_least 5 = .ok (.iload_n 1, 1) := dgX12_least_0 (5, (.iload_n 1, 1)) (List.mem_of_getElem? (i := 3) rfl)
theorem dX12_least_6 : decode cX12_least 6 = .ok (.i2l, 1) := dgX12_least_0 (6, (.i2l, 1)) (List.mem_of_getElem? (i := 4) rfl)
theorem dX12_least_7 : decode cX12_least 7 = .ok (.lconst 0, 1) := dgX12_least_0 (7, (.lconst 0, 1)) (List.mem_of_getElem? (i := 5) rfl)
theorem dX12_least_8 : decode cX12_least 8 = .ok (.ldc2_w 190, 3) := dgX12_least_0 (8, (.ldc2_w 190, 3)) (List.mem_of_getElem? (i := 6) rfl)
theorem dX12_least_11 : decode cX12_least 11 = .ok (.invokestatic 121, 3) := dgX12_least_0 (11, (.invokestatic 121, 3)) (List.mem_of_getElem? (i := 7) rfl)
theorem dX12_least_14 : decode cX12_least 14 = .ok (.ifCond .eq 12, 3) := dgX12_least_0 (14, (.ifCond .eq 12, 3)) (List.mem_of_getElem? (i := 8) rfl)
theorem dX12_least_17 : decode cX12_least 17 = .ok (.aload_n 0, 1) := dgX12_least_0 (17, (.aload_n 0, 1)) (List.mem_of_getElem? (i := 9) rfl)
theorem dX12_least_18 : decode cX12_least 18 = .ok (.iconst 4, 1) := dgX12_least_0 (18, (.iconst 4, 1)) (List.mem_of_getElem? (i := 10) rfl)
theorem dX12_least_19 : decode cX12_least 19 = .ok (.iload_n 1, 1) := dgX12_least_0 (19, (.iload_n 1, 1)) (List.mem_of_getElem? (i := 11) rfl)
theorem dX12_least_20 : decode cX12_least 20 = .ok (.invokevirtual 151, 3) := dgX12_least_0 (20, (.invokevirtual 151, 3)) (List.mem_of_getElem? (i := 12) rfl)
theorem dX12_least_23 : decode cX12_least 23 = .ok (.goto 8, 3) := dgX12_least_0 (23, (.goto 8, 3)) (List.mem_of_getElem? (i := 13) rfl)
theorem dX12_least_26 : decode cX12_least 26 = .ok (.aload_n 0, 1) := dgX12_least_0 (26, (.aload_n 0, 1)) (List.mem_of_getElem? (i := 14) rfl)
theorem dX12_least_27 : decode cX12_least 27 = .ok (.iconst (-1), 1) := dgX12_least_0 (27, (.iconst (-1), 1)) (List.mem_of_getElem? (i := 15) rfl)
theorem dX12_least_28 : decode cX12_least 28 = .ok (.invokevirtual 125, 3) := dgX12_least_0 (28, (.invokevirtual 125, 3)) (List.mem_of_getElem? (i := 16) rfl)
theorem dX12_least_31 : decode cX12_least 31 = .ok (.ireturn, 1) := dgX12_least_0 (31, (.ireturn, 1)) (List.mem_of_getElem? (i := 17) rfl)
theorem kl_X12_190 : Cond.constantLong RX12 190 1000000 ∈ tblG := tg 1471 (by decide +kernel) (by decide +kernel)
set_option maxHeartbeats 4000000 in
set_option maxRecDepth 100000 in
theorem n_in_0_1000000 (l : Launch) (G : g5_G) (sz : Nat) (p_x : Int32) : Met l yX12_in (wsG yX12_in cX12_in 6 (some .boolean)) ({ frames := 0, cells := 0, slots := 0, locals := 0 }) (va_Pc [.long p_x.toInt64, .long 0, .long 1000000] (g5_P G [] sz)) (va_Qi (fun (r : Int32) (u : va_W) => ((p_x.toInt < 0 ∨ 1000000 < p_x.toInt) ∧ (r = 0) ∧ (u = [])) ∨ ((0 ≤ p_x.toInt ∧ p_x.toInt ≤ 1000000) ∧ (r = 1) ∧ (u = []))) (g5_B G (va_A [] sz)) (va_A [] sz)) 0 0 (va_A [] sz) := by
  refine Met.ofW (cc := cX12_in) (maxL := 6) (ret := (some .boolean)) (by decide) rfl ?_
  intro p e s m args below meth c s₁ B hml hv
  obtain ⟨rfl, hsz, hP, hK, hD0, hN, hT⟩ := hv
  have hx := B.exec
  have hb := B.bytes
  have hr := B.returns
  have hts : ∀ w ∈ tblG, w.before _ s = true := fun w h => atoms_spec (ws := (wsG yX12_in cX12_in 6 (some .boolean))) B.pre w (List.mem_cons_of_mem _ h)
  have hown : s.vm.findClass RX12 = some m.cls := findClass_of_methodNamed B.named
  have hlocks := B.notSynchronized
  subst hsz
  have hD := hD0.self (sz := s.heap.size)
  generalize hAe : va_A [] s.heap.size = A at hD hT ⊢
  have hA : ∀ q : Nat, s.heap.size ≤ q → A q := fun q h => by rw [← hAe]; exact Or.inr h
  have hS : va_S A s.heap s.heap [] := va_S.rf
  have hP : va_P G.1 vwCl [] s.heap := hP
  have hl := lv_entry ([.long p_x.toInt64, .long 0, .long 1000000]) (n := 6) (Nat.le_of_ble_eq_true rfl)
  rw [lg_entry_eq]
  generalize (lg_sl ([.long p_x.toInt64, .long 0, .long 1000000]) ++ List.replicate (6 - (lg_sl ([.long p_x.toInt64, .long 0, .long 1000000])).length) Slot.unset).toArray = ls at hl ⊢
  have hl : lv_has ls 6 [(0, .long p_x.toInt64), (2, .long 0), (4, .long 1000000)] := hl
  refine lv_lload_n hx hb dX12_in_0 rfl (lv_at hl 0 rfl) ?_
  refine lv_lload_n hx hb dX12_in_1 rfl (lv_at hl 1 rfl) ?_
  have tl_1 : p_x.toInt64.toInt = p_x.toInt := Int32.toInt_toInt64 _
  have tl_2 : (0 : Int64).toInt = 0 := (by decide)
  have tc_3 := g5_cmpI p_x.toInt64 0
  refine W.lcmp hx hb dX12_in_2 ?_
  refine lv_if_lt (tgt := 17) hx hb dX12_in_3 (by decide) (fun c_4 => ?_) (fun c_4 => ?_)
  ·
    have i_4 : (lg_cmp p_x.toInt64 0).toInt < 0 := by have z := g5_lt (a := (lg_cmp p_x.toInt64 0).toInt) (b := 0) (by rfl) (by decide) c_4; omega
    refine lv_iconst (v := 0) hx hb dX12_in_17 (by decide) ?_
    exact W.zret (v := 0) hx hb hr rfl (fun t ht hW => ⟨⟨0, [], rfl, Or.inl (⟨by omega, rfl, rfl⟩), by rw [ht]; exact hP.sub [] rfl, hD.sub [] (by decide) rfl⟩, hS.F ht⟩) hS.2.2 dX12_in_18
  ·
    have i_4 : (lg_cmp p_x.toInt64 0).toInt ≥ 0 := by have z := g5_ltN (a := (lg_cmp p_x.toInt64 0).toInt) (b := 0) (by rfl) (by decide) c_4; omega
    refine lv_lload_n hx hb dX12_in_6 rfl (lv_at hl 0 rfl) ?_
    refine lv_lload hx hb dX12_in_7 (lv_at hl 2 rfl) ?_
    have tl_5 : p_x.toInt64.toInt = p_x.toInt := Int32.toInt_toInt64 _
    have tl_6 : (1000000 : Int64).toInt = 1000000 := (by decide)
    have tc_7 := g5_cmpI p_x.toInt64 1000000
    refine W.lcmp hx hb dX12_in_9 ?_
    refine lv_if_gt (tgt := 17) hx hb dX12_in_10 (by decide) (fun c_8 => ?_) (fun c_8 => ?_)
    ·
      have i_8 : (lg_cmp p_x.toInt64 1000000).toInt > 0 := by have z := g5_gt (a := (lg_cmp p_x.toInt64 1000000).toInt) (b := 0) (by rfl) (by decide) c_8; omega
      refine lv_iconst (v := 0) hx hb dX12_in_17 (by decide) ?_
      exact W.zret (v := 0) hx hb hr rfl (fun t ht hW => ⟨⟨0, [], rfl, Or.inl (⟨by omega, rfl, rfl⟩), by rw [ht]; exact hP.sub [] rfl, hD.sub [] (by decide) rfl⟩, hS.F ht⟩) hS.2.2 dX12_in_18
    ·
      have i_8 : (lg_cmp p_x.toInt64 1000000).toInt ≤ 0 := by have z := g5_gtN (a := (lg_cmp p_x.toInt64 1000000).toInt) (b := 0) (by rfl) (by decide) c_8; omega
      refine lv_iconst (v := 1) hx hb dX12_in_13 (by decide) ?_
      refine lv_goto (tgt := 18) hx hb dX12_in_14 (by decide) ?_
      exact W.zret (v := 1) hx hb hr rfl (fun t ht hW => ⟨⟨1, [], rfl, Or.inr (⟨by omega, rfl, rfl⟩), by rw [ht]; exact hP.sub [] rfl, hD.sub [] (by decide) rfl⟩, hS.F ht⟩) hS.2.2 dX12_in_18
theorem dgX12_faded_0 : ∀ r ∈ ([(0, (.aload_n 0, 1)), (1, (.iconst 0, 1)), (2, (.putfield 107, 3)), (5, (.aload_n 0, 1)), (6, (.getfield 195, 3)), (9, (.ireturn, 1))] : List (Nat × (Instr × Nat))), decode cX12_faded r.1 = .ok r.2 := by decide +kernel
theorem dX12_faded_0 : decode cX12_faded 0 = .ok (.aload_n 0, 1) := dgX12_faded_0 (0, (.aload_n 0, 1)) (List.mem_of_getElem? (i := 0) rfl)
theorem dX12_faded_1 : decode cX12_faded 1 = .ok (.iconst 0, 1) := dgX12_faded_0 (1, (.iconst 0, 1)) (List.mem_of_getElem? (i := 1) rfl)
theorem dX12_faded_2 : decode cX12_faded 2 = .ok (.putfield 107, 3) := dgX12_faded_0 (2, (.putfield 107, 3)) (List.mem_of_getElem? (i := 2) rfl)
theorem dX12_faded_5 : decode cX12_faded 5 = .ok (.aload_n 0, 1) := dgX12_faded_0 (5, (.aload_n 0, 1)) (List.mem_of_getElem? (i := 3) rfl)
theorem dX12_faded_6 : decode cX12_faded 6 = .ok (.getfield 195, 3) := dgX12_faded_0 (6, (.getfield 195, 3)) (List.mem_of_getElem? (i := 4) rfl)
theorem dX12_faded_9 : decode cX12_faded 9 = .ok (.ireturn, 1) := dgX12_faded_0 (9, (.ireturn, 1)) (List.mem_of_getElem? (i := 5) rfl)
theorem fl_X12_195 : Cond.fieldLink RX12 195 "LateGlassModel" "faded" "I" ∈ tblG := tg 1209 (by decide +kernel) (by decide +kernel)
theorem dgX12_fault_0 : ∀ r ∈ ([(0, (.aload_n 0, 1)), (1, (.iconst 0, 1)), (2, (.putfield 107, 3)), (5, (.aload_n 0, 1)), (6, (.getfield 26, 3)), (9, (.ireturn, 1))] : List (Nat × (Instr × Nat))), decode cX12_fault r.1 = .ok r.2 := by decide +kernel
theorem dX12_fault_0 : decode cX12_fault 0 = .ok (.aload_n 0, 1) := dgX12_fault_0 (0, (.aload_n 0, 1)) (List.mem_of_getElem? (i := 0) rfl)
theorem dX12_fault_1 : decode cX12_fault 1 = .ok (.iconst 0, 1) := dgX12_fault_0 (1, (.iconst 0, 1)) (List.mem_of_getElem? (i := 1) rfl)
theorem dX12_fault_2 : decode cX12_fault 2 = .ok (.putfield 107, 3) := dgX12_fault_0 (2, (.putfield 107, 3)) (List.mem_of_getElem? (i := 2) rfl)
theorem dX12_fault_5 : decode cX12_fault 5 = .ok (.aload_n 0, 1) := dgX12_fault_0 (5, (.aload_n 0, 1)) (List.mem_of_getElem? (i := 3) rfl)
theorem dX12_fault_6 : decode cX12_fault 6 = .ok (.getfield 26, 3) := dgX12_fault_0 (6, (.getfield 26, 3)) (List.mem_of_getElem? (i := 4) rfl)
theorem dX12_fault_9 : decode cX12_fault 9 = .ok (.ireturn, 1) := dgX12_fault_0 (9, (.ireturn, 1)) (List.mem_of_getElem? (i := 5) rfl)
theorem fl_X12_26 : Cond.fieldLink RX12 26 "LateGlassModel" "fault" "I" ∈ tblG := tg 1216 (by decide +kernel) (by decide +kernel)
theorem dgX12_status_0 : ∀ r ∈ ([(0, (.aload_n 0, 1)), (1, (.iconst 0, 1)), (2, (.putfield 107, 3)), (5, (.aload_n 0, 1)), (6, (.getfield 110, 3)), (9, (.ireturn, 1))] : List (Nat × (Instr × Nat))), decode cX12_status r.1 = .ok r.2 := by decide +kernel
theorem dX12_status_0 : decode cX12_status 0 = .ok (.aload_n 0, 1) := dgX12_status_0 (0, (.aload_n 0, 1)) (List.mem_of_getElem? (i := 0) rfl)
theorem dX12_status_1 : decode cX12_status 1 = .ok (.iconst 0, 1) := dgX12_status_0 (1, (.iconst 0, 1)) (List.mem_of_getElem? (i := 1) rfl)
theorem dX12_status_2 : decode cX12_status 2 = .ok (.putfield 107, 3) := dgX12_status_0 (2, (.putfield 107, 3)) (List.mem_of_getElem? (i := 2) rfl)
theorem dX12_status_5 : decode cX12_status 5 = .ok (.aload_n 0, 1) := dgX12_status_0 (5, (.aload_n 0, 1)) (List.mem_of_getElem? (i := 3) rfl)
theorem dX12_status_6 : decode cX12_status 6 = .ok (.getfield 110, 3) := dgX12_status_0 (6, (.getfield 110, 3)) (List.mem_of_getElem? (i := 4) rfl)
theorem dX12_status_9 : decode cX12_status 9 = .ok (.ireturn, 1) := dgX12_status_0 (9, (.ireturn, 1)) (List.mem_of_getElem? (i := 5) rfl)
set_option maxHeartbeats 4000000 in
set_option maxRecDepth 100000 in
theorem n_status (l : Launch) (G : g5_G) (b_o b_rf b_ro b_im b_ke b_tp b_nl b_op b_ar b_pi b_pa b_ws b_hw b_se b_re b_pt b_ip b_ah b_be b_me b_tr b_ld b_wn : Nat) (sz : Nat) (u_th : Int32) (u_sa : Int32) (u_fd : Int32) (u_td : Int32) (u_fr : Int32) (u_to : Int32) (u_so : Int32) (u_fa : Int32) (u_bd : Int32) (u_nc : Int32) (u_co : Int32) (u_le : Int32) (u_pd : Int32) (u_od : Int32) (u_la : Int32) (u_bk : Int32) (u_ce : Int32) (u_ho : Int32) (u_wy : Int32) (u_bt : Int32) (u_ps : Int32) (u_tg : Int32) (u_sn : Int32) (u_ic : Int32) (u_wd : Int32) (u_id : Int32) (u_wo : Int64) (u_va : Int64) (u_su : Int64) (u_st : Int64) (h_u_td : 0 ≤ u_td.toInt ∧ u_td.toInt ≤ 400) (h_u_fr : 0 ≤ u_fr.toInt ∧ u_fr.toInt ≤ 400) (h_u_to : 0 ≤ u_to.toInt ∧ u_to.toInt ≤ 400) (h_u_bd : 0 ≤ u_bd.toInt ∧ u_bd.toInt ≤ 1) (h_u_nc : 0 ≤ u_nc.toInt ∧ u_nc.toInt ≤ 12) (h_u_co : 0 ≤ u_co.toInt ∧ u_co.toInt ≤ 400) (h_u_pd : 0 ≤ u_pd.toInt ∧ u_pd.toInt ≤ 400) (h_u_la : 0 ≤ u_la.toInt ∧ u_la.toInt ≤ 4840) (h_u_bk : 0 ≤ u_bk.toInt ∧ u_bk.toInt ≤ 1) (h_u_ce : 0 ≤ u_ce.toInt ∧ u_ce.toInt ≤ 63) (h_u_ho : 0 ≤ u_ho.toInt ∧ u_ho.toInt ≤ 23) (h_u_wy : 0 ≤ u_wy.toInt ∧ u_wy.toInt ≤ 3) (h_u_bt : 0 ≤ u_bt.toInt ∧ u_bt.toInt ≤ 1000000) (h_u_ps : 0 ≤ u_ps.toInt ∧ u_ps.toInt ≤ 200) (h_u_ic : 0 ≤ u_ic.toInt ∧ u_ic.toInt ≤ 1) (h_u_id : 0 ≤ u_id.toInt ∧ u_id.toInt ≤ 1) : Met l yX12_status (wsG yX12_status cX12_status 1 (some .int)) ({ frames := 0, cells := 0, slots := 0, locals := 0 }) (va_Pc [.ref b_o] (g5_P G [(b_o, (oc12 u_th u_sa b_rf b_ro b_im b_ke u_fd b_tp u_td u_fr u_to u_so u_wo u_fa u_bd u_nc b_nl u_co b_op b_ar u_le b_pi b_pa u_pd u_od b_ws b_hw u_la b_se b_re u_bk u_va u_su u_ce u_ho u_wy u_bt u_ps b_pt u_tg u_sn b_ip u_ic b_ah b_be b_me u_wd b_tr b_ld u_st b_wn u_id))] sz)) (va_Qi (fun (r : Int32) (u : va_W) => (∃ (o_r : Int32) (o_th : Int32), (r = o_r) ∧ (u = [(b_o, (oc12 o_th u_sa b_rf b_ro b_im b_ke u_fd b_tp u_td u_fr u_to u_so u_wo u_fa u_bd u_nc b_nl u_co b_op b_ar u_le b_pi b_pa u_pd u_od b_ws b_hw u_la b_se b_re u_bk u_va u_su u_ce u_ho u_wy u_bt u_ps b_pt u_tg u_sn b_ip u_ic b_ah b_be b_me u_wd b_tr b_ld u_st b_wn u_id))]))) (g5_B G (va_A [(b_o, (oc12 u_th u_sa b_rf b_ro b_im b_ke u_fd b_tp u_td u_fr u_to u_so u_wo u_fa u_bd u_nc b_nl u_co b_op b_ar u_le b_pi b_pa u_pd u_od b_ws b_hw u_la b_se b_re u_bk u_va u_su u_ce u_ho u_wy u_bt u_ps b_pt u_tg u_sn b_ip u_ic b_ah b_be b_me u_wd b_tr b_ld u_st b_wn u_id))] sz)) (va_A [(b_o, (oc12 u_th u_sa b_rf b_ro b_im b_ke u_fd b_tp u_td u_fr u_to u_so u_wo u_fa u_bd u_nc b_nl u_co b_op b_ar u_le b_pi b_pa u_pd u_od b_ws b_hw u_la b_se b_re u_bk u_va u_su u_ce u_ho u_wy u_bt u_ps b_pt u_tg u_sn b_ip u_ic b_ah b_be b_me u_wd b_tr b_ld u_st b_wn u_id))] sz)) 0 0 (va_A [(b_o, (oc12 u_th u_sa b_rf b_ro b_im b_ke u_fd b_tp u_td u_fr u_to u_so u_wo u_fa u_bd u_nc b_nl u_co b_op b_ar u_le b_pi b_pa u_pd u_od b_ws b_hw u_la b_se b_re u_bk u_va u_su u_ce u_ho u_wy u_bt u_ps b_pt u_tg u_sn b_ip u_ic b_ah b_be b_me u_wd b_tr b_ld u_st b_wn u_id))] sz) := by
  refine Met.ofW (cc := cX12_status) (maxL := 1) (ret := (some .int)) (by decide +kernel) rfl ?_
  intro p e s m args below meth c s₁ B hml hv
  obtain ⟨rfl, hsz, hP, hK, hD0, hN, hT⟩ := hv
  have hx := B.exec
  have hb := B.bytes
  have hr := B.returns
  have hts : ∀ w ∈ tblG, w.before _ s = true := fun w h => atoms_spec (ws := (wsG yX12_status cX12_status 1 (some .int))) B.pre w (List.mem_cons_of_mem _ h)
  have hown : s.vm.findClass RX12 = some m.cls := findClass_of_methodNamed B.named
  have hlocks := B.notSynchronized
  subst hsz
  have hD := hD0.self (sz := s.heap.size)
  generalize hAe : va_A [(b_o, (oc12 u_th u_sa b_rf b_ro b_im b_ke u_fd b_tp u_td u_fr u_to u_so u_wo u_fa u_bd u_nc b_nl u_co b_op b_ar u_le b_pi b_pa u_pd u_od b_ws b_hw u_la b_se b_re u_bk u_va u_su u_ce u_ho u_wy u_bt u_ps b_pt u_tg u_sn b_ip u_ic b_ah b_be b_me u_wd b_tr b_ld u_st b_wn u_id))] s.heap.size = A at hD hT ⊢
  have hA : ∀ q : Nat, s.heap.size ≤ q → A q := fun q h => by rw [← hAe]; exact Or.inr h
  have hS : va_S A s.heap s.heap [] := va_S.rf
  replace hP : va_P G.1 vwCl [(b_o, (oc12 u_th u_sa b_rf b_ro b_im b_ke u_fd b_tp u_td u_fr u_to u_so u_wo u_fa u_bd u_nc b_nl u_co b_op b_ar u_le b_pi b_pa u_pd u_od b_ws b_hw u_la b_se b_re u_bk u_va u_su u_ce u_ho u_wy u_bt u_ps b_pt u_tg u_sn b_ip u_ic b_ah b_be b_me u_wd b_tr b_ld u_st b_wn u_id))] s.heap := hP
  have hl := lv_entry ([.ref b_o]) (n := 1) (Nat.le_of_ble_eq_true rfl)
  rw [lg_entry_eq]
  generalize (lg_sl ([.ref b_o]) ++ List.replicate (1 - (lg_sl ([.ref b_o])).length) Slot.unset).toArray = ls at hl ⊢
  replace hl : lv_has ls 1 [(0, .ref b_o)] := hl
  refine lv_aload_n hx hb dX12_status_0 rfl (lv_at hl 0 rfl) ?_
  refine lv_iconst (v := 0) hx hb dX12_status_1 (by decide +kernel) ?_
  refine va_put (D := G.1) (ci := 12) (v := .int 0) (ty := .int) (C := RX12) (T := TX12) (N := 52) hx hb hts inG_X12 tyX12 tyX12_ok nmX12 hown hK hP hD hS 0 rfl rfl 0 (by decide +kernel) (hts _ fl_X12_107) (fun _ h9 => h9) rfl (by decide +kernel) rfl rfl (Nat.le_of_ble_eq_true rfl) dX12_status_2 ?_
  clear hP hD hS
  intro H locs hP hD hS
  refine g5_rs [(b_o, (oc12 0 u_sa b_rf b_ro b_im b_ke u_fd b_tp u_td u_fr u_to u_so u_wo u_fa u_bd u_nc b_nl u_co b_op b_ar u_le b_pi b_pa u_pd u_od b_ws b_hw u_la b_se b_re u_bk u_va u_su u_ce u_ho u_wy u_bt u_ps b_pt u_tg u_sn b_ip u_ic b_ah b_be b_me u_wd b_tr b_ld u_st b_wn u_id))] hP hD ?_
  clear hP hD
  intro hP hD
  refine lv_aload_n hx hb dX12_status_5 rfl (lv_at hl 0 rfl) ?_
  refine W.eq (g2 := F0 m 6 ls [.ref b_o]) rfl ?_
  refine va_get (D := G.1) (ci := 12) (v := .int u_sa) (C := RX12) (T := TX12) (N := 52) hx hb hts inG_X12 hown hK hP 0 rfl rfl 1 (by decide +kernel) (hts _ fl_X12_110) (fun _ h9 => h9) rfl dX12_status_6 ?_
  exact W.iret (v := u_sa) hx hb hr (fun t ht hW => ⟨⟨u_sa, [(b_o, (oc12 0 u_sa b_rf b_ro b_im b_ke u_fd b_tp u_td u_fr u_to u_so u_wo u_fa u_bd u_nc b_nl u_co b_op b_ar u_le b_pi b_pa u_pd u_od b_ws b_hw u_la b_se b_re u_bk u_va u_su u_ce u_ho u_wy u_bt u_ps b_pt u_tg u_sn b_ip u_ic b_ah b_be b_me u_wd b_tr b_ld u_st b_wn u_id))], rfl, ⟨u_sa, 0, rfl, rfl⟩, by rw [ht]; exact hP.sub [0] rfl, hD.sub [0] (by decide +kernel) rfl⟩, hS.F ht⟩) hS.2.2 dX12_status_9
theorem dgX12_drawn_0 : ∀ r ∈ ([(0, (.aload_n 0, 1)), (1, (.iconst 0, 1)), (2, (.putfield 107, 3)), (5, (.aload_n 0, 1)), (6, (.getfield 478, 3)), (9, (.ifCond .eq 19, 3)), (12, (.iload_n 1, 1)), (13, (.invokestatic 175, 3)), (16, (.ifCond .eq 12, 3)), (19, (.aload_n 0, 1)), (20, (.getfield 104, 3)), (23, (.iload_n 1, 1)), (24, (.iaload, 1)), (25, (.goto 4, 3)), (28, (.iconst (-1), 1)), (29, (.ireturn, 1))] : List (Nat × (Instr × Nat))), decode cX12_drawn r.1 = .ok r.2 := by decide +kernel
theorem dX12_drawn_0 : decode cX12_drawn 0 = .ok (.aload_n 0, 1) := dgX12_drawn_0 (0, (.aload_n 0, 1)) (List.mem_of_getElem? (i := 0) rfl)
theorem dX12_drawn_1 : decode cX12_drawn 1 = .ok (.iconst 0, 1) := dgX12_drawn_0 (1, (.iconst 0, 1)) (List.mem_of_getElem? (i := 1) rfl)
theorem dX12_drawn_2 : decode cX12_drawn 2 = .ok (.putfield 107, 3) := dgX12_drawn_0 (2, (.putfield 107, 3)) (List.mem_of_getElem? (i := 2) rfl)
theorem dX12_drawn_5 : decode cX12_drawn 5 = .ok (.aload_n 0, 1) := dgX12_drawn_0 (5, (.aload_n 0, 1)) (List.mem_of_getElem? (i := 3) rfl)
theorem dX12_drawn_6 : decode cX12_drawn 6 = .ok (.getfield 478, 3) := dgX12_drawn_0 (6, (.getfield 478, 3)) (List.mem_of_getElem? (i := 4) rfl)
theorem dX12_drawn_9 : decode cX12_drawn 9 = .ok (.ifCond .eq 19, 3) := dgX12_drawn_0 (9, (.ifCond .eq 19, 3)) (List.mem_of_getElem? (i := 5) rfl)
theorem dX12_drawn_12 : decode cX12_drawn 12 = .ok (.iload_n 1, 1) := dgX12_drawn_0 (12, (.iload_n 1, 1)) (List.mem_of_getElem? (i := 6) rfl)
theorem dX12_drawn_13 : decode cX12_drawn 13 = .ok (.invokestatic 175, 3) := dgX12_drawn_0 (13, (.invokestatic 175, 3)) (List.mem_of_getElem? (i := 7) rfl)
theorem dX12_drawn_16 : decode cX12_drawn 16 = .ok (.ifCond .eq 12, 3) := dgX12_drawn_0 (16, (.ifCond .eq 12, 3)) (List.mem_of_getElem? (i := 8) rfl)
theorem dX12_drawn_19 : decode cX12_drawn 19 = .ok (.aload_n 0, 1) := dgX12_drawn_0 (19, (.aload_n 0, 1)) (List.mem_of_getElem? (i := 9) rfl)
theorem dX12_drawn_20 : decode cX12_drawn 20 = .ok (.getfield 104, 3) := dgX12_drawn_0 (20, (.getfield 104, 3)) (List.mem_of_getElem? (i := 10) rfl)
theorem dX12_drawn_23 : decode cX12_drawn 23 = .ok (.iload_n 1, 1) := dgX12_drawn_0 (23, (.iload_n 1, 1)) (List.mem_of_getElem? (i := 11) rfl)
theorem dX12_drawn_24 : decode cX12_drawn 24 = .ok (.iaload, 1) := dgX12_drawn_0 (24, (.iaload, 1)) (List.mem_of_getElem? (i := 12) rfl)
theorem dX12_drawn_25 : decode cX12_drawn 25 = .ok (.goto 4, 3) := dgX12_drawn_0 (25, (.goto 4, 3)) (List.mem_of_getElem? (i := 13) rfl)
theorem dX12_drawn_28 : decode cX12_drawn 28 = .ok (.iconst (-1), 1) := dgX12_drawn_0 (28, (.iconst (-1), 1)) (List.mem_of_getElem? (i := 14) rfl)
theorem dX12_drawn_29 : decode cX12_drawn 29 = .ok (.ireturn, 1) := dgX12_drawn_0 (29, (.ireturn, 1)) (List.mem_of_getElem? (i := 15) rfl)
theorem fl_X12_478 : Cond.fieldLink RX12 478 "LateGlassModel" "isDrawn" "Z" ∈ tblG := tg 1254 (by decide +kernel) (by decide +kernel)
theorem fl_X12_104 : Cond.fieldLink RX12 104 "LateGlassModel" "wandered" "[I" ∈ tblG := tg 1253 (by decide +kernel) (by decide +kernel)
theorem dgX12_four_0 : ∀ r ∈ ([(0, (.bipush 24, 2)), (2, (.istore_n 2, 1)), (3, (.iload_n 2, 1)), (4, (.ifCond .lt 35, 3)), (7, (.aload_n 0, 1)), (8, (.getfield 23, 3)), (11, (.aload_n 0, 1)), (12, (.getfield 192, 3)), (15, (.iload_n 1, 1)), (16, (.iload_n 2, 1)), (17, (.ishr, 1)), (18, (.sipush 255, 3)), (21, (.iand, 1)), (22, (.iastore, 1)), (23, (.aload_n 0, 1)), (24, (.dup, 1)), (25, (.getfield 192, 3)), (28, (.iconst 1, 1)), (29, (.iadd, 1)), (30, (.putfield 192, 3)), (33, (.iinc 2 (-8), 3)), (36, (.goto (-33), 3)), (39, (.return_, 1))] : List (Nat × (Instr × Nat))), decode cX12_four r.1 = .ok r.2 := by decide +kernel
theorem dX12_four_0 : decode cX12_four 0 = .ok (.bipush 24, 2) := dgX12_four_0 (0, (.bipush 24, 2)) (List.mem_of_getElem? (i := 0) rfl)
theorem dX12_four_2 : decode cX12_four 2 = .ok (.istore_n 2, 1) := dgX12_four_0 (2, (.istore_n 2, 1)) (List.mem_of_getElem? (i := 1) rfl)
theorem dX12_four_3 : decode cX12_four 3 = .ok (.iload_n 2, 1) := dgX12_four_0 (3, (.iload_n 2, 1)) (List.mem_of_getElem? (i := 2) rfl)
theorem dX12_four_4 : decode cX12_four 4 = .ok (.ifCond .lt 35, 3) := dgX12_four_0 (4, (.ifCond .lt 35, 3)) (List.mem_of_getElem? (i := 3) rfl)
theorem dX12_four_7 : decode cX12_four 7 = .ok (.aload_n 0, 1) := dgX12_four_0 (7, (.aload_n 0, 1)) (List.mem_of_getElem? (i := 4) rfl)
theorem dX12_four_8 : decode cX12_four 8 = .ok (.getfield 23, 3) := dgX12_four_0 (8, (.getfield 23, 3)) (List.mem_of_getElem? (i := 5) rfl)
theorem dX12_four_11 : decode cX12_four 11 = .ok (.aload_n 0, 1) := dgX12_four_0 (11, (.aload_n 0, 1)) (List.mem_of_getElem? (i := 6) rfl)
theorem dX12_four_12 : decode cX12_four 12 = .ok (.getfield 192, 3) := dgX12_four_0 (12, (.getfield 192, 3)) (List.mem_of_getElem? (i := 7) rfl)
theorem dX12_four_15 : decode cX12_four 15 = .ok (.iload_n 1, 1) := dgX12_four_0 (15, (.iload_n 1, 1)) (List.mem_of_getElem? (i := 8) rfl)
theorem dX12_four_16 : decode cX12_four 16 = .ok (.iload_n 2, 1) := dgX12_four_0 (16, (.iload_n 2, 1)) (List.mem_of_getElem? (i := 9) rfl)
theorem dX12_four_17 : decode cX12_four 17 = .ok (.ishr, 1) := dgX12_four_0 (17, (.ishr, 1)) (List.mem_of_getElem? (i := 10) rfl)
theorem dX12_four_18 : decode cX12_four 18 = .ok (.sipush 255, 3) := dgX12_four_0 (18, (.sipush 255, 3)) (List.mem_of_getElem? (i := 11) rfl)
theorem dX12_four_21 : decode cX12_four 21 = .ok (.iand, 1) := dgX12_four_0 (21, (.iand, 1)) (List.mem_of_getElem? (i := 12) rfl)
theorem dX12_four_22 : decode cX12_four 22 = .ok (.iastore, 1) := dgX12_four_0 (22, (.iastore, 1)) (List.mem_of_getElem? (i := 13) rfl)
theorem dX12_four_23 : decode cX12_four 23 = .ok (.aload_n 0, 1) := dgX12_four_0 (23, (.aload_n 0, 1)) (List.mem_of_getElem? (i := 14) rfl)
theorem dX12_four_24 : decode cX12_four 24 = .ok (.dup, 1) := dgX12_four_0 (24, (.dup, 1)) (List.mem_of_getElem? (i := 15) rfl)
theorem dX12_four_25 : decode cX12_four 25 = .ok (.getfield 192, 3) := dgX12_four_0 (25, (.getfield 192, 3)) (List.mem_of_getElem? (i := 16) rfl)
theorem dX12_four_28 : decode cX12_four 28 = .ok (.iconst 1, 1) := dgX12_four_0 (28, (.iconst 1, 1)) (List.mem_of_getElem? (i := 17) rfl)
theorem dX12_four_29 : decode cX12_four 29 = .ok (.iadd, 1) := dgX12_four_0 (29, (.iadd, 1)) (List.mem_of_getElem? (i := 18) rfl)
theorem dX12_four_30 : decode cX12_four 30 = .ok (.putfield 192, 3) := dgX12_four_0 (30, (.putfield 192, 3)) (List.mem_of_getElem? (i := 19) rfl)
theorem dX12_four_33 : decode cX12_four 33 = .ok (.iinc 2 (-8), 3) := dgX12_four_0 (33, (.iinc 2 (-8), 3)) (List.mem_of_getElem? (i := 20) rfl)
theorem dX12_four_36 : decode cX12_four 36 = .ok (.goto (-33), 3) := dgX12_four_0 (36, (.goto (-33), 3)) (List.mem_of_getElem? (i := 21) rfl)
theorem dX12_four_39 : decode cX12_four 39 = .ok (.return_, 1) := dgX12_four_0 (39, (.return_, 1)) (List.mem_of_getElem? (i := 22) rfl)
theorem fl_X12_23 : Cond.fieldLink RX12 23 "LateGlassModel" "tape" "[I" ∈ tblG := tg 1210 (by decide +kernel) (by decide +kernel)
theorem fl_X12_192 : Cond.fieldLink RX12 192 "LateGlassModel" "taped" "I" ∈ tblG := tg 1211 (by decide +kernel) (by decide +kernel)
theorem dgX12_feed_0 : ∀ r ∈ ([(0, (.aload_n 0, 1)), (1, (.iconst 0, 1)), (2, (.putfield 107, 3)), (5, (.aload_n 0, 1)), (6, (.getfield 192, 3)), (9, (.bipush 20, 2)), (11, (.iadd, 1)), (12, (.sipush 400, 3)), (15, (.if_icmp .le 5, 3)), (18, (.iconst (-1), 1)), (19, (.ireturn, 1)), (20, (.aload_n 0, 1)), (21, (.iload_n 1, 1)), (22, (.invokevirtual 198, 3)), (25, (.aload_n 0, 1)), (26, (.iload_n 2, 1)), (27, (.invokevirtual 198, 3)), (30, (.aload_n 0, 1)), (31, (.iload_n 3, 1)), (32, (.invokevirtual 198, 3)), (35, (.aload_n 0, 1)), (36, (.iload 4, 2)), (38, (.invokevirtual 198, 3)), (41, (.aload_n 0, 1)), (42, (.iload 5, 2)), (44, (.invokevirtual 198, 3)), (47, (.aload_n 0, 1)), (48, (.getfield 192, 3)), (51, (.ireturn, 1))] : List (Nat × (Instr × Nat))), decode cX12_feed r.1 = .ok r.2 := by decide +kernel
theorem dX12_feed_0 : decode cX12_feed 0 = .ok (.aload_n 0, 1) := dgX12_feed_0 (0, (.aload_n 0, 1)) (List.mem_of_getElem? (i := 0) rfl)
theorem dX12_feed_1 : decode cX12_feed 1 = .ok (.iconst 0, 1) := dgX12_feed_0 (1, (.iconst 0, 1)) (List.mem_of_getElem? (i := 1) rfl)
theorem dX12_feed_2 : decode cX12_feed 2 = .ok (.putfield 107, 3) := dgX12_feed_0 (2, (.putfield 107, 3)) (List.mem_of_getElem? (i := 2) rfl)
theorem dX12_feed_5 : decode cX12_feed 5 = .ok (.aload_n 0, 1) := dgX12_feed_0 (5, (.aload_n 0, 1)) (List.mem_of_getElem? (i := 3) rfl)
theorem dX12_feed_6 : decode cX12_feed 6 = .ok (.getfield 192, 3) := dgX12_feed_0 (6, (.getfield 192, 3)) (List.mem_of_getElem? (i := 4) rfl)
theorem dX12_feed_9 : decode cX12_feed 9 = .ok (.bipush 20, 2) := dgX12_feed_0 (9, (.bipush 20, 2)) (List.mem_of_getElem? (i := 5) rfl)
theorem dX12_feed_11 : decode cX12_feed 11 = .ok (.iadd, 1) := dgX12_feed_0 (11, (.iadd, 1)) (List.mem_of_getElem? (i := 6) rfl)
theorem dX12_feed_12 : decode cX12_feed 12 = .ok (.sipush 400, 3) := dgX12_feed_0 (12, (.sipush 400, 3)) (List.mem_of_getElem? (i := 7) rfl)
theorem dX12_feed_15 : decode cX12_feed 15 = .ok (.if_icmp .le 5, 3) := dgX12_feed_0 (15, (.if_icmp .le 5, 3)) (List.mem_of_getElem? (i := 8) rfl)
theorem dX12_feed_18 : decode cX12_feed 18 = .ok (.iconst (-1), 1) := dgX12_feed_0 (18, (.iconst (-1), 1)) (List.mem_of_getElem? (i := 9) rfl)
theorem dX12_feed_19 : decode cX12_feed 19 = .ok (.ireturn, 1) := dgX12_feed_0 (19, (.ireturn, 1)) (List.mem_of_getElem? (i := 10) rfl)
theorem dX12_feed_20 : decode cX12_feed 20 = .ok (.aload_n 0, 1) := dgX12_feed_0 (20, (.aload_n 0, 1)) (List.mem_of_getElem? (i := 11) rfl)
theorem dX12_feed_21 : decode cX12_feed 21 = .ok (.iload_n 1, 1) := dgX12_feed_0 (21, (.iload_n 1, 1)) (List.mem_of_getElem? (i := 12) rfl)
theorem dX12_feed_22 : decode cX12_feed 22 = .ok (.invokevirtual 198, 3) := dgX12_feed_0 (22, (.invokevirtual 198, 3)) (List.mem_of_getElem? (i := 13) rfl)
theorem dX12_feed_25 : decode cX12_feed 25 = .ok (.aload_n 0, 1) := dgX12_feed_0 (25, (.aload_n 0, 1)) (List.mem_of_getElem? (i := 14) rfl)
theorem dX12_feed_26 : decode cX12_feed 26 = .ok (.iload_n 2, 1) := dgX12_feed_0 (26, (.iload_n 2, 1)) (List.mem_of_getElem? (i := 15) rfl)
theorem dX12_feed_27 : decode cX12_feed 27 = .ok (.invokevirtual 198, 3) := dgX12_feed_0 (27, (.invokevirtual 198, 3)) (List.mem_of_getElem? (i := 16) rfl)
theorem dX12_feed_30 : decode cX12_feed 30 = .ok (.aload_n 0, 1) := dgX12_feed_0 (30, (.aload_n 0, 1)) (List.mem_of_getElem? (i := 17) rfl)
theorem dX12_feed_31 : decode cX12_feed 31 = .ok (.iload_n 3, 1) := dgX12_feed_0 (31, (.iload_n 3, 1)) (List.mem_of_getElem? (i := 18) rfl)
theorem dX12_feed_32 : decode cX12_feed 32 = .ok (.invokevirtual 198, 3) := dgX12_feed_0 (32, (.invokevirtual 198, 3)) (List.mem_of_getElem? (i := 19) rfl)
theorem dX12_feed_35 : decode cX12_feed 35 = .ok (.aload_n 0, 1) := dgX12_feed_0 (35, (.aload_n 0, 1)) (List.mem_of_getElem? (i := 20) rfl)
theorem dX12_feed_36 : decode cX12_feed 36 = .ok (.iload 4, 2) := dgX12_feed_0 (36, (.iload 4, 2)) (List.mem_of_getElem? (i := 21) rfl)
theorem dX12_feed_38 : decode cX12_feed 38 = .ok (.invokevirtual 198, 3) := dgX12_feed_0 (38, (.invokevirtual 198, 3)) (List.mem_of_getElem? (i := 22) rfl)
theorem dX12_feed_41 : decode cX12_feed 41 = .ok (.aload_n 0, 1) := dgX12_feed_0 (41, (.aload_n 0, 1)) (List.mem_of_getElem? (i := 23) rfl)
theorem dX12_feed_42 : decode cX12_feed 42 = .ok (.iload 5, 2) := dgX12_feed_0 (42, (.iload 5, 2)) (List.mem_of_getElem? (i := 24) rfl)
theorem dX12_feed_44 : decode cX12_feed 44 = .ok (.invokevirtual 198, 3) := dgX12_feed_0 (44, (.invokevirtual 198, 3)) (List.mem_of_getElem? (i := 25) rfl)
theorem dX12_feed_47 : decode cX12_feed 47 = .ok (.aload_n 0, 1) := dgX12_feed_0 (47, (.aload_n 0, 1)) (List.mem_of_getElem? (i := 26) rfl)
theorem dX12_feed_48 : decode cX12_feed 48 = .ok (.getfield 192, 3) := dgX12_feed_0 (48, (.getfield 192, 3)) (List.mem_of_getElem? (i := 27) rfl)
theorem dX12_feed_51 : decode cX12_feed 51 = .ok (.ireturn, 1) := dgX12_feed_0 (51, (.ireturn, 1)) (List.mem_of_getElem? (i := 28) rfl)
theorem ml_X12_198 : Cond.methodLink RX12 198 yX12_four ∈ tblG := tg 1484 (by decide +kernel) (by decide +kernel)
theorem im_X12_four : Cond.instanceMethod yX12_four ∈ tblG := tg 1486 (by decide +kernel) (by decide +kernel)
theorem se_X12_four : Cond.selects RX12 yX12_four yX12_four ∈ tblG := tg 42 (by decide +kernel) (by decide +kernel)
theorem cd_X12_four : Cond.code yX12_four cX12_four 3 none ∈ tblG := tg 1487 (by decide +kernel) (by decide +kernel)
theorem gW_X12_four : GoodIn tblG (wsG yX12_four cX12_four 3 none) := tgi cd_X12_four
theorem gV_X12_198 : GoodIn tblG (wsV RX12 198 RX12 yX12_four (wsG yX12_four cX12_four 3 none)) := tgV ml_X12_198 im_X12_four se_X12_four ini_X12 gW_X12_four
theorem hv_X12_four : yX12_four.cls = RX12 ∧ yX12_four.cls ≠ "java/lang/invoke/MethodHandle" ∧ yX12_four.cls ≠ "java/lang/invoke/VarHandle" ∧ (parseMethodDescriptor yX12_four.desc).map (fun d => d.parameters.length) = some 1 := by decide +kernel
theorem dgX12_end_0 : ∀ r ∈ ([(0, (.aload_n 0, 1)), (1, (.iconst 0, 1)), (2, (.putfield 107, 3)), (5, (.iload_n 1, 1)), (6, (.ifCond .lt 11, 3)), (9, (.iload_n 1, 1)), (10, (.aload_n 0, 1)), (11, (.getfield 192, 3)), (14, (.if_icmp .le 5, 3)), (17, (.iconst (-1), 1)), (18, (.ireturn, 1)), (19, (.aload_n 0, 1)), (20, (.iload_n 1, 1)), (21, (.putfield 192, 3)), (24, (.iload_n 1, 1)), (25, (.ireturn, 1))] : List (Nat × (Instr × Nat))), decode cX12_end r.1 = .ok r.2 := by decide +kernel
theorem dX12_end_0 : decode cX12_end 0 = .ok (.aload_n 0, 1) := dgX12_end_0 (0, (.aload_n 0, 1)) (List.mem_of_getElem? (i := 0) rfl)
theorem dX12_end_1 : decode cX12_end 1 = .ok (.iconst 0, 1) := dgX12_end_0 (1, (.iconst 0, 1)) (List.mem_of_getElem? (i := 1) rfl)
theorem dX12_end_2 : decode cX12_end 2 = .ok (.putfield 107, 3) := dgX12_end_0 (2, (.putfield 107, 3)) (List.mem_of_getElem? (i := 2) rfl)
theorem dX12_end_5 : decode cX12_end 5 = .ok (.iload_n 1, 1) := dgX12_end_0 (5, (.iload_n 1, 1)) (List.mem_of_getElem? (i := 3) rfl)
theorem dX12_end_6 : decode cX12_end 6 = .ok (.ifCond .lt 11, 3) := dgX12_end_0 (6, (.ifCond .lt 11, 3)) (List.mem_of_getElem? (i := 4) rfl)
theorem dX12_end_9 : decode cX12_end 9 = .ok (.iload_n 1, 1) := dgX12_end_0 (9, (.iload_n 1, 1)) (List.mem_of_getElem? (i := 5) rfl)
theorem dX12_end_10 : decode cX12_end 10 = .ok (.aload_n 0, 1) := dgX12_end_0 (10, (.aload_n 0, 1)) (List.mem_of_getElem? (i := 6) rfl)
theorem dX12_end_11 : decode cX12_end 11 = .ok (.getfield 192, 3) := dgX12_end_0 (11, (.getfield 192, 3)) (List.mem_of_getElem? (i := 7) rfl)
theorem dX12_end_14 : decode cX12_end 14 = .ok (.if_icmp .le 5, 3) := dgX12_end_0 (14, (.if_icmp .le 5, 3)) (List.mem_of_getElem? (i := 8) rfl)
theorem dX12_end_17 : decode cX12_end 17 = .ok (.iconst (-1), 1) := dgX12_end_0 (17, (.iconst (-1), 1)) (List.mem_of_getElem? (i := 9) rfl)
theorem dX12_end_18 : decode cX12_end 18 = .ok (.ireturn, 1) := dgX12_end_0 (18, (.ireturn, 1)) (List.mem_of_getElem? (i := 10) rfl)
theorem dX12_end_19 : decode cX12_end 19 = .ok (.aload_n 0, 1) := dgX12_end_0 (19, (.aload_n 0, 1)) (List.mem_of_getElem? (i := 11) rfl)
theorem dX12_end_20 : decode cX12_end 20 = .ok (.iload_n 1, 1) := dgX12_end_0 (20, (.iload_n 1, 1)) (List.mem_of_getElem? (i := 12) rfl)
theorem dX12_end_21 : decode cX12_end 21 = .ok (.putfield 192, 3) := dgX12_end_0 (21, (.putfield 192, 3)) (List.mem_of_getElem? (i := 13) rfl)
theorem dX12_end_24 : decode cX12_end 24 = .ok (.iload_n 1, 1) := dgX12_end_0 (24, (.iload_n 1, 1)) (List.mem_of_getElem? (i := 14) rfl)
theorem dX12_end_25 : decode cX12_end 25 = .ok (.ireturn, 1) := dgX12_end_0 (25, (.ireturn, 1)) (List.mem_of_getElem? (i := 15) rfl)
theorem dgX12_row_0 : ∀ r ∈ ([(0, (.aload_n 0, 1)), (1, (.iconst 0, 1)), (2, (.putfield 107, 3)), (5, (.aload_n 0, 1)), (6, (.getfield 192, 3)), (9, (.istore_n 1, 1)), (10, (.aload_n 0, 1)), (11, (.iconst 0, 1)), (12, (.putfield 192, 3)), (15, (.iload_n 1, 1)), (16, (.ifCond .ne 10, 3)), (19, (.aload_n 0, 1)), (20, (.bipush (-6), 2)), (22, (.invokevirtual 125, 3)), (25, (.ireturn, 1)), (26, (.aload_n 0, 1)), (27, (.iconst 0, 1)), (28, (.putfield 195, 3)), (31, (.iconst 0, 1)), (32, (.istore_n 2, 1)), (33, (.iconst 0, 1)), (34, (.istore_n 3, 1)), (35, (.iload_n 3, 1)), (36, (.iload_n 1, 1)), (37, (.if_icmp .ge 210, 3)), (40, (.iload_n 3, 1)), (41, (.iconst 3, 1)), (42, (.iadd, 1)), (43, (.iload_n 1, 1)), (44, (.if_icmp .ge 67, 3)), (47, (.aload_n 0, 1)), (48, (.aload_n 0, 1)), (49, (.getfield 23, 3)), (52, (.iload_n 3, 1)), (53, (.iaload, 1)), (54, (.invokevirtual 180, 3)), (57, (.ifCond .eq 54, 3)), (60, (.aload_n 0, 1)), (61, (.getfield 23, 3)), (64, (.iload_n 3, 1))] : List (Nat × (Instr × Nat))), decode cX12_row r.1 = .ok r.2 := by decide +kernel
theorem dX12_row_0 : decode cX12_row 0 = .ok (.aload_n 0, 1) := dgX12_row_0 (0, (.aload_n 0, 1)) (List.mem_of_getElem? (i := 0) rfl)
theorem dX12_row_1 : decode cX12_row 1 = .ok (.iconst 0, 1) := dgX12_row_0 (1, (.iconst 0, 1)) (List.mem_of_getElem? (i := 1) rfl)
theorem dX12_row_2 : decode cX12_row 2 = .ok (.putfield 107, 3) := dgX12_row_0 (2, (.putfield 107, 3)) (List.mem_of_getElem? (i := 2) rfl)
theorem dX12_row_5 : decode cX12_row 5 = .ok (.aload_n 0, 1) := dgX12_row_0 (5, (.aload_n 0, 1)) (List.mem_of_getElem? (i := 3) rfl)
theorem dX12_row_6 : decode cX12_row 6 = .ok (.getfield 192, 3) := dgX12_row_0 (6, (.getfield 192, 3)) (List.mem_of_getElem? (i := 4) rfl)
theorem dX12_row_9 : decode cX12_row 9 = .ok (.istore_n 1, 1) := dgX12_row_0 (9, (.istore_n 1, 1)) (List.mem_of_getElem? (i := 5) rfl)
theorem dX12_row_10 : decode cX12_row 10 = .ok (.aload_n 0, 1) := dgX12_row_0 (10, (.aload_n 0, 1)) (List.mem_of_getElem? (i := 6) rfl)
theorem dX12_row_11 : decode cX12_row 11 = .ok (.iconst 0, 1) := dgX12_row_0 (11, (.iconst 0, 1)) (List.mem_of_getElem? (i := 7) rfl)
theorem dX12_row_12 : decode cX12_row 12 = .ok (.putfield 192, 3) := dgX12_row_0 (12, (.putfield 192, 3)) (List.mem_of_getElem? (i := 8) rfl)
theorem dX12_row_15 : decode cX12_row 15 = .ok (.iload_n 1, 1) := dgX12_row_0 (15, (.iload_n 1, 1)) (List.mem_of_getElem? (i := 9) rfl)
theorem dX12_row_16 : decode cX12_row 16 = .ok (.ifCond .ne 10, 3) := dgX12_row_0 (16, (.ifCond .ne 10, 3)) (List.mem_of_getElem? (i := 10) rfl)
theorem dX12_row_19 : decode cX12_row 19 = .ok (.aload_n 0, 1) := dgX12_row_0 (19, (.aload_n 0, 1)) (List.mem_of_getElem? (i := 11) rfl)
theorem dX12_row_20 : decode cX12_row 20 = .ok (.bipush (-6), 2) := dgX12_row_0 (20, (.bipush (-6), 2)) (List.mem_of_getElem? (i := 12) rfl)
theorem dX12_row_22 : decode cX12_row 22 = .ok (.invokevirtual 125, 3) := dgX12_row_0 (22, (.invokevirtual 125, 3)) (List.mem_of_getElem? (i := 13) rfl)
theorem dX12_row_25 : decode cX12_row 25 = .ok (.ireturn, 1) := dgX12_row_0 (25, (.ireturn, 1)) (List.mem_of_getElem? (i := 14) rfl)
theorem dX12_row_26 : decode cX12_row 26 = .ok (.aload_n 0, 1) := dgX12_row_0 (26, (.aload_n 0, 1)) (List.mem_of_getElem? (i := 15) rfl)
theorem dX12_row_27 : decode cX12_row 27 = .ok (.iconst 0, 1) := dgX12_row_0 (27, (.iconst 0, 1)) (List.mem_of_getElem? (i := 16) rfl)
theorem dX12_row_28 : decode cX12_row 28 = .ok (.putfield 195, 3) := dgX12_row_0 (28, (.putfield 195, 3)) (List.mem_of_getElem? (i := 17) rfl)
theorem dX12_row_31 : decode cX12_row 31 = .ok (.iconst 0, 1) := dgX12_row_0 (31, (.iconst 0, 1)) (List.mem_of_getElem? (i := 18) rfl)
theorem dX12_row_32 : decode cX12_row 32 = .ok (.istore_n 2, 1) := dgX12_row_0 (32, (.istore_n 2, 1)) (List.mem_of_getElem? (i := 19) rfl)
theorem dX12_row_33 : decode cX12_row 33 = .ok (.iconst 0, 1) := dgX12_row_0 (33, (.iconst 0, 1)) (List.mem_of_getElem? (i := 20) rfl)
theorem dX12_row_34 : decode cX12_row 34 = .ok (.istore_n 3, 1) := dgX12_row_0 (34, (.istore_n 3, 1)) (List.mem_of_getElem? (i := 21) rfl)
theorem dX12_row_35 : decode cX12_row 35 = .ok (.iload_n 3, 1) := dgX12_row_0 (35, (.iload_n 3, 1)) (List.mem_of_getElem? (i := 22) rfl)
theorem dX12_row_36 : decode cX12_row 36 = .ok (.iload_n 1, 1) := dgX12_row_0 (36, (.iload_n 1, 1)) (List.mem_of_getElem? (i := 23) rfl)
theorem dX12_row_37 : decode cX12_row 37 = .ok (.if_icmp .ge 210, 3) := dgX12_row_0 (37, (.if_icmp .ge 210, 3)) (List.mem_of_getElem? (i := 24) rfl)
theorem dX12_row_40 : decode cX12_row 40 = .ok (.iload_n 3, 1) := dgX12_row_0 (40, (.iload_n 3, 1)) (List.mem_of_getElem? (i := 25) rfl)
theorem dX12_row_41 : decode cX12_row 41 = .ok (.iconst 3, 1) := dgX12_row_0 (41, (.iconst 3, 1)) (List.mem_of_getElem? (i := 26) rfl)
theorem dX12_row_42 : decode cX12_row 42 = .ok (.iadd, 1) := dgX12_row_0 (42, (.iadd, 1)) (List.mem_of_getElem? (i := 27) rfl)
theorem dX12_row_43 : decode cX12_row 43 = .ok (.iload_n 1, 1) := dgX12_row_0 (43, (.iload_n 1, 1)) (List.mem_of_getElem? (i := 28) rfl)
theorem dX12_row_44 : decode cX12_row 44 = .ok (.if_icmp .ge 67, 3) := dgX12_row_0 (44, (.if_icmp .ge 67, 3)) (List.mem_of_getElem? (i := 29) rfl)
theorem dX12_row_47 : decode cX12_row 47 = .ok (.aload_n 0, 1) := dgX12_row_0 (47, (.aload_n 0, 1)) (List.mem_of_getElem? (i := 30) rfl)
theorem dX12_row_48 : decode cX12_row 48 = .ok (.aload_n 0, 1) := dgX12_row_0 (48, (.aload_n 0, 1)) (List.mem_of_getElem? (i := 31) rfl)
theorem dX12_row_49 : decode cX12_row 49 = .ok (.getfield 23, 3) := dgX12_row_0 (49, (.getfield 23, 3)) (List.mem_of_getElem? (i := 32) rfl)
theorem dX12_row_52 : decode cX12_row 52 = .ok (.iload_n 3, 1) := dgX12_row_0 (52, (.iload_n 3, 1)) (List.mem_of_getElem? (i := 33) rfl)
theorem dX12_row_53 : decode cX12_row 53 = .ok (.iaload, 1) := dgX12_row_0 (53, (.iaload, 1)) (List.mem_of_getElem? (i := 34) rfl)
theorem dX12_row_54 : decode cX12_row 54 = .ok (.invokevirtual 180, 3) := dgX12_row_0 (54, (.invokevirtual 180, 3)) (List.mem_of_getElem? (i := 35) rfl)
theorem dX12_row_57 : decode cX12_row 57 = .ok (.ifCond .eq 54, 3) := dgX12_row_0 (57, (.ifCond .eq 54, 3)) (List.mem_of_getElem? (i := 36) rfl)
theorem dX12_row_60 : decode cX12_row 60 = .ok (.aload_n 0, 1) := dgX12_row_0 (60, (.aload_n 0, 1)) (List.mem_of_getElem? (i := 37) rfl)
theorem dX12_row_61 : decode cX12_row 61 = .ok (.getfield 23, 3) := dgX12_row_0 (61, (.getfield 23, 3)) (List.mem_of_getElem? (i := 38) rfl)
theorem dX12_row_64 : decode cX12_row 64 = .ok (.iload_n 3, 1) := dgX12_row_0 (64, (.iload_n 3, 1)) (List.mem_of_getElem? (i := 39) rfl)
theorem dgX12_row_1 : ∀ r ∈ ([(65, (.iconst 1, 1)), (66, (.iadd, 1)), (67, (.iaload, 1)), (68, (.invokestatic 175, 3)), (71, (.ifCond .eq 40, 3)), (74, (.aload_n 0, 1)), (75, (.getfield 23, 3)), (78, (.iload_n 3, 1)), (79, (.iconst 2, 1)), (80, (.iadd, 1)), (81, (.iaload, 1)), (82, (.invokestatic 175, 3)), (85, (.ifCond .eq 26, 3)), (88, (.aload_n 0, 1)), (89, (.getfield 23, 3)), (92, (.iload_n 3, 1)), (93, (.iconst 2, 1)), (94, (.iadd, 1)), (95, (.iaload, 1)), (96, (.aload_n 0, 1)), (97, (.getfield 23, 3)), (100, (.iload_n 3, 1)), (101, (.iconst 1, 1)), (102, (.iadd, 1)), (103, (.iaload, 1)), (104, (.if_icmp .lt 7, 3)), (107, (.iconst 1, 1)), (108, (.goto 4, 3)), (111, (.iconst 0, 1)), (112, (.istore 4, 2)), (114, (.iload 4, 2)), (116, (.ifCond .eq 49, 3)), (119, (.aload_n 0, 1)), (120, (.getfield 23, 3)), (123, (.iload_n 3, 1)), (124, (.iconst 3, 1)), (125, (.iadd, 1)), (126, (.iaload, 1)), (127, (.sipush 255, 3)), (130, (.if_icmp .eq 31, 3))] : List (Nat × (Instr × Nat))), decode cX12_row r.1 = .ok r.2 := by decide +kernel
theorem dX12_row_65 : decode cX12_row 65 = .ok (.iconst 1, 1) := dgX12_row_1 (65, (.iconst 1, 1)) (List.mem_of_getElem? (i := 0) rfl)
theorem dX12_row_66 : decode cX12_row 66 = .ok (.iadd, 1) := dgX12_row_1 (66, (.iadd, 1)) (List.mem_of_getElem? (i := 1) rfl)
theorem dX12_row_67 : decode cX12_row 67 = .ok (.iaload, 1) := dgX12_row_1 (67, (.iaload, 1)) (List.mem_of_getElem? (i := 2) rfl)
theorem dX12_row_68 : decode cX12_row 68 = .ok (.invokestatic 175, 3) := dgX12_row_1 (68, (.invokestatic 175, 3)) (List.mem_of_getElem? (i := 3) rfl)
theorem dX12_row_71 : decode cX12_row 71 = .ok (.ifCond .eq 40, 3) := dgX12_row_1 (71, (.ifCond .eq 40, 3)) (List.mem_of_getElem? (i := 4) rfl)
theorem dX12_row_74 : decode cX12_row 74 = .ok (.aload_n 0, 1) := dgX12_row_1 (74, (.aload_n 0, 1)) (List.mem_of_getElem? (i := 5) rfl)
theorem dX12_row_75 : decode cX12_row 75 = .ok (.getfield 23, 3) := dgX12_row_1 (75, (.getfield 23, 3)) (List.mem_of_getElem? (i := 6) rfl)
theorem dX12_row_78 : decode cX12_row 78 = .ok (.iload_n 3, 1) := dgX12_row_1 (78, (.iload_n 3, 1)) (List.mem_of_getElem? (i := 7) rfl)
theorem dX12_row_79 : decode cX12_row 79 = .ok (.iconst 2, 1) := dgX12_row_1 (79, (.iconst 2, 1)) (List.mem_of_getElem? (i := 8) rfl)
theorem dX12_row_80 : decode cX12_row 80 = .ok (.iadd, 1) := dgX12_row_1 (80, (.iadd, 1)) (List.mem_of_getElem? (i := 9) rfl)
theorem dX12_row_81 : decode cX12_row 81 = .ok (.iaload, 1) := dgX12_row_1 (81, (.iaload, 1)) (List.mem_of_getElem? (i := 10) rfl)
theorem dX12_row_82 : decode cX12_row 82 = .ok (.invokestatic 175, 3) := dgX12_row_1 (82, (.invokestatic 175, 3)) (List.mem_of_getElem? (i := 11) rfl)
theorem dX12_row_85 : decode cX12_row 85 = .ok (.ifCond .eq 26, 3) := dgX12_row_1 (85, (.ifCond .eq 26, 3)) (List.mem_of_getElem? (i := 12) rfl)
theorem dX12_row_88 : decode cX12_row 88 = .ok (.aload_n 0, 1) := dgX12_row_1 (88, (.aload_n 0, 1)) (List.mem_of_getElem? (i := 13) rfl)
theorem dX12_row_89 : decode cX12_row 89 = .ok (.getfield 23, 3) := dgX12_row_1 (89, (.getfield 23, 3)) (List.mem_of_getElem? (i := 14) rfl)
theorem dX12_row_92 : decode cX12_row 92 = .ok (.iload_n 3, 1) := dgX12_row_1 (92, (.iload_n 3, 1)) (List.mem_of_getElem? (i := 15) rfl)
theorem dX12_row_93 : decode cX12_row 93 = .ok (.iconst 2, 1) := dgX12_row_1 (93, (.iconst 2, 1)) (List.mem_of_getElem? (i := 16) rfl)
theorem dX12_row_94 : decode cX12_row 94 = .ok (.iadd, 1) := dgX12_row_1 (94, (.iadd, 1)) (List.mem_of_getElem? (i := 17) rfl)
theorem dX12_row_95 : decode cX12_row 95 = .ok (.iaload, 1) := dgX12_row_1 (95, (.iaload, 1)) (List.mem_of_getElem? (i := 18) rfl)
theorem dX12_row_96 : decode cX12_row 96 = .ok (.aload_n 0, 1) := dgX12_row_1 (96, (.aload_n 0, 1)) (List.mem_of_getElem? (i := 19) rfl)
theorem dX12_row_97 : decode cX12_row 97 = .ok (.getfield 23, 3) := dgX12_row_1 (97, (.getfield 23, 3)) (List.mem_of_getElem? (i := 20) rfl)
theorem dX12_row_100 : decode cX12_row 100 = .ok (.iload_n 3, 1) := dgX12_row_1 (100, (.iload_n 3, 1)) (List.mem_of_getElem? (i := 21) rfl)
theorem dX12_row_101 : decode cX12_row 101 = .ok (.iconst 1, 1) := dgX12_row_1 (101, (.iconst 1, 1)) (List.mem_of_getElem? (i := 22) rfl)
theorem dX12_row_102 : decode cX12_row 102 = .ok (.iadd, 1) := dgX12_row_1 (102, (.iadd, 1)) (List.mem_of_getElem? (i := 23) rfl)
theorem dX12_row_103 : decode cX12_row 103 = .ok (.iaload, 1) := dgX12_row_1 (103, (.iaload, 1)) (List.mem_of_getElem? (i := 24) rfl)
theorem dX12_row_104 : decode cX12_row 104 = .ok (.if_icmp .lt 7, 3) := dgX12_row_1 (104, (.if_icmp .lt 7, 3)) (List.mem_of_getElem? (i := 25) rfl)
theorem dX12_row_107 : decode cX12_row 107 = .ok (.iconst 1, 1) := dgX12_row_1 (107, (.iconst 1, 1)) (List.mem_of_getElem? (i := 26) rfl)
theorem dX12_row_108 : decode cX12_row 108 = .ok (.goto 4, 3) := dgX12_row_1 (108, (.goto 4, 3)) (List.mem_of_getElem? (i := 27) rfl)
theorem dX12_row_111 : decode cX12_row 111 = .ok (.iconst 0, 1) := dgX12_row_1 (111, (.iconst 0, 1)) (List.mem_of_getElem? (i := 28) rfl)
theorem dX12_row_112 : decode cX12_row 112 = .ok (.istore 4, 2) := dgX12_row_1 (112, (.istore 4, 2)) (List.mem_of_getElem? (i := 29) rfl)
theorem dX12_row_114 : decode cX12_row 114 = .ok (.iload 4, 2) := dgX12_row_1 (114, (.iload 4, 2)) (List.mem_of_getElem? (i := 30) rfl)
theorem dX12_row_116 : decode cX12_row 116 = .ok (.ifCond .eq 49, 3) := dgX12_row_1 (116, (.ifCond .eq 49, 3)) (List.mem_of_getElem? (i := 31) rfl)
theorem dX12_row_119 : decode cX12_row 119 = .ok (.aload_n 0, 1) := dgX12_row_1 (119, (.aload_n 0, 1)) (List.mem_of_getElem? (i := 32) rfl)
theorem dX12_row_120 : decode cX12_row 120 = .ok (.getfield 23, 3) := dgX12_row_1 (120, (.getfield 23, 3)) (List.mem_of_getElem? (i := 33) rfl)
theorem dX12_row_123 : decode cX12_row 123 = .ok (.iload_n 3, 1) := dgX12_row_1 (123, (.iload_n 3, 1)) (List.mem_of_getElem? (i := 34) rfl)
theorem dX12_row_124 : decode cX12_row 124 = .ok (.iconst 3, 1) := dgX12_row_1 (124, (.iconst 3, 1)) (List.mem_of_getElem? (i := 35) rfl)
theorem dX12_row_125 : decode cX12_row 125 = .ok (.iadd, 1) := dgX12_row_1 (125, (.iadd, 1)) (List.mem_of_getElem? (i := 36) rfl)
theorem dX12_row_126 : decode cX12_row 126 = .ok (.iaload, 1) := dgX12_row_1 (126, (.iaload, 1)) (List.mem_of_getElem? (i := 37) rfl)
theorem dX12_row_127 : decode cX12_row 127 = .ok (.sipush 255, 3) := dgX12_row_1 (127, (.sipush 255, 3)) (List.mem_of_getElem? (i := 38) rfl)
theorem dX12_row_130 : decode cX12_row 130 = .ok (.if_icmp .eq 31, 3) := dgX12_row_1 (130, (.if_icmp .eq 31, 3)) (List.mem_of_getElem? (i := 39) rfl)
theorem dgX12_row_2 : ∀ r ∈ ([(133, (.aload_n 0, 1)), (134, (.getfield 23, 3)), (137, (.iload_n 3, 1)), (138, (.iconst 3, 1)), (139, (.iadd, 1)), (140, (.iaload, 1)), (141, (.bipush 64, 2)), (143, (.if_icmp .ge 22, 3)), (146, (.aload_n 0, 1)), (147, (.aload_n 0, 1)), (148, (.getfield 23, 3)), (151, (.iload_n 3, 1)), (152, (.iconst 3, 1)), (153, (.iadd, 1)), (154, (.iaload, 1)), (155, (.invokevirtual 160, 3)), (158, (.ifCond .ne 7, 3)), (161, (.iconst 1, 1)), (162, (.goto 4, 3)), (165, (.iconst 0, 1)), (166, (.istore 4, 2)), (168, (.iload 4, 2)), (170, (.ifCond .eq 61, 3)), (173, (.aload_n 0, 1)), (174, (.aload_n 0, 1)), (175, (.getfield 23, 3)), (178, (.iload_n 3, 1)), (179, (.iaload, 1)), (180, (.aload_n 0, 1)), (181, (.getfield 23, 3)), (184, (.iload_n 3, 1)), (185, (.iconst 1, 1)), (186, (.iadd, 1)), (187, (.iaload, 1)), (188, (.aload_n 0, 1)), (189, (.getfield 23, 3)), (192, (.iload_n 3, 1)), (193, (.iconst 2, 1)), (194, (.iadd, 1)), (195, (.iaload, 1))] : List (Nat × (Instr × Nat))), decode cX12_row r.1 = .ok r.2 := by decide +kernel
theorem dX12_row_133 : decode cX12_row 133 = .ok (.aload_n 0, 1) := dgX12_row_2 (133, (.aload_n 0, 1)) (List.mem_of_getElem? (i := 0) rfl)
theorem dX12_row_134 : decode cX12_row 134 = .ok (.getfield 23, 3) := dgX12_row_2 (134, (.getfield 23, 3)) (List.mem_of_getElem? (i := 1) rfl)
theorem dX12_row_137 : decode cX12_row 137 = .ok (.iload_n 3, 1) := dgX12_row_2 (137, (.iload_n 3, 1)) (List.mem_of_getElem? (i := 2) rfl)
theorem dX12_row_138 : decode cX12_row 138 = .ok (.iconst 3, 1) := dgX12_row_2 (138, (.iconst 3, 1)) (List.mem_of_getElem? (i := 3) rfl)
theorem dX12_row_139 : decode cX12_row 139 = .ok (.iadd, 1) := dgX12_row_2 (139, (.iadd, 1)) (List.mem_of_getElem? (i := 4) rfl)
theorem dX12_row_140 : decode cX12_row 140 = .ok (.iaload, 1) := dgX12_row_2 (140, (.iaload, 1)) (List.mem_of_getElem? (i := 5) rfl)
theorem dX12_row_141 : decode cX12_row 141 = .ok (.bipush 64, 2) := dgX12_row_2 (141, (.bipush 64, 2)) (List.mem_of_getElem? (i := 6) rfl)
theorem dX12_row_143 : decode cX12_row 143 = .ok (.if_icmp .ge 22, 3) := dgX12_row_2 (143, (.if_icmp .ge 22, 3)) (List.mem_of_getElem? (i := 7) rfl)
theorem dX12_row_146 : decode cX12_row 146 = .ok (.aload_n 0, 1) := dgX12_row_2 (146, (.aload_n 0, 1)) (List.mem_of_getElem? (i := 8) rfl)
theorem dX12_row_147 : decode cX12_row 147 = .ok (.aload_n 0, 1) := dgX12_row_2 (147, (.aload_n 0, 1)) (List.mem_of_getElem? (i := 9) rfl)
theorem dX12_row_148 : decode cX12_row 148 = .ok (.getfield 23, 3) := dgX12_row_2 (148, (.getfield 23, 3)) (List.mem_of_getElem? (i := 10) rfl)
theorem dX12_row_151 : decode cX12_row 151 = .ok (.iload_n 3, 1) := dgX12_row_2 (151, (.iload_n 3, 1)) (List.mem_of_getElem? (i := 11) rfl)
theorem dX12_row_152 : decode cX12_row 152 = .ok (.iconst 3, 1) := dgX12_row_2 (152, (.iconst 3, 1)) (List.mem_of_getElem? (i := 12) rfl)
theorem dX12_row_153 : decode cX12_row 153 = .ok (.iadd, 1) := dgX12_row_2 (153, (.iadd, 1)) (List.mem_of_getElem? (i := 13) rfl)
theorem dX12_row_154 : decode cX12_row 154 = .ok (.iaload, 1) := dgX12_row_2 (154, (.iaload, 1)) (List.mem_of_getElem? (i := 14) rfl)
theorem dX12_row_155 : decode cX12_row 155 = .ok (.invokevirtual 160, 3) := dgX12_row_2 (155, (.invokevirtual 160, 3)) (List.mem_of_getElem? (i := 15) rfl)
theorem dX12_row_158 : decode cX12_row 158 = .ok (.ifCond .ne 7, 3) := dgX12_row_2 (158, (.ifCond .ne 7, 3)) (List.mem_of_getElem? (i := 16) rfl)
theorem dX12_row_161 : decode cX12_row 161 = .ok (.iconst 1, 1) := dgX12_row_2 (161, (.iconst 1, 1)) (List.mem_of_getElem? (i := 17) rfl)
theorem dX12_row_162 : decode cX12_row 162 = .ok (.goto 4, 3) := dgX12_row_2 (162, (.goto 4, 3)) (List.mem_of_getElem? (i := 18) rfl)
theorem dX12_row_165 : decode cX12_row 165 = .ok (.iconst 0, 1) := dgX12_row_2 (165, (.iconst 0, 1)) (List.mem_of_getElem? (i := 19) rfl)
theorem dX12_row_166 : decode cX12_row 166 = .ok (.istore 4, 2) := dgX12_row_2 (166, (.istore 4, 2)) (List.mem_of_getElem? (i := 20) rfl)
theorem dX12_row_168 : decode cX12_row 168 = .ok (.iload 4, 2) := dgX12_row_2 (168, (.iload 4, 2)) (List.mem_of_getElem? (i := 21) rfl)
theorem dX12_row_170 : decode cX12_row 170 = .ok (.ifCond .eq 61, 3) := dgX12_row_2 (170, (.ifCond .eq 61, 3)) (List.mem_of_getElem? (i := 22) rfl)
theorem dX12_row_173 : decode cX12_row 173 = .ok (.aload_n 0, 1) := dgX12_row_2 (173, (.aload_n 0, 1)) (List.mem_of_getElem? (i := 23) rfl)
theorem dX12_row_174 : decode cX12_row 174 = .ok (.aload_n 0, 1) := dgX12_row_2 (174, (.aload_n 0, 1)) (List.mem_of_getElem? (i := 24) rfl)
theorem dX12_row_175 : decode cX12_row 175 = .ok (.getfield 23, 3) := dgX12_row_2 (175, (.getfield 23, 3)) (List.mem_of_getElem? (i := 25) rfl)
theorem dX12_row_178 : decode cX12_row 178 = .ok (.iload_n 3, 1) := dgX12_row_2 (178, (.iload_n 3, 1)) (List.mem_of_getElem? (i := 26) rfl)
theorem dX12_row_179 : decode cX12_row 179 = .ok (.iaload, 1) := dgX12_row_2 (179, (.iaload, 1)) (List.mem_of_getElem? (i := 27) rfl)
theorem dX12_row_180 : decode cX12_row 180 = .ok (.aload_n 0, 1) := dgX12_row_2 (180, (.aload_n 0, 1)) (List.mem_of_getElem? (i := 28) rfl)
theorem dX12_row_181 : decode cX12_row 181 = .ok (.getfield 23, 3) := dgX12_row_2 (181, (.getfield 23, 3)) (List.mem_of_getElem? (i := 29) rfl)
theorem dX12_row_184 : decode cX12_row 184 = .ok (.iload_n 3, 1) := dgX12_row_2 (184, (.iload_n 3, 1)) (List.mem_of_getElem? (i := 30) rfl)
theorem dX12_row_185 : decode cX12_row 185 = .ok (.iconst 1, 1) := dgX12_row_2 (185, (.iconst 1, 1)) (List.mem_of_getElem? (i := 31) rfl)
theorem dX12_row_186 : decode cX12_row 186 = .ok (.iadd, 1) := dgX12_row_2 (186, (.iadd, 1)) (List.mem_of_getElem? (i := 32) rfl)
theorem dX12_row_187 : decode cX12_row 187 = .ok (.iaload, 1) := dgX12_row_2 (187, (.iaload, 1)) (List.mem_of_getElem? (i := 33) rfl)
theorem dX12_row_188 : decode cX12_row 188 = .ok (.aload_n 0, 1) := dgX12_row_2 (188, (.aload_n 0, 1)) (List.mem_of_getElem? (i := 34) rfl)
theorem dX12_row_189 : decode cX12_row 189 = .ok (.getfield 23, 3) := dgX12_row_2 (189, (.getfield 23, 3)) (List.mem_of_getElem? (i := 35) rfl)
theorem dX12_row_192 : decode cX12_row 192 = .ok (.iload_n 3, 1) := dgX12_row_2 (192, (.iload_n 3, 1)) (List.mem_of_getElem? (i := 36) rfl)
theorem dX12_row_193 : decode cX12_row 193 = .ok (.iconst 2, 1) := dgX12_row_2 (193, (.iconst 2, 1)) (List.mem_of_getElem? (i := 37) rfl)
theorem dX12_row_194 : decode cX12_row 194 = .ok (.iadd, 1) := dgX12_row_2 (194, (.iadd, 1)) (List.mem_of_getElem? (i := 38) rfl)
theorem dX12_row_195 : decode cX12_row 195 = .ok (.iaload, 1) := dgX12_row_2 (195, (.iaload, 1)) (List.mem_of_getElem? (i := 39) rfl)
theorem dgX12_row_3 : ∀ r ∈ ([(196, (.aload_n 0, 1)), (197, (.getfield 23, 3)), (200, (.iload_n 3, 1)), (201, (.iconst 3, 1)), (202, (.iadd, 1)), (203, (.iaload, 1)), (204, (.sipush 255, 3)), (207, (.if_icmp .ne 7, 3)), (210, (.iconst (-1), 1)), (211, (.goto 11, 3)), (214, (.aload_n 0, 1)), (215, (.getfield 23, 3)), (218, (.iload_n 3, 1)), (219, (.iconst 3, 1)), (220, (.iadd, 1)), (221, (.iaload, 1)), (222, (.invokevirtual 183, 3)), (225, (.iinc 2 1, 3)), (228, (.goto 13, 3)), (231, (.aload_n 0, 1)), (232, (.dup, 1)), (233, (.getfield 195, 3)), (236, (.iconst 1, 1)), (237, (.iadd, 1)), (238, (.putfield 195, 3)), (241, (.iinc 3 4, 3)), (244, (.goto (-209), 3)), (247, (.aload_n 0, 1)), (248, (.iload_n 2, 1)), (249, (.invokevirtual 125, 3)), (252, (.ireturn, 1))] : List (Nat × (Instr × Nat))), decode cX12_row r.1 = .ok r.2 := by decide +kernel
theorem dX12_row_196 : decode cX12_row 196 = .ok (.aload_n 0, 1) := dgX12_row_3 (196, (.aload_n 0, 1)) (List.mem_of_getElem? (i := 0) rfl)
theorem dX12_row_197 : decode cX12_row 197 = .ok (.getfield 23, 3) := dgX12_row_3 (197, (.getfield 23, 3)) (List.mem_of_getElem? (i := 1) rfl)
theorem dX12_row_200 : decode cX12_row 200 = .ok (.iload_n 3, 1) := dgX12_row_3 (200, (.iload_n 3, 1)) (List.mem_of_getElem? (i := 2) rfl)
theorem dX12_row_201 : decode cX12_row 201 = .ok (.iconst 3, 1) := dgX12_row_3 (201, (.iconst 3, 1)) (List.mem_of_getElem? (i := 3) rfl)
theorem dX12_row_202 : decode cX12_row 202 = .ok (.iadd, 1) := dgX12_row_3 (202, (.iadd, 1)) (List.mem_of_getElem? (i := 4) rfl)
theorem dX12_row_203 : decode cX12_row 203 = .ok (.iaload, 1) := dgX12_row_3 (203, (.iaload, 1)) (List.mem_of_getElem? (i := 5) rfl)
theorem dX12_row_204 : decode cX12_row 204 = .ok (.sipush 255, 3) := dgX12_row_3 (204, (.sipush 255, 3)) (List.mem_of_getElem? (i := 6) rfl)
theorem dX12_row_207 : decode cX12_row 207 = .ok (.if_icmp .ne 7, 3) := dgX12_row_3 (207, (.if_icmp .ne 7, 3)) (List.mem_of_getElem? (i := 7) rfl)
theorem dX12_row_210 : decode cX12_row 210 = .ok (.iconst (-1), 1) := dgX12_row_3 (210, (.iconst (-1), 1)) (List.mem_of_getElem? (i := 8) rfl)
theorem dX12_row_211 : decode cX12_row 211 = .ok (.goto 11, 3) := dgX12_row_3 (211, (.goto 11, 3)) (List.mem_of_getElem? (i := 9) rfl)
theorem dX12_row_214 : decode cX12_row 214 = .ok (.aload_n 0, 1) := dgX12_row_3 (214, (.aload_n 0, 1)) (List.mem_of_getElem? (i := 10) rfl)
theorem dX12_row_215 : decode cX12_row 215 = .ok (.getfield 23, 3) := dgX12_row_3 (215, (.getfield 23, 3)) (List.mem_of_getElem? (i := 11) rfl)
theorem dX12_row_218 : decode cX12_row 218 = .ok (.iload_n 3, 1) := dgX12_row_3 (218, (.iload_n 3, 1)) (List.mem_of_getElem? (i := 12) rfl)
theorem dX12_row_219 : decode cX12_row 219 = .ok (.iconst 3, 1) := dgX12_row_3 (219, (.iconst 3, 1)) (List.mem_of_getElem? (i := 13) rfl)
theorem dX12_row_220 : decode cX12_row 220 = .ok (.iadd, 1) := dgX12_row_3 (220, (.iadd, 1)) (List.mem_of_getElem? (i := 14) rfl)
theorem dX12_row_221 : decode cX12_row 221 = .ok (.iaload, 1) := dgX12_row_3 (221, (.iaload, 1)) (List.mem_of_getElem? (i := 15) rfl)
theorem dX12_row_222 : decode cX12_row 222 = .ok (.invokevirtual 183, 3) := dgX12_row_3 (222, (.invokevirtual 183, 3)) (List.mem_of_getElem? (i := 16) rfl)
theorem dX12_row_225 : decode cX12_row 225 = .ok (.iinc 2 1, 3) := dgX12_row_3 (225, (.iinc 2 1, 3)) (List.mem_of_getElem? (i := 17) rfl)
theorem dX12_row_228 : decode cX12_row 228 = .ok (.goto 13, 3) := dgX12_row_3 (228, (.goto 13, 3)) (List.mem_of_getElem? (i := 18) rfl)
theorem dX12_row_231 : decode cX12_row 231 = .ok (.aload_n 0, 1) := dgX12_row_3 (231, (.aload_n 0, 1)) (List.mem_of_getElem? (i := 19) rfl)
theorem dX12_row_232 : decode cX12_row 232 = .ok (.dup, 1) := dgX12_row_3 (232, (.dup, 1)) (List.mem_of_getElem? (i := 20) rfl)
theorem dX12_row_233 : decode cX12_row 233 = .ok (.getfield 195, 3) := dgX12_row_3 (233, (.getfield 195, 3)) (List.mem_of_getElem? (i := 21) rfl)
theorem dX12_row_236 : decode cX12_row 236 = .ok (.iconst 1, 1) := dgX12_row_3 (236, (.iconst 1, 1)) (List.mem_of_getElem? (i := 22) rfl)
theorem dX12_row_237 : decode cX12_row 237 = .ok (.iadd, 1) := dgX12_row_3 (237, (.iadd, 1)) (List.mem_of_getElem? (i := 23) rfl)
theorem dX12_row_238 : decode cX12_row 238 = .ok (.putfield 195, 3) := dgX12_row_3 (238, (.putfield 195, 3)) (List.mem_of_getElem? (i := 24) rfl)
theorem dX12_row_241 : decode cX12_row 241 = .ok (.iinc 3 4, 3) := dgX12_row_3 (241, (.iinc 3 4, 3)) (List.mem_of_getElem? (i := 25) rfl)
theorem dX12_row_244 : decode cX12_row 244 = .ok (.goto (-209), 3) := dgX12_row_3 (244, (.goto (-209), 3)) (List.mem_of_getElem? (i := 26) rfl)
theorem dX12_row_247 : decode cX12_row 247 = .ok (.aload_n 0, 1) := dgX12_row_3 (247, (.aload_n 0, 1)) (List.mem_of_getElem? (i := 27) rfl)
theorem dX12_row_248 : decode cX12_row 248 = .ok (.iload_n 2, 1) := dgX12_row_3 (248, (.iload_n 2, 1)) (List.mem_of_getElem? (i := 28) rfl)
theorem dX12_row_249 : decode cX12_row 249 = .ok (.invokevirtual 125, 3) := dgX12_row_3 (249, (.invokevirtual 125, 3)) (List.mem_of_getElem? (i := 29) rfl)
theorem dX12_row_252 : decode cX12_row 252 = .ok (.ireturn, 1) := dgX12_row_3 (252, (.ireturn, 1)) (List.mem_of_getElem? (i := 30) rfl)
theorem dgX12_spot_0 : ∀ r ∈ ([(0, (.aload_n 0, 1)), (1, (.iconst 0, 1)), (2, (.putfield 107, 3)), (5, (.iload_n 1, 1)), (6, (.invokestatic 138, 3)), (9, (.ifCond .eq 19, 3)), (12, (.iconst 0, 1)), (13, (.iload_n 2, 1)), (14, (.invokestatic 163, 3)), (17, (.ifCond .eq 11, 3)), (20, (.iconst 1, 1)), (21, (.iload_n 3, 1)), (22, (.invokestatic 163, 3)), (25, (.ifCond .ne 9, 3)), (28, (.aload_n 0, 1)), (29, (.iconst (-1), 1)), (30, (.invokevirtual 125, 3)), (33, (.ireturn, 1)), (34, (.aload_n 0, 1)), (35, (.iload_n 1, 1)), (36, (.invokevirtual 167, 3)), (39, (.ifCond .ne 10, 3)), (42, (.aload_n 0, 1)), (43, (.bipush (-3), 2)), (45, (.invokevirtual 125, 3)), (48, (.ireturn, 1)), (49, (.aload_n 0, 1)), (50, (.getfield 13, 3)), (53, (.bipush 7, 2)), (55, (.iaload, 1)), (56, (.istore 4, 2)), (58, (.iload 4, 2)), (60, (.bipush 8, 2)), (62, (.if_icmp .ne 10, 3)), (65, (.aload_n 0, 1)), (66, (.bipush (-5), 2)), (68, (.invokevirtual 125, 3)), (71, (.ireturn, 1)), (72, (.aload_n 0, 1)), (73, (.getfield 13, 3))] : List (Nat × (Instr × Nat))), decode cX12_spot r.1 = .ok r.2 := by decide +kernel
theorem dX12_spot_0 : decode cX12_spot 0 = .ok (.aload_n 0, 1) := dgX12_spot_0 (0, (.aload_n 0, 1)) (List.mem_of_getElem? (i := 0) rfl)
theorem dX12_spot_1 : decode cX12_spot 1 = .ok (.iconst 0, 1) := dgX12_spot_0 (1, (.iconst 0, 1)) (List.mem_of_getElem? (i := 1) rfl)
theorem dX12_spot_2 : decode cX12_spot 2 = .ok (.putfield 107, 3) := dgX12_spot_0 (2, (.putfield 107, 3)) (List.mem_of_getElem? (i := 2) rfl)
theorem dX12_spot_5 : decode cX12_spot 5 = .ok (.iload_n 1, 1) := dgX12_spot_0 (5, (.iload_n 1, 1)) (List.mem_of_getElem? (i := 3) rfl)
theorem dX12_spot_6 : decode cX12_spot 6 = .ok (.invokestatic 138, 3) := dgX12_spot_0 (6, (.invokestatic 138, 3)) (List.mem_of_getElem? (i := 4) rfl)
theorem dX12_spot_9 : decode cX12_spot 9 = .ok (.ifCond .eq 19, 3) := dgX12_spot_0 (9, (.ifCond .eq 19, 3)) (List.mem_of_getElem? (i := 5) rfl)
theorem dX12_spot_12 : decode cX12_spot 12 = .ok (.iconst 0, 1) := dgX12_spot_0 (12, (.iconst 0, 1)) (List.mem_of_getElem? (i := 6) rfl)
theorem dX12_spot_13 : decode cX12_spot 13 = .ok (.iload_n 2, 1) := dgX12_spot_0 (13, (.iload_n 2, 1)) (List.mem_of_getElem? (i := 7) rfl)
theorem dX12_spot_14 : decode cX12_spot 14 = .ok (.invokestatic 163, 3) := dgX12_spot_0 (14, (.invokestatic 163, 3)) (List.mem_of_getElem? (i := 8) rfl)
theorem dX12_spot_17 : decode cX12_spot 17 = .ok (.ifCond .eq 11, 3) := dgX12_spot_0 (17, (.ifCond .eq 11, 3)) (List.mem_of_getElem? (i := 9) rfl)
theorem dX12_spot_20 : decode cX12_spot 20 = .ok (.iconst 1, 1) := dgX12_spot_0 (20, (.iconst 1, 1)) (List.mem_of_getElem? (i := 10) rfl)
theorem dX12_spot_21 : decode cX12_spot 21 = .ok (.iload_n 3, 1) := dgX12_spot_0 (21, (.iload_n 3, 1)) (List.mem_of_getElem? (i := 11) rfl)
theorem dX12_spot_22 : decode cX12_spot 22 = .ok (.invokestatic 163, 3) := dgX12_spot_0 (22, (.invokestatic 163, 3)) (List.mem_of_getElem? (i := 12) rfl)
theorem dX12_spot_25 : decode cX12_spot 25 = .ok (.ifCond .ne 9, 3) := dgX12_spot_0 (25, (.ifCond .ne 9, 3)) (List.mem_of_getElem? (i := 13) rfl)
theorem dX12_spot_28 : decode cX12_spot 28 = .ok (.aload_n 0, 1) := dgX12_spot_0 (28, (.aload_n 0, 1)) (List.mem_of_getElem? (i := 14) rfl)
theorem dX12_spot_29 : decode cX12_spot 29 = .ok (.iconst (-1), 1) := dgX12_spot_0 (29, (.iconst (-1), 1)) (List.mem_of_getElem? (i := 15) rfl)
theorem dX12_spot_30 : decode cX12_spot 30 = .ok (.invokevirtual 125, 3) := dgX12_spot_0 (30, (.invokevirtual 125, 3)) (List.mem_of_getElem? (i := 16) rfl)
theorem dX12_spot_33 : decode cX12_spot 33 = .ok (.ireturn, 1) := dgX12_spot_0 (33, (.ireturn, 1)) (List.mem_of_getElem? (i := 17) rfl)
theorem dX12_spot_34 : decode cX12_spot 34 = .ok (.aload_n 0, 1) := dgX12_spot_0 (34, (.aload_n 0, 1)) (List.mem_of_getElem? (i := 18) rfl)
theorem dX12_spot_35 : decode cX12_spot 35 = .ok (.iload_n 1, 1) := dgX12_spot_0 (35, (.iload_n 1, 1)) (List.mem_of_getElem? (i := 19) rfl)
theorem dX12_spot_36 : decode cX12_spot 36 = .ok (.invokevirtual 167, 3) := dgX12_spot_0 (36, (.invokevirtual 167, 3)) (List.mem_of_getElem? (i := 20) rfl)
theorem dX12_spot_39 : decode cX12_spot 39 = .ok (.ifCond .ne 10, 3) := dgX12_spot_0 (39, (.ifCond .ne 10, 3)) (List.mem_of_getElem? (i := 21) rfl)
theorem dX12_spot_42 : decode cX12_spot 42 = .ok (.aload_n 0, 1) := dgX12_spot_0 (42, (.aload_n 0, 1)) (List.mem_of_getElem? (i := 22) rfl)
theorem dX12_spot_43 : decode cX12_spot 43 = .ok (.bipush (-3), 2) := dgX12_spot_0 (43, (.bipush (-3), 2)) (List.mem_of_getElem? (i := 23) rfl)
theorem dX12_spot_45 : decode cX12_spot 45 = .ok (.invokevirtual 125, 3) := dgX12_spot_0 (45, (.invokevirtual 125, 3)) (List.mem_of_getElem? (i := 24) rfl)
theorem dX12_spot_48 : decode cX12_spot 48 = .ok (.ireturn, 1) := dgX12_spot_0 (48, (.ireturn, 1)) (List.mem_of_getElem? (i := 25) rfl)
theorem dX12_spot_49 : decode cX12_spot 49 = .ok (.aload_n 0, 1) := dgX12_spot_0 (49, (.aload_n 0, 1)) (List.mem_of_getElem? (i := 26) rfl)
theorem dX12_spot_50 : decode cX12_spot 50 = .ok (.getfield 13, 3) := dgX12_spot_0 (50, (.getfield 13, 3)) (List.mem_of_getElem? (i := 27) rfl)
theorem dX12_spot_53 : decode cX12_spot 53 = .ok (.bipush 7, 2) := dgX12_spot_0 (53, (.bipush 7, 2)) (List.mem_of_getElem? (i := 28) rfl)
theorem dX12_spot_55 : decode cX12_spot 55 = .ok (.iaload, 1) := dgX12_spot_0 (55, (.iaload, 1)) (List.mem_of_getElem? (i := 29) rfl)
theorem dX12_spot_56 : decode cX12_spot 56 = .ok (.istore 4, 2) := dgX12_spot_0 (56, (.istore 4, 2)) (List.mem_of_getElem? (i := 30) rfl)
theorem dX12_spot_58 : decode cX12_spot 58 = .ok (.iload 4, 2) := dgX12_spot_0 (58, (.iload 4, 2)) (List.mem_of_getElem? (i := 31) rfl)
theorem dX12_spot_60 : decode cX12_spot 60 = .ok (.bipush 8, 2) := dgX12_spot_0 (60, (.bipush 8, 2)) (List.mem_of_getElem? (i := 32) rfl)
theorem dX12_spot_62 : decode cX12_spot 62 = .ok (.if_icmp .ne 10, 3) := dgX12_spot_0 (62, (.if_icmp .ne 10, 3)) (List.mem_of_getElem? (i := 33) rfl)
theorem dX12_spot_65 : decode cX12_spot 65 = .ok (.aload_n 0, 1) := dgX12_spot_0 (65, (.aload_n 0, 1)) (List.mem_of_getElem? (i := 34) rfl)
theorem dX12_spot_66 : decode cX12_spot 66 = .ok (.bipush (-5), 2) := dgX12_spot_0 (66, (.bipush (-5), 2)) (List.mem_of_getElem? (i := 35) rfl)
theorem dX12_spot_68 : decode cX12_spot 68 = .ok (.invokevirtual 125, 3) := dgX12_spot_0 (68, (.invokevirtual 125, 3)) (List.mem_of_getElem? (i := 36) rfl)
theorem dX12_spot_71 : decode cX12_spot 71 = .ok (.ireturn, 1) := dgX12_spot_0 (71, (.ireturn, 1)) (List.mem_of_getElem? (i := 37) rfl)
theorem dX12_spot_72 : decode cX12_spot 72 = .ok (.aload_n 0, 1) := dgX12_spot_0 (72, (.aload_n 0, 1)) (List.mem_of_getElem? (i := 38) rfl)
theorem dX12_spot_73 : decode cX12_spot 73 = .ok (.getfield 13, 3) := dgX12_spot_0 (73, (.getfield 13, 3)) (List.mem_of_getElem? (i := 39) rfl)
theorem dgX12_spot_1 : ∀ r ∈ ([(76, (.sipush 270, 3)), (79, (.iconst 3, 1)), (80, (.iload 4, 2)), (82, (.imul, 1)), (83, (.iadd, 1)), (84, (.iload_n 1, 1)), (85, (.iastore, 1)), (86, (.aload_n 0, 1)), (87, (.getfield 13, 3)), (90, (.sipush 270, 3)), (93, (.iconst 3, 1)), (94, (.iload 4, 2)), (96, (.imul, 1)), (97, (.iadd, 1)), (98, (.iconst 1, 1)), (99, (.iadd, 1)), (100, (.iload_n 2, 1)), (101, (.iastore, 1)), (102, (.aload_n 0, 1)), (103, (.getfield 13, 3)), (106, (.sipush 270, 3)), (109, (.iconst 3, 1)), (110, (.iload 4, 2)), (112, (.imul, 1)), (113, (.iadd, 1)), (114, (.iconst 2, 1)), (115, (.iadd, 1)), (116, (.iload_n 3, 1)), (117, (.iastore, 1)), (118, (.aload_n 0, 1)), (119, (.getfield 13, 3)), (122, (.bipush 7, 2)), (124, (.dup2, 1)), (125, (.iaload, 1)), (126, (.iconst 1, 1)), (127, (.iadd, 1)), (128, (.iastore, 1)), (129, (.aload_n 0, 1)), (130, (.iload 4, 2)), (132, (.invokevirtual 125, 3))] : List (Nat × (Instr × Nat))), decode cX12_spot r.1 = .ok r.2 := by decide +kernel
theorem dX12_spot_76 : decode cX12_spot 76 = .ok (.sipush 270, 3) := dgX12_spot_1 (76, (.sipush 270, 3)) (List.mem_of_getElem? (i := 0) rfl)
theorem dX12_spot_79 : decode cX12_spot 79 = .ok (.iconst 3, 1) := dgX12_spot_1 (79, (.iconst 3, 1)) (List.mem_of_getElem? (i := 1) rfl)
theorem dX12_spot_80 : decode cX12_spot 80 = .ok (.iload 4, 2) := dgX12_spot_1 (80, (.iload 4, 2)) (List.mem_of_getElem? (i := 2) rfl)
theorem dX12_spot_82 : decode cX12_spot 82 = .ok (.imul, 1) := dgX12_spot_1 (82, (.imul, 1)) (List.mem_of_getElem? (i := 3) rfl)
theorem dX12_spot_83 : decode cX12_spot 83 = .ok (.iadd, 1) := dgX12_spot_1 (83, (.iadd, 1)) (List.mem_of_getElem? (i := 4) rfl)
theorem dX12_spot_84 : decode cX12_spot 84 = .ok (.iload_n 1, 1) := dgX12_spot_1 (84, (.iload_n 1, 1)) (List.mem_of_getElem? (i := 5) rfl)
theorem dX12_spot_85 : decode cX12_spot 85 = .ok (.iastore, 1) := dgX12_spot_1 (85, (.iastore, 1)) (List.mem_of_getElem? (i := 6) rfl)
theorem dX12_spot_86 : decode cX12_spot 86 = .ok (.aload_n 0, 1) := dgX12_spot_1 (86, (.aload_n 0, 1)) (List.mem_of_getElem? (i := 7) rfl)
theorem dX12_spot_87 : decode cX12_spot 87 = .ok (.getfield 13, 3) := dgX12_spot_1 (87, (.getfield 13, 3)) (List.mem_of_getElem? (i := 8) rfl)
theorem dX12_spot_90 : decode cX12_spot 90 = .ok (.sipush 270, 3) := dgX12_spot_1 (90, (.sipush 270, 3)) (List.mem_of_getElem? (i := 9) rfl)
theorem dX12_spot_93 : decode cX12_spot 93 = .ok (.iconst 3, 1) := dgX12_spot_1 (93, (.iconst 3, 1)) (List.mem_of_getElem? (i := 10) rfl)
theorem dX12_spot_94 : decode cX12_spot 94 = .ok (.iload 4, 2) := dgX12_spot_1 (94, (.iload 4, 2)) (List.mem_of_getElem? (i := 11) rfl)
theorem dX12_spot_96 : decode cX12_spot 96 = .ok (.imul, 1) := dgX12_spot_1 (96, (.imul, 1)) (List.mem_of_getElem? (i := 12) rfl)
theorem dX12_spot_97 : decode cX12_spot 97 = .ok (.iadd, 1) := dgX12_spot_1 (97, (.iadd, 1)) (List.mem_of_getElem? (i := 13) rfl)
theorem dX12_spot_98 : decode cX12_spot 98 = .ok (.iconst 1, 1) := dgX12_spot_1 (98, (.iconst 1, 1)) (List.mem_of_getElem? (i := 14) rfl)
theorem dX12_spot_99 : decode cX12_spot 99 = .ok (.iadd, 1) := dgX12_spot_1 (99, (.iadd, 1)) (List.mem_of_getElem? (i := 15) rfl)
theorem dX12_spot_100 : decode cX12_spot 100 = .ok (.iload_n 2, 1) := dgX12_spot_1 (100, (.iload_n 2, 1)) (List.mem_of_getElem? (i := 16) rfl)
theorem dX12_spot_101 : decode cX12_spot 101 = .ok (.iastore, 1) := dgX12_spot_1 (101, (.iastore, 1)) (List.mem_of_getElem? (i := 17) rfl)
theorem dX12_spot_102 : decode cX12_spot 102 = .ok (.aload_n 0, 1) := dgX12_spot_1 (102, (.aload_n 0, 1)) (List.mem_of_getElem? (i := 18) rfl)
theorem dX12_spot_103 : decode cX12_spot 103 = .ok (.getfield 13, 3) := dgX12_spot_1 (103, (.getfield 13, 3)) (List.mem_of_getElem? (i := 19) rfl)
theorem dX12_spot_106 : decode cX12_spot 106 = .ok (.sipush 270, 3) := dgX12_spot_1 (106, (.sipush 270, 3)) (List.mem_of_getElem? (i := 20) rfl)
theorem dX12_spot_109 : decode cX12_spot 109 = .ok (.iconst 3, 1) := dgX12_spot_1 (109, (.iconst 3, 1)) (List.mem_of_getElem? (i := 21) rfl)
theorem dX12_spot_110 : decode cX12_spot 110 = .ok (.iload 4, 2) := dgX12_spot_1 (110, (.iload 4, 2)) (List.mem_of_getElem? (i := 22) rfl)
theorem dX12_spot_112 : decode cX12_spot 112 = .ok (.imul, 1) := dgX12_spot_1 (112, (.imul, 1)) (List.mem_of_getElem? (i := 23) rfl)
theorem dX12_spot_113 : decode cX12_spot 113 = .ok (.iadd, 1) := dgX12_spot_1 (113, (.iadd, 1)) (List.mem_of_getElem? (i := 24) rfl)
theorem dX12_spot_114 : decode cX12_spot 114 = .ok (.iconst 2, 1) := dgX12_spot_1 (114, (.iconst 2, 1)) (List.mem_of_getElem? (i := 25) rfl)
theorem dX12_spot_115 : decode cX12_spot 115 = .ok (.iadd, 1) := dgX12_spot_1 (115, (.iadd, 1)) (List.mem_of_getElem? (i := 26) rfl)
theorem dX12_spot_116 : decode cX12_spot 116 = .ok (.iload_n 3, 1) := dgX12_spot_1 (116, (.iload_n 3, 1)) (List.mem_of_getElem? (i := 27) rfl)
theorem dX12_spot_117 : decode cX12_spot 117 = .ok (.iastore, 1) := dgX12_spot_1 (117, (.iastore, 1)) (List.mem_of_getElem? (i := 28) rfl)
theorem dX12_spot_118 : decode cX12_spot 118 = .ok (.aload_n 0, 1) := dgX12_spot_1 (118, (.aload_n 0, 1)) (List.mem_of_getElem? (i := 29) rfl)
theorem dX12_spot_119 : decode cX12_spot 119 = .ok (.getfield 13, 3) := dgX12_spot_1 (119, (.getfield 13, 3)) (List.mem_of_getElem? (i := 30) rfl)
theorem dX12_spot_122 : decode cX12_spot 122 = .ok (.bipush 7, 2) := dgX12_spot_1 (122, (.bipush 7, 2)) (List.mem_of_getElem? (i := 31) rfl)
theorem dX12_spot_124 : decode cX12_spot 124 = .ok (.dup2, 1) := dgX12_spot_1 (124, (.dup2, 1)) (List.mem_of_getElem? (i := 32) rfl)
theorem dX12_spot_125 : decode cX12_spot 125 = .ok (.iaload, 1) := dgX12_spot_1 (125, (.iaload, 1)) (List.mem_of_getElem? (i := 33) rfl)
theorem dX12_spot_126 : decode cX12_spot 126 = .ok (.iconst 1, 1) := dgX12_spot_1 (126, (.iconst 1, 1)) (List.mem_of_getElem? (i := 34) rfl)
theorem dX12_spot_127 : decode cX12_spot 127 = .ok (.iadd, 1) := dgX12_spot_1 (127, (.iadd, 1)) (List.mem_of_getElem? (i := 35) rfl)
theorem dX12_spot_128 : decode cX12_spot 128 = .ok (.iastore, 1) := dgX12_spot_1 (128, (.iastore, 1)) (List.mem_of_getElem? (i := 36) rfl)
theorem dX12_spot_129 : decode cX12_spot 129 = .ok (.aload_n 0, 1) := dgX12_spot_1 (129, (.aload_n 0, 1)) (List.mem_of_getElem? (i := 37) rfl)
theorem dX12_spot_130 : decode cX12_spot 130 = .ok (.iload 4, 2) := dgX12_spot_1 (130, (.iload 4, 2)) (List.mem_of_getElem? (i := 38) rfl)
theorem dX12_spot_132 : decode cX12_spot 132 = .ok (.invokevirtual 125, 3) := dgX12_spot_1 (132, (.invokevirtual 125, 3)) (List.mem_of_getElem? (i := 39) rfl)
theorem dgX12_spot_2 : ∀ r ∈ ([(135, (.ireturn, 1))] : List (Nat × (Instr × Nat))), decode cX12_spot r.1 = .ok r.2 := by decide +kernel
theorem dX12_spot_135 : decode cX12_spot 135 = .ok (.ireturn, 1) := dgX12_spot_2 (135, (.ireturn, 1)) (List.mem_of_getElem? (i := 0) rfl)
theorem dgX12_wish_0 : ∀ r ∈ ([(0, (.aload_n 0, 1)), (1, (.iconst 0, 1)), (2, (.putfield 107, 3)), (5, (.iload_n 1, 1)), (6, (.iload_n 2, 1)), (7, (.iload_n 3, 1)), (8, (.invokestatic 397, 3)), (11, (.ifCond .eq 30, 3)), (14, (.iload 4, 2)), (16, (.invokestatic 138, 3)), (19, (.ifCond .eq 22, 3)), (22, (.iload 5, 2)), (24, (.invokestatic 175, 3)), (27, (.ifCond .eq 14, 3)), (30, (.iload 6, 2)), (32, (.i2l, 1)), (33, (.lconst 0, 1)), (34, (.lconst 1, 1)), (35, (.invokestatic 121, 3)), (38, (.ifCond .ne 9, 3)), (41, (.aload_n 0, 1)), (42, (.iconst (-1), 1)), (43, (.invokevirtual 125, 3)), (46, (.ireturn, 1)), (47, (.aload_n 0, 1)), (48, (.getfield 13, 3)), (51, (.bipush 8, 2)), (53, (.iaload, 1)), (54, (.istore 7, 2)), (56, (.iload 7, 2)), (58, (.bipush 6, 2)), (60, (.if_icmp .ne 10, 3)), (63, (.aload_n 0, 1)), (64, (.bipush (-5), 2)), (66, (.invokevirtual 125, 3)), (69, (.ireturn, 1)), (70, (.sipush 300, 3)), (73, (.bipush 6, 2)), (75, (.iload 7, 2)), (77, (.imul, 1))] : List (Nat × (Instr × Nat))), decode cX12_wish r.1 = .ok r.2 := by decide +kernel
theorem dX12_wish_0 : decode cX12_wish 0 = .ok (.aload_n 0, 1) := dgX12_wish_0 (0, (.aload_n 0, 1)) (List.mem_of_getElem? (i := 0) rfl)
theorem dX12_wish_1 : decode cX12_wish 1 = .ok (.iconst 0, 1) := dgX12_wish_0 (1, (.iconst 0, 1)) (List.mem_of_getElem? (i := 1) rfl)
theorem dX12_wish_2 : decode cX12_wish 2 = .ok (.putfield 107, 3) := dgX12_wish_0 (2, (.putfield 107, 3)) (List.mem_of_getElem? (i := 2) rfl)
theorem dX12_wish_5 : decode cX12_wish 5 = .ok (.iload_n 1, 1) := dgX12_wish_0 (5, (.iload_n 1, 1)) (List.mem_of_getElem? (i := 3) rfl)
theorem dX12_wish_6 : decode cX12_wish 6 = .ok (.iload_n 2, 1) := dgX12_wish_0 (6, (.iload_n 2, 1)) (List.mem_of_getElem? (i := 4) rfl)
theorem dX12_wish_7 : decode cX12_wish 7 = .ok (.iload_n 3, 1) := dgX12_wish_0 (7, (.iload_n 3, 1)) (List.mem_of_getElem? (i := 5) rfl)
theorem dX12_wish_8 : decode cX12_wish 8 = .ok (.invokestatic 397, 3) := dgX12_wish_0 (8, (.invokestatic 397, 3)) (List.mem_of_getElem? (i := 6) rfl)
theorem dX12_wish_11 : decode cX12_wish 11 = .ok (.ifCond .eq 30, 3) := dgX12_wish_0 (11, (.ifCond .eq 30, 3)) (List.mem_of_getElem? (i := 7) rfl)
theorem dX12_wish_14 : decode cX12_wish 14 = .ok (.iload 4, 2) := dgX12_wish_0 (14, (.iload 4, 2)) (List.mem_of_getElem? (i := 8) rfl)
theorem dX12_wish_16 : decode cX12_wish 16 = .ok (.invokestatic 138, 3) := dgX12_wish_0 (16, (.invokestatic 138, 3)) (List.mem_of_getElem? (i := 9) rfl)
theorem dX12_wish_19 : decode cX12_wish 19 = .ok (.ifCond .eq 22, 3) := dgX12_wish_0 (19, (.ifCond .eq 22, 3)) (List.mem_of_getElem? (i := 10) rfl)
theorem dX12_wish_22 : decode cX12_wish 22 = .ok (.iload 5, 2) := dgX12_wish_0 (22, (.iload 5, 2)) (List.mem_of_getElem? (i := 11) rfl)
theorem dX12_wish_24 : decode cX12_wish 24 = .ok (.invokestatic 175, 3) := dgX12_wish_0 (24, (.invokestatic 175, 3)) (List.mem_of_getElem? (i := 12) rfl)
theorem dX12_wish_27 : decode cX12_wish 27 = .ok (.ifCond .eq 14, 3) := dgX12_wish_0 (27, (.ifCond .eq 14, 3)) (List.mem_of_getElem? (i := 13) rfl)
theorem dX12_wish_30 : decode cX12_wish 30 = .ok (.iload 6, 2) := dgX12_wish_0 (30, (.iload 6, 2)) (List.mem_of_getElem? (i := 14) rfl)
theorem dX12_wish_32 : decode cX12_wish 32 = .ok (.i2l, 1) := dgX12_wish_0 (32, (.i2l, 1)) (List.mem_of_getElem? (i := 15) rfl)
theorem dX12_wish_33 : decode cX12_wish 33 = .ok (.lconst 0, 1) := dgX12_wish_0 (33, (.lconst 0, 1)) (List.mem_of_getElem? (i := 16) rfl)
theorem dX12_wish_34 : decode cX12_wish 34 = .ok (.lconst 1, 1) := dgX12_wish_0 (34, (.lconst 1, 1)) (List.mem_of_getElem? (i := 17) rfl)
theorem dX12_wish_35 : decode cX12_wish 35 = .ok (.invokestatic 121, 3) := dgX12_wish_0 (35, (.invokestatic 121, 3)) (List.mem_of_getElem? (i := 18) rfl)
theorem dX12_wish_38 : decode cX12_wish 38 = .ok (.ifCond .ne 9, 3) := dgX12_wish_0 (38, (.ifCond .ne 9, 3)) (List.mem_of_getElem? (i := 19) rfl)
theorem dX12_wish_41 : decode cX12_wish 41 = .ok (.aload_n 0, 1) := dgX12_wish_0 (41, (.aload_n 0, 1)) (List.mem_of_getElem? (i := 20) rfl)
theorem dX12_wish_42 : decode cX12_wish 42 = .ok (.iconst (-1), 1) := dgX12_wish_0 (42, (.iconst (-1), 1)) (List.mem_of_getElem? (i := 21) rfl)
theorem dX12_wish_43 : decode cX12_wish 43 = .ok (.invokevirtual 125, 3) := dgX12_wish_0 (43, (.invokevirtual 125, 3)) (List.mem_of_getElem? (i := 22) rfl)
theorem dX12_wish_46 : decode cX12_wish 46 = .ok (.ireturn, 1) := dgX12_wish_0 (46, (.ireturn, 1)) (List.mem_of_getElem? (i := 23) rfl)
theorem dX12_wish_47 : decode cX12_wish 47 = .ok (.aload_n 0, 1) := dgX12_wish_0 (47, (.aload_n 0, 1)) (List.mem_of_getElem? (i := 24) rfl)
theorem dX12_wish_48 : decode cX12_wish 48 = .ok (.getfield 13, 3) := dgX12_wish_0 (48, (.getfield 13, 3)) (List.mem_of_getElem? (i := 25) rfl)
theorem dX12_wish_51 : decode cX12_wish 51 = .ok (.bipush 8, 2) := dgX12_wish_0 (51, (.bipush 8, 2)) (List.mem_of_getElem? (i := 26) rfl)
theorem dX12_wish_53 : decode cX12_wish 53 = .ok (.iaload, 1) := dgX12_wish_0 (53, (.iaload, 1)) (List.mem_of_getElem? (i := 27) rfl)
theorem dX12_wish_54 : decode cX12_wish 54 = .ok (.istore 7, 2) := dgX12_wish_0 (54, (.istore 7, 2)) (List.mem_of_getElem? (i := 28) rfl)
theorem dX12_wish_56 : decode cX12_wish 56 = .ok (.iload 7, 2) := dgX12_wish_0 (56, (.iload 7, 2)) (List.mem_of_getElem? (i := 29) rfl)
theorem dX12_wish_58 : decode cX12_wish 58 = .ok (.bipush 6, 2) := dgX12_wish_0 (58, (.bipush 6, 2)) (List.mem_of_getElem? (i := 30) rfl)
theorem dX12_wish_60 : decode cX12_wish 60 = .ok (.if_icmp .ne 10, 3) := dgX12_wish_0 (60, (.if_icmp .ne 10, 3)) (List.mem_of_getElem? (i := 31) rfl)
theorem dX12_wish_63 : decode cX12_wish 63 = .ok (.aload_n 0, 1) := dgX12_wish_0 (63, (.aload_n 0, 1)) (List.mem_of_getElem? (i := 32) rfl)
theorem dX12_wish_64 : decode cX12_wish 64 = .ok (.bipush (-5), 2) := dgX12_wish_0 (64, (.bipush (-5), 2)) (List.mem_of_getElem? (i := 33) rfl)
theorem dX12_wish_66 : decode cX12_wish 66 = .ok (.invokevirtual 125, 3) := dgX12_wish_0 (66, (.invokevirtual 125, 3)) (List.mem_of_getElem? (i := 34) rfl)
theorem dX12_wish_69 : decode cX12_wish 69 = .ok (.ireturn, 1) := dgX12_wish_0 (69, (.ireturn, 1)) (List.mem_of_getElem? (i := 35) rfl)
theorem dX12_wish_70 : decode cX12_wish 70 = .ok (.sipush 300, 3) := dgX12_wish_0 (70, (.sipush 300, 3)) (List.mem_of_getElem? (i := 36) rfl)
theorem dX12_wish_73 : decode cX12_wish 73 = .ok (.bipush 6, 2) := dgX12_wish_0 (73, (.bipush 6, 2)) (List.mem_of_getElem? (i := 37) rfl)
theorem dX12_wish_75 : decode cX12_wish 75 = .ok (.iload 7, 2) := dgX12_wish_0 (75, (.iload 7, 2)) (List.mem_of_getElem? (i := 38) rfl)
theorem dX12_wish_77 : decode cX12_wish 77 = .ok (.imul, 1) := dgX12_wish_0 (77, (.imul, 1)) (List.mem_of_getElem? (i := 39) rfl)
theorem dgX12_wish_1 : ∀ r ∈ ([(78, (.iadd, 1)), (79, (.istore 8, 2)), (81, (.aload_n 0, 1)), (82, (.getfield 13, 3)), (85, (.iload 8, 2)), (87, (.iload_n 1, 1)), (88, (.iastore, 1)), (89, (.aload_n 0, 1)), (90, (.getfield 13, 3)), (93, (.iload 8, 2)), (95, (.iconst 1, 1)), (96, (.iadd, 1)), (97, (.iload_n 2, 1)), (98, (.iastore, 1)), (99, (.aload_n 0, 1)), (100, (.getfield 13, 3)), (103, (.iload 8, 2)), (105, (.iconst 2, 1)), (106, (.iadd, 1)), (107, (.iload_n 3, 1)), (108, (.iastore, 1)), (109, (.aload_n 0, 1)), (110, (.getfield 13, 3)), (113, (.iload 8, 2)), (115, (.iconst 3, 1)), (116, (.iadd, 1)), (117, (.iload 4, 2)), (119, (.iastore, 1)), (120, (.aload_n 0, 1)), (121, (.getfield 13, 3)), (124, (.iload 8, 2)), (126, (.iconst 4, 1)), (127, (.iadd, 1)), (128, (.iload 5, 2)), (130, (.iastore, 1)), (131, (.aload_n 0, 1)), (132, (.getfield 13, 3)), (135, (.iload 8, 2)), (137, (.iconst 5, 1)), (138, (.iadd, 1))] : List (Nat × (Instr × Nat))), decode cX12_wish r.1 = .ok r.2 := by decide +kernel
theorem dX12_wish_78 : decode cX12_wish 78 = .ok (.iadd, 1) := dgX12_wish_1 (78, (.iadd, 1)) (List.mem_of_getElem? (i := 0) rfl)
theorem dX12_wish_79 : decode cX12_wish 79 = .ok (.istore 8, 2) := dgX12_wish_1 (79, (.istore 8, 2)) (List.mem_of_getElem? (i := 1) rfl)
theorem dX12_wish_81 : decode cX12_wish 81 = .ok (.aload_n 0, 1) := dgX12_wish_1 (81, (.aload_n 0, 1)) (List.mem_of_getElem? (i := 2) rfl)
theorem dX12_wish_82 : decode cX12_wish 82 = .ok (.getfield 13, 3) := dgX12_wish_1 (82, (.getfield 13, 3)) (List.mem_of_getElem? (i := 3) rfl)
theorem dX12_wish_85 : decode cX12_wish 85 = .ok (.iload 8, 2) := dgX12_wish_1 (85, (.iload 8, 2)) (List.mem_of_getElem? (i := 4) rfl)
theorem dX12_wish_87 : decode cX12_wish 87 = .ok (.iload_n 1, 1) := dgX12_wish_1 (87, (.iload_n 1, 1)) (List.mem_of_getElem? (i := 5) rfl)
theorem dX12_wish_88 : decode cX12_wish 88 = .ok (.iastore, 1) := dgX12_wish_1 (88, (.iastore, 1)) (List.mem_of_getElem? (i := 6) rfl)
theorem dX12_wish_89 : decode cX12_wish 89 = .ok (.aload_n 0, 1) := dgX12_wish_1 (89, (.aload_n 0, 1)) (List.mem_of_getElem? (i := 7) rfl)
theorem dX12_wish_90 : decode cX12_wish 90 = .ok (.getfield 13, 3) := dgX12_wish_1 (90, (.getfield 13, 3)) (List.mem_of_getElem? (i := 8) rfl)
theorem dX12_wish_93 : decode cX12_wish 93 = .ok (.iload 8, 2) := dgX12_wish_1 (93, (.iload 8, 2)) (List.mem_of_getElem? (i := 9) rfl)
theorem dX12_wish_95 : decode cX12_wish 95 = .ok (.iconst 1, 1) := dgX12_wish_1 (95, (.iconst 1, 1)) (List.mem_of_getElem? (i := 10) rfl)
theorem dX12_wish_96 : decode cX12_wish 96 = .ok (.iadd, 1) := dgX12_wish_1 (96, (.iadd, 1)) (List.mem_of_getElem? (i := 11) rfl)
theorem dX12_wish_97 : decode cX12_wish 97 = .ok (.iload_n 2, 1) := dgX12_wish_1 (97, (.iload_n 2, 1)) (List.mem_of_getElem? (i := 12) rfl)
theorem dX12_wish_98 : decode cX12_wish 98 = .ok (.iastore, 1) := dgX12_wish_1 (98, (.iastore, 1)) (List.mem_of_getElem? (i := 13) rfl)
theorem dX12_wish_99 : decode cX12_wish 99 = .ok (.aload_n 0, 1) := dgX12_wish_1 (99, (.aload_n 0, 1)) (List.mem_of_getElem? (i := 14) rfl)
theorem dX12_wish_100 : decode cX12_wish 100 = .ok (.getfield 13, 3) := dgX12_wish_1 (100, (.getfield 13, 3)) (List.mem_of_getElem? (i := 15) rfl)
theorem dX12_wish_103 : decode cX12_wish 103 = .ok (.iload 8, 2) := dgX12_wish_1 (103, (.iload 8, 2)) (List.mem_of_getElem? (i := 16) rfl)
theorem dX12_wish_105 : decode cX12_wish 105 = .ok (.iconst 2, 1) := dgX12_wish_1 (105, (.iconst 2, 1)) (List.mem_of_getElem? (i := 17) rfl)
theorem dX12_wish_106 : decode cX12_wish 106 = .ok (.iadd, 1) := dgX12_wish_1 (106, (.iadd, 1)) (List.mem_of_getElem? (i := 18) rfl)
theorem dX12_wish_107 : decode cX12_wish 107 = .ok (.iload_n 3, 1) := dgX12_wish_1 (107, (.iload_n 3, 1)) (List.mem_of_getElem? (i := 19) rfl)
theorem dX12_wish_108 : decode cX12_wish 108 = .ok (.iastore, 1) := dgX12_wish_1 (108, (.iastore, 1)) (List.mem_of_getElem? (i := 20) rfl)
theorem dX12_wish_109 : decode cX12_wish 109 = .ok (.aload_n 0, 1) := dgX12_wish_1 (109, (.aload_n 0, 1)) (List.mem_of_getElem? (i := 21) rfl)
theorem dX12_wish_110 : decode cX12_wish 110 = .ok (.getfield 13, 3) := dgX12_wish_1 (110, (.getfield 13, 3)) (List.mem_of_getElem? (i := 22) rfl)
theorem dX12_wish_113 : decode cX12_wish 113 = .ok (.iload 8, 2) := dgX12_wish_1 (113, (.iload 8, 2)) (List.mem_of_getElem? (i := 23) rfl)
theorem dX12_wish_115 : decode cX12_wish 115 = .ok (.iconst 3, 1) := dgX12_wish_1 (115, (.iconst 3, 1)) (List.mem_of_getElem? (i := 24) rfl)
theorem dX12_wish_116 : decode cX12_wish 116 = .ok (.iadd, 1) := dgX12_wish_1 (116, (.iadd, 1)) (List.mem_of_getElem? (i := 25) rfl)
theorem dX12_wish_117 : decode cX12_wish 117 = .ok (.iload 4, 2) := dgX12_wish_1 (117, (.iload 4, 2)) (List.mem_of_getElem? (i := 26) rfl)
theorem dX12_wish_119 : decode cX12_wish 119 = .ok (.iastore, 1) := dgX12_wish_1 (119, (.iastore, 1)) (List.mem_of_getElem? (i := 27) rfl)
theorem dX12_wish_120 : decode cX12_wish 120 = .ok (.aload_n 0, 1) := dgX12_wish_1 (120, (.aload_n 0, 1)) (List.mem_of_getElem? (i := 28) rfl)
theorem dX12_wish_121 : decode cX12_wish 121 = .ok (.getfield 13, 3) := dgX12_wish_1 (121, (.getfield 13, 3)) (List.mem_of_getElem? (i := 29) rfl)
theorem dX12_wish_124 : decode cX12_wish 124 = .ok (.iload 8, 2) := dgX12_wish_1 (124, (.iload 8, 2)) (List.mem_of_getElem? (i := 30) rfl)
theorem dX12_wish_126 : decode cX12_wish 126 = .ok (.iconst 4, 1) := dgX12_wish_1 (126, (.iconst 4, 1)) (List.mem_of_getElem? (i := 31) rfl)
theorem dX12_wish_127 : decode cX12_wish 127 = .ok (.iadd, 1) := dgX12_wish_1 (127, (.iadd, 1)) (List.mem_of_getElem? (i := 32) rfl)
theorem dX12_wish_128 : decode cX12_wish 128 = .ok (.iload 5, 2) := dgX12_wish_1 (128, (.iload 5, 2)) (List.mem_of_getElem? (i := 33) rfl)
theorem dX12_wish_130 : decode cX12_wish 130 = .ok (.iastore, 1) := dgX12_wish_1 (130, (.iastore, 1)) (List.mem_of_getElem? (i := 34) rfl)
theorem dX12_wish_131 : decode cX12_wish 131 = .ok (.aload_n 0, 1) := dgX12_wish_1 (131, (.aload_n 0, 1)) (List.mem_of_getElem? (i := 35) rfl)
theorem dX12_wish_132 : decode cX12_wish 132 = .ok (.getfield 13, 3) := dgX12_wish_1 (132, (.getfield 13, 3)) (List.mem_of_getElem? (i := 36) rfl)
theorem dX12_wish_135 : decode cX12_wish 135 = .ok (.iload 8, 2) := dgX12_wish_1 (135, (.iload 8, 2)) (List.mem_of_getElem? (i := 37) rfl)
theorem dX12_wish_137 : decode cX12_wish 137 = .ok (.iconst 5, 1) := dgX12_wish_1 (137, (.iconst 5, 1)) (List.mem_of_getElem? (i := 38) rfl)
theorem dX12_wish_138 : decode cX12_wish 138 = .ok (.iadd, 1) := dgX12_wish_1 (138, (.iadd, 1)) (List.mem_of_getElem? (i := 39) rfl)
theorem dgX12_wish_2 : ∀ r ∈ ([(139, (.iload 6, 2)), (141, (.iastore, 1)), (142, (.aload_n 0, 1)), (143, (.getfield 13, 3)), (146, (.bipush 8, 2)), (148, (.dup2, 1)), (149, (.iaload, 1)), (150, (.iconst 1, 1)), (151, (.iadd, 1)), (152, (.iastore, 1)), (153, (.aload_n 0, 1)), (154, (.iload 7, 2)), (156, (.iconst 1, 1)), (157, (.iadd, 1)), (158, (.invokevirtual 125, 3)), (161, (.ireturn, 1))] : List (Nat × (Instr × Nat))), decode cX12_wish r.1 = .ok r.2 := by decide +kernel
theorem dX12_wish_139 : decode cX12_wish 139 = .ok (.iload 6, 2) := dgX12_wish_2 (139, (.iload 6, 2)) (List.mem_of_getElem? (i := 0) rfl)
theorem dX12_wish_141 : decode cX12_wish 141 = .ok (.iastore, 1) := dgX12_wish_2 (141, (.iastore, 1)) (List.mem_of_getElem? (i := 1) rfl)
theorem dX12_wish_142 : decode cX12_wish 142 = .ok (.aload_n 0, 1) := dgX12_wish_2 (142, (.aload_n 0, 1)) (List.mem_of_getElem? (i := 2) rfl)
theorem dX12_wish_143 : decode cX12_wish 143 = .ok (.getfield 13, 3) := dgX12_wish_2 (143, (.getfield 13, 3)) (List.mem_of_getElem? (i := 3) rfl)
theorem dX12_wish_146 : decode cX12_wish 146 = .ok (.bipush 8, 2) := dgX12_wish_2 (146, (.bipush 8, 2)) (List.mem_of_getElem? (i := 4) rfl)
theorem dX12_wish_148 : decode cX12_wish 148 = .ok (.dup2, 1) := dgX12_wish_2 (148, (.dup2, 1)) (List.mem_of_getElem? (i := 5) rfl)
theorem dX12_wish_149 : decode cX12_wish 149 = .ok (.iaload, 1) := dgX12_wish_2 (149, (.iaload, 1)) (List.mem_of_getElem? (i := 6) rfl)
theorem dX12_wish_150 : decode cX12_wish 150 = .ok (.iconst 1, 1) := dgX12_wish_2 (150, (.iconst 1, 1)) (List.mem_of_getElem? (i := 7) rfl)
theorem dX12_wish_151 : decode cX12_wish 151 = .ok (.iadd, 1) := dgX12_wish_2 (151, (.iadd, 1)) (List.mem_of_getElem? (i := 8) rfl)
theorem dX12_wish_152 : decode cX12_wish 152 = .ok (.iastore, 1) := dgX12_wish_2 (152, (.iastore, 1)) (List.mem_of_getElem? (i := 9) rfl)
theorem dX12_wish_153 : decode cX12_wish 153 = .ok (.aload_n 0, 1) := dgX12_wish_2 (153, (.aload_n 0, 1)) (List.mem_of_getElem? (i := 10) rfl)
theorem dX12_wish_154 : decode cX12_wish 154 = .ok (.iload 7, 2) := dgX12_wish_2 (154, (.iload 7, 2)) (List.mem_of_getElem? (i := 11) rfl)
theorem dX12_wish_156 : decode cX12_wish 156 = .ok (.iconst 1, 1) := dgX12_wish_2 (156, (.iconst 1, 1)) (List.mem_of_getElem? (i := 12) rfl)
theorem dX12_wish_157 : decode cX12_wish 157 = .ok (.iadd, 1) := dgX12_wish_2 (157, (.iadd, 1)) (List.mem_of_getElem? (i := 13) rfl)
theorem dX12_wish_158 : decode cX12_wish 158 = .ok (.invokevirtual 125, 3) := dgX12_wish_2 (158, (.invokevirtual 125, 3)) (List.mem_of_getElem? (i := 14) rfl)
theorem dX12_wish_161 : decode cX12_wish 161 = .ok (.ireturn, 1) := dgX12_wish_2 (161, (.ireturn, 1)) (List.mem_of_getElem? (i := 15) rfl)
theorem ml_X12_397 : Cond.methodLink RX12 397 yX12_isLook ∈ tblG := tg 1603 (by decide +kernel) (by decide +kernel)
theorem st_X12_isLook : Cond.static yX12_isLook ∈ tblG := tg 1604 (by decide +kernel) (by decide +kernel)
theorem cd_X12_isLook : Cond.code yX12_isLook cX12_isLook 3 (some .boolean) ∈ tblG := tg 1605 (by decide +kernel) (by decide +kernel)
theorem gW_X12_isLook : GoodIn tblG (wsG yX12_isLook cX12_isLook 3 (some .boolean)) := tgi cd_X12_isLook
theorem gS_X12_397 : GoodIn tblG (va_wsS RX12 397 yX12_isLook (wsG yX12_isLook cX12_isLook 3 (some .boolean))) := tgS ml_X12_397 st_X12_isLook ini_X12 gW_X12_isLook
theorem hs_X12_isLook : yX12_isLook.cls ≠ "java/lang/invoke/MethodHandle" ∧ yX12_isLook.cls ≠ "java/lang/invoke/VarHandle" ∧ (parseMethodDescriptor yX12_isLook.desc).map (fun d => d.parameters.length) = some 3 := by decide +kernel
