theorem dgJ3_checkIndex_8e157_0 : ∀ r ∈ ([(0, (.iload_n 0, 1)), (1, (.ifCond .lt 8, 3)), (4, (.iload_n 0, 1)), (5, (.iload_n 1, 1)), (6, (.if_icmp .lt 10, 3)), (9, (.aload_n 2, 1)), (10, (.iload_n 0, 1)), (11, (.iload_n 1, 1)), (12, (.invokestatic 95, 3)), (15, (.athrow, 1)), (16, (.iload_n 0, 1)), (17, (.ireturn, 1))] : List (Nat × (Instr × Nat))), decode cJ3_checkIndex_8e157 r.1 = .ok r.2 := by decide +kernel
theorem dJ3_checkIndex_8e157_0 : decode cJ3_checkIndex_8e157 0 = .ok (.iload_n 0, 1) := dgJ3_checkIndex_8e157_0 (0, (.iload_n 0, 1)) (List.mem_of_getElem? (i := 0) rfl)
theorem dJ3_checkIndex_8e157_1 : decode cJ3_checkIndex_8e157 1 = .ok (.ifCond .lt 8, 3) := dgJ3_checkIndex_8e157_0 (1, (.ifCond .lt 8, 3)) (List.mem_of_getElem? (i := 1) rfl)
theorem dJ3_checkIndex_8e157_4 : decode cJ3_checkIndex_8e157 4 = .ok (.iload_n 0, 1) := dgJ3_checkIndex_8e157_0 (4, (.iload_n 0, 1)) (List.mem_of_getElem? (i := 2) rfl)
theorem dJ3_checkIndex_8e157_5 : decode cJ3_checkIndex_8e157 5 = .ok (.iload_n 1, 1) := dgJ3_checkIndex_8e157_0 (5, (.iload_n 1, 1)) (List.mem_of_getElem? (i := 3) rfl)
theorem dJ3_checkIndex_8e157_6 : decode cJ3_checkIndex_8e157 6 = .ok (.if_icmp .lt 10, 3) := dgJ3_checkIndex_8e157_0 (6, (.if_icmp .lt 10, 3)) (List.mem_of_getElem? (i := 4) rfl)
theorem dJ3_checkIndex_8e157_16 : decode cJ3_checkIndex_8e157 16 = .ok (.iload_n 0, 1) := dgJ3_checkIndex_8e157_0 (16, (.iload_n 0, 1)) (List.mem_of_getElem? (i := 10) rfl)
theorem dJ3_checkIndex_8e157_17 : decode cJ3_checkIndex_8e157 17 = .ok (.ireturn, 1) := dgJ3_checkIndex_8e157_0 (17, (.ireturn, 1)) (List.mem_of_getElem? (i := 11) rfl)
set_option maxHeartbeats 4000000 in
set_option maxRecDepth 100000 in
theorem s_preN (l : Launch) (G : g5_G) (sz : Nat) (p_i : Int32) (h_p_i : 0 ≤ p_i.toInt ∧ p_i.toInt ≤ 73) : Met l yJ3_checkIndex_8e157 (wsG yJ3_checkIndex_8e157 cJ3_checkIndex_8e157 3 (some .int)) ({ frames := 0, cells := 0, slots := 0, locals := 0 }) (va_Pc [.int p_i, .int 74, .null] (g5_P G [] sz)) (va_Qi (fun (r : Int32) (u : va_W) => ((r = p_i) ∧ (u = []))) (g5_B G (va_A [] sz)) (va_A [] sz)) 0 0 (va_A [] sz) := by
  refine Met.ofW (cc := cJ3_checkIndex_8e157) (maxL := 3) (ret := (some .int)) (by decide) rfl ?_
  intro p e s m args below meth c s₁ B hml hv
  obtain ⟨rfl, hsz, hP, hK, hD0, hN, hT⟩ := hv
  have hx := B.exec
  have hb := B.bytes
  have hr := B.returns
  have hts : ∀ w ∈ tblG, w.before _ s = true := fun w h => atoms_spec (ws := (wsG yJ3_checkIndex_8e157 cJ3_checkIndex_8e157 3 (some .int))) B.pre w (List.mem_cons_of_mem _ h)
  have hown : s.vm.findClass RJ3 = some m.cls := findClass_of_methodNamed B.named
  have hlocks := B.notSynchronized
  subst hsz
  have hD := hD0.self (sz := s.heap.size)
  generalize hAe : va_A [] s.heap.size = A at hD hT ⊢
  have hA : ∀ q : Nat, s.heap.size ≤ q → A q := fun q h => by rw [← hAe]; exact Or.inr h
  have hS : va_S A s.heap s.heap [] := va_S.rf
  have hP : va_P G.1 vwCl [] s.heap := hP
  have hl := lv_entry ([.int p_i, .int 74, .null]) (n := 3) (Nat.le_of_ble_eq_true rfl)
  rw [lg_entry_eq]
  generalize (lg_sl ([.int p_i, .int 74, .null]) ++ List.replicate (3 - (lg_sl ([.int p_i, .int 74, .null])).length) Slot.unset).toArray = ls at hl ⊢
  have hl : lv_has ls 3 [(0, .int p_i), (1, .int 74), (2, .null)] := hl
  refine lv_iload_n hx hb dJ3_checkIndex_8e157_0 rfl (lv_at hl 0 rfl) ?_
  refine lv_if_lt (tgt := 9) hx hb dJ3_checkIndex_8e157_1 (by decide) (fun c_1 => ?_) (fun c_1 => ?_)
  ·
    have i_1 : p_i.toInt < 0 := by have z := g5_lt (a := p_i.toInt) (b := 0) (by rfl) (by decide) c_1; omega
    omega
  ·
    have i_1 : p_i.toInt ≥ 0 := by have z := g5_ltN (a := p_i.toInt) (b := 0) (by rfl) (by decide) c_1; omega
    refine lv_iload_n hx hb dJ3_checkIndex_8e157_4 rfl (lv_at hl 0 rfl) ?_
    refine lv_iload_n hx hb dJ3_checkIndex_8e157_5 rfl (lv_at hl 1 rfl) ?_
    refine lv_icmp_lt (tgt := 16) hx hb dJ3_checkIndex_8e157_6 (by decide) (fun c_2 => ?_) (fun c_2 => ?_)
    ·
      have i_2 : p_i.toInt < 74 := by have z := g5_lt (a := p_i.toInt) (b := 74) (by rfl) (by decide) c_2; omega
      refine lv_iload_n hx hb dJ3_checkIndex_8e157_16 rfl (lv_at hl 0 rfl) ?_
      exact W.iret (v := p_i) hx hb hr (fun t ht hW => ⟨⟨p_i, [], rfl, ⟨rfl, rfl⟩, by rw [ht]; exact hP.sub [] rfl, hD.sub [] (by decide) rfl⟩, hS.F ht⟩) hS.2.2 dJ3_checkIndex_8e157_17
    ·
      have i_2 : p_i.toInt ≥ 74 := by have z := g5_ltN (a := p_i.toInt) (b := 74) (by rfl) (by decide) c_2; omega
      omega
set_option maxHeartbeats 4000000 in
set_option maxRecDepth 100000 in
theorem s_preR (l : Launch) (G : g5_G) (a_f : Nat) (sz : Nat) (p_i : Int32) (h_p_i : 0 ≤ p_i.toInt ∧ p_i.toInt ≤ 73) : Met l yJ3_checkIndex_8e157 (wsG yJ3_checkIndex_8e157 cJ3_checkIndex_8e157 3 (some .int)) ({ frames := 0, cells := 0, slots := 0, locals := 0 }) (va_Pc [.int p_i, .int 74, .ref a_f] (g5_P G [] sz)) (va_Qi (fun (r : Int32) (u : va_W) => ((r = p_i) ∧ (u = []))) (g5_B G (va_A [] sz)) (va_A [] sz)) 0 0 (va_A [] sz) := by
  refine Met.ofW (cc := cJ3_checkIndex_8e157) (maxL := 3) (ret := (some .int)) (by decide) rfl ?_
  intro p e s m args below meth c s₁ B hml hv
  obtain ⟨rfl, hsz, hP, hK, hD0, hN, hT⟩ := hv
  have hx := B.exec
  have hb := B.bytes
  have hr := B.returns
  have hts : ∀ w ∈ tblG, w.before _ s = true := fun w h => atoms_spec (ws := (wsG yJ3_checkIndex_8e157 cJ3_checkIndex_8e157 3 (some .int))) B.pre w (List.mem_cons_of_mem _ h)
  have hown : s.vm.findClass RJ3 = some m.cls := findClass_of_methodNamed B.named
  have hlocks := B.notSynchronized
  subst hsz
  have hD := hD0.self (sz := s.heap.size)
  generalize hAe : va_A [] s.heap.size = A at hD hT ⊢
  have hA : ∀ q : Nat, s.heap.size ≤ q → A q := fun q h => by rw [← hAe]; exact Or.inr h
  have hS : va_S A s.heap s.heap [] := va_S.rf
  have hP : va_P G.1 vwCl [] s.heap := hP
  have hl := lv_entry ([.int p_i, .int 74, .ref a_f]) (n := 3) (Nat.le_of_ble_eq_true rfl)
  rw [lg_entry_eq]
  generalize (lg_sl ([.int p_i, .int 74, .ref a_f]) ++ List.replicate (3 - (lg_sl ([.int p_i, .int 74, .ref a_f])).length) Slot.unset).toArray = ls at hl ⊢
  have hl : lv_has ls 3 [(0, .int p_i), (1, .int 74), (2, .ref a_f)] := hl
  refine lv_iload_n hx hb dJ3_checkIndex_8e157_0 rfl (lv_at hl 0 rfl) ?_
  refine lv_if_lt (tgt := 9) hx hb dJ3_checkIndex_8e157_1 (by decide) (fun c_1 => ?_) (fun c_1 => ?_)
  ·
    have i_1 : p_i.toInt < 0 := by have z := g5_lt (a := p_i.toInt) (b := 0) (by rfl) (by decide) c_1; omega
    omega
  ·
    have i_1 : p_i.toInt ≥ 0 := by have z := g5_ltN (a := p_i.toInt) (b := 0) (by rfl) (by decide) c_1; omega
    refine lv_iload_n hx hb dJ3_checkIndex_8e157_4 rfl (lv_at hl 0 rfl) ?_
    refine lv_iload_n hx hb dJ3_checkIndex_8e157_5 rfl (lv_at hl 1 rfl) ?_
    refine lv_icmp_lt (tgt := 16) hx hb dJ3_checkIndex_8e157_6 (by decide) (fun c_2 => ?_) (fun c_2 => ?_)
    ·
      have i_2 : p_i.toInt < 74 := by have z := g5_lt (a := p_i.toInt) (b := 74) (by rfl) (by decide) c_2; omega
      refine lv_iload_n hx hb dJ3_checkIndex_8e157_16 rfl (lv_at hl 0 rfl) ?_
      exact W.iret (v := p_i) hx hb hr (fun t ht hW => ⟨⟨p_i, [], rfl, ⟨rfl, rfl⟩, by rw [ht]; exact hP.sub [] rfl, hD.sub [] (by decide) rfl⟩, hS.F ht⟩) hS.2.2 dJ3_checkIndex_8e157_17
    ·
      have i_2 : p_i.toInt ≥ 74 := by have z := g5_ltN (a := p_i.toInt) (b := 74) (by rfl) (by decide) c_2; omega
      omega
theorem dgJ0_checkIndex_df160_0 : ∀ r ∈ ([(0, (.iload_n 0, 1)), (1, (.iload_n 1, 1)), (2, (.getstatic 1053, 3)), (5, (.invokestatic 1059, 3)), (8, (.pop, 1)), (9, (.return_, 1))] : List (Nat × (Instr × Nat))), decode cJ0_checkIndex_df160 r.1 = .ok r.2 := by decide +kernel
theorem dJ0_checkIndex_df160_0 : decode cJ0_checkIndex_df160 0 = .ok (.iload_n 0, 1) := dgJ0_checkIndex_df160_0 (0, (.iload_n 0, 1)) (List.mem_of_getElem? (i := 0) rfl)
theorem dJ0_checkIndex_df160_1 : decode cJ0_checkIndex_df160 1 = .ok (.iload_n 1, 1) := dgJ0_checkIndex_df160_0 (1, (.iload_n 1, 1)) (List.mem_of_getElem? (i := 1) rfl)
theorem dJ0_checkIndex_df160_2 : decode cJ0_checkIndex_df160 2 = .ok (.getstatic 1053, 3) := dgJ0_checkIndex_df160_0 (2, (.getstatic 1053, 3)) (List.mem_of_getElem? (i := 2) rfl)
theorem dJ0_checkIndex_df160_5 : decode cJ0_checkIndex_df160 5 = .ok (.invokestatic 1059, 3) := dgJ0_checkIndex_df160_0 (5, (.invokestatic 1059, 3)) (List.mem_of_getElem? (i := 3) rfl)
theorem dJ0_checkIndex_df160_8 : decode cJ0_checkIndex_df160 8 = .ok (.pop, 1) := dgJ0_checkIndex_df160_0 (8, (.pop, 1)) (List.mem_of_getElem? (i := 4) rfl)
theorem dJ0_checkIndex_df160_9 : decode cJ0_checkIndex_df160 9 = .ok (.return_, 1) := dgJ0_checkIndex_df160_0 (9, (.return_, 1)) (List.mem_of_getElem? (i := 5) rfl)
theorem fl_J0_1053 : Cond.fieldLink RJ0 1053 "jdk/internal/util/Preconditions" "SIOOBE_FORMATTER" "Ljava/util/function/BiFunction;" ∈ tblG := tg 692 (by decide +kernel) (by decide +kernel)
theorem ml_J0_1059 : Cond.methodLink RJ0 1059 yJ3_checkIndex_8e157 ∈ tblG := tg 694 (by decide +kernel) (by decide +kernel)
theorem st_J3_checkIndex_8e157 : Cond.static yJ3_checkIndex_8e157 ∈ tblG := tg 695 (by decide +kernel) (by decide +kernel)
theorem ini_J3 : Cond.initialized RJ3 ∈ tblG := tg 102 (by decide +kernel) (by decide +kernel)
theorem cd_J3_checkIndex_8e157 : Cond.code yJ3_checkIndex_8e157 cJ3_checkIndex_8e157 3 (some .int) ∈ tblG := tg 696 (by decide +kernel) (by decide +kernel)
theorem gW_J3_checkIndex_8e157 : GoodIn tblG (wsG yJ3_checkIndex_8e157 cJ3_checkIndex_8e157 3 (some .int)) := tgi cd_J3_checkIndex_8e157
theorem gS_J0_1059 : GoodIn tblG (va_wsS RJ0 1059 yJ3_checkIndex_8e157 (wsG yJ3_checkIndex_8e157 cJ3_checkIndex_8e157 3 (some .int))) := tgS ml_J0_1059 st_J3_checkIndex_8e157 ini_J3 gW_J3_checkIndex_8e157
theorem hs_J3_checkIndex_8e157 : yJ3_checkIndex_8e157.cls ≠ "java/lang/invoke/MethodHandle" ∧ yJ3_checkIndex_8e157.cls ≠ "java/lang/invoke/VarHandle" ∧ (parseMethodDescriptor yJ3_checkIndex_8e157.desc).map (fun d => d.parameters.length) = some 3 := by decide +kernel
set_option maxHeartbeats 4000000 in
set_option maxRecDepth 100000 in
theorem s_check (l : Launch) (G : g5_G) (sz : Nat) (p_i : Int32) (h_p_i : 0 ≤ p_i.toInt ∧ p_i.toInt ≤ 73) : Met l yJ0_checkIndex_df160 (wsG yJ0_checkIndex_df160 cJ0_checkIndex_df160 2 none) ({ frames := 1, cells := 0, slots := 0, locals := 22 }) (va_Pc [.int p_i, .int 74] (g5_P G [] sz)) (va_Qv (fun (u : va_W) => ((u = []))) (g5_B G (va_A [] sz)) (va_A [] sz)) 0 0 (va_A [] sz) := by
  refine Met.ofW (cc := cJ0_checkIndex_df160) (maxL := 2) (ret := none) (by decide) rfl ?_
  intro p e s m args below meth c s₁ B hml hv
  obtain ⟨rfl, hsz, hP, hK, hD0, hN, hT⟩ := hv
  have hx := B.exec
  have hb := B.bytes
  have hr := B.returns
  have hts : ∀ w ∈ tblG, w.before _ s = true := fun w h => atoms_spec (ws := (wsG yJ0_checkIndex_df160 cJ0_checkIndex_df160 2 none)) B.pre w (List.mem_cons_of_mem _ h)
  have hown : s.vm.findClass RJ0 = some m.cls := findClass_of_methodNamed B.named
  have hlocks := B.notSynchronized
  subst hsz
  have hD := hD0.self (sz := s.heap.size)
  generalize hAe : va_A [] s.heap.size = A at hD hT ⊢
  have hA : ∀ q : Nat, s.heap.size ≤ q → A q := fun q h => by rw [← hAe]; exact Or.inr h
  have hS : va_S A s.heap s.heap [] := va_S.rf
  have hP : va_P G.1 vwCl [] s.heap := hP
  have hl := lv_entry ([.int p_i, .int 74]) (n := 2) (Nat.le_of_ble_eq_true rfl)
  rw [lg_entry_eq]
  generalize (lg_sl ([.int p_i, .int 74]) ++ List.replicate (2 - (lg_sl ([.int p_i, .int 74])).length) Slot.unset).toArray = ls at hl ⊢
  have hl : lv_has ls 2 [(0, .int p_i), (1, .int 74)] := hl
  obtain ⟨tH0, tL0, tK0, tV0, tF, hZH0, hTH0, hZL0, hTL0, hRK0, hVK0, hZC, hZF⟩ := id hT
  refine lv_iload_n hx hb dJ0_checkIndex_df160_0 rfl (lv_at hl 0 rfl) ?_
  refine lv_iload_n hx hb dJ0_checkIndex_df160_1 rfl (lv_at hl 1 rfl) ?_
  rcases tF with _ | tF
  ·
    refine va_gets hx hb hZF hS hown (hts _ fl_J0_1053) (fun _ h9 => h9) dJ0_checkIndex_df160_2 ?_
    refine g5_tv (v := .null) rfl ?_
    obtain ⟨hPc, hDc, hFc⟩ := g5_sub3 (wc := []) hP hD hS hA [] (by decide) rfl
    refine va_calli (va_runS (As := [.int p_i, .int 74, .null]) (rest := []) ⟨hx, hb, hml, hown, hts⟩ (s_preN l G s.heap.size p_i h_p_i) (va_cwS 3 hts gS_J0_1059 rfl rfl rfl hs_J3_checkIndex_8e157 ⟨Nat.le_of_ble_eq_true rfl, Nat.le_of_ble_eq_true rfl⟩) (g5_preS hPc hK hDc hN hT hS hFc) rfl rfl hl.1 rfl (lv_room (Nat.le_of_ble_eq_true rfl)) dJ0_checkIndex_df160_5 ⟨Nat.le_of_ble_eq_true rfl, Nat.le_of_ble_eq_true rfl⟩) hS (fun q _ h => hFc q h) hFc (fun r u t H1 locs ht hvm hw hB hz1 hk1 hS => ?_)
    obtain ⟨hP1, hD1⟩ := hB
    rw [ht] at hP1
    obtain ⟨rfl, rfl⟩ := hw
    have hP := g5_same hP hk1
    generalize H1 = H at hP hS ⊢
    refine lv_pop hx hb dJ0_checkIndex_df160_8 rfl ?_
    exact W.vret hx hb hr (fun t ht hW => ⟨⟨[], rfl, rfl, by rw [ht]; exact hP.sub [] rfl, hD.sub [] (by decide) rfl⟩, hS.F ht⟩) hS.2.2 dJ0_checkIndex_df160_9
  ·
    refine va_gets hx hb hZF hS hown (hts _ fl_J0_1053) (fun _ h9 => h9) dJ0_checkIndex_df160_2 ?_
    refine g5_tv (v := .ref tF) rfl ?_
    obtain ⟨hPc, hDc, hFc⟩ := g5_sub3 (wc := []) hP hD hS hA [] (by decide) rfl
    refine va_calli (va_runS (As := [.int p_i, .int 74, .ref tF]) (rest := []) ⟨hx, hb, hml, hown, hts⟩ (s_preR l G tF s.heap.size p_i h_p_i) (va_cwS 3 hts gS_J0_1059 rfl rfl rfl hs_J3_checkIndex_8e157 ⟨Nat.le_of_ble_eq_true rfl, Nat.le_of_ble_eq_true rfl⟩) (g5_preS hPc hK hDc hN hT hS hFc) rfl rfl hl.1 rfl (lv_room (Nat.le_of_ble_eq_true rfl)) dJ0_checkIndex_df160_5 ⟨Nat.le_of_ble_eq_true rfl, Nat.le_of_ble_eq_true rfl⟩) hS (fun q _ h => hFc q h) hFc (fun r u t H1 locs ht hvm hw hB hz1 hk1 hS => ?_)
    obtain ⟨hP1, hD1⟩ := hB
    rw [ht] at hP1
    obtain ⟨rfl, rfl⟩ := hw
    have hP := g5_same hP hk1
    generalize H1 = H at hP hS ⊢
    refine lv_pop hx hb dJ0_checkIndex_df160_8 rfl ?_
    exact W.vret hx hb hr (fun t ht hW => ⟨⟨[], rfl, rfl, by rw [ht]; exact hP.sub [] rfl, hD.sub [] (by decide) rfl⟩, hS.F ht⟩) hS.2.2 dJ0_checkIndex_df160_9
theorem dgJ0_coder_7d493_0 : ∀ r ∈ ([(0, (.getstatic 38, 3)), (3, (.ifCond .eq 10, 3)), (6, (.aload_n 0, 1)), (7, (.getfield 15, 3)), (10, (.goto 4, 3)), (13, (.iconst 1, 1)), (14, (.ireturn, 1))] : List (Nat × (Instr × Nat))), decode cJ0_coder_7d493 r.1 = .ok r.2 := by decide +kernel
theorem dJ0_coder_7d493_0 : decode cJ0_coder_7d493 0 = .ok (.getstatic 38, 3) := dgJ0_coder_7d493_0 (0, (.getstatic 38, 3)) (List.mem_of_getElem? (i := 0) rfl)
theorem dJ0_coder_7d493_3 : decode cJ0_coder_7d493 3 = .ok (.ifCond .eq 10, 3) := dgJ0_coder_7d493_0 (3, (.ifCond .eq 10, 3)) (List.mem_of_getElem? (i := 1) rfl)
theorem dJ0_coder_7d493_6 : decode cJ0_coder_7d493 6 = .ok (.aload_n 0, 1) := dgJ0_coder_7d493_0 (6, (.aload_n 0, 1)) (List.mem_of_getElem? (i := 2) rfl)
theorem dJ0_coder_7d493_7 : decode cJ0_coder_7d493 7 = .ok (.getfield 15, 3) := dgJ0_coder_7d493_0 (7, (.getfield 15, 3)) (List.mem_of_getElem? (i := 3) rfl)
theorem dJ0_coder_7d493_10 : decode cJ0_coder_7d493 10 = .ok (.goto 4, 3) := dgJ0_coder_7d493_0 (10, (.goto 4, 3)) (List.mem_of_getElem? (i := 4) rfl)
theorem dJ0_coder_7d493_14 : decode cJ0_coder_7d493 14 = .ok (.ireturn, 1) := dgJ0_coder_7d493_0 (14, (.ireturn, 1)) (List.mem_of_getElem? (i := 6) rfl)
theorem fl_J0_38 : Cond.fieldLink RJ0 38 "java/lang/String" "COMPACT_STRINGS" "Z" ∈ tblG := tg 676 (by decide +kernel) (by decide +kernel)
theorem fl_J0_15 : Cond.fieldLink RJ0 15 "java/lang/String" "coder" "B" ∈ tblG := tg 1834 (by decide +kernel) (by decide +kernel)
set_option maxHeartbeats 4000000 in
set_option maxRecDepth 100000 in
theorem s_coder (l : Launch) (G : g5_G) (a_q a_v : Nat) (sz : Nat) : Met l yJ0_coder_7d493 (wsG yJ0_coder_7d493 cJ0_coder_7d493 1 (some .byte)) ({ frames := 0, cells := 0, slots := 0, locals := 0 }) (va_Pc [.ref a_q] (g5_PK G a_q a_v [] sz)) (va_Qi (fun (r : Int32) (u : va_W) => ((r = 0) ∧ (u = []))) (g5_B G (va_A [] sz)) (va_A [] sz)) 0 0 (va_A [] sz) := by
  refine Met.ofW (cc := cJ0_coder_7d493) (maxL := 1) (ret := (some .byte)) (by decide) rfl ?_
  intro p e s m args below meth c s₁ B hml hv
  obtain ⟨rfl, ⟨hsz, hP, hK, hD0, hN, hT⟩, hRK, hVK⟩ := hv
  have hx := B.exec
  have hb := B.bytes
  have hr := B.returns
  have hts : ∀ w ∈ tblG, w.before _ s = true := fun w h => atoms_spec (ws := (wsG yJ0_coder_7d493 cJ0_coder_7d493 1 (some .byte))) B.pre w (List.mem_cons_of_mem _ h)
  have hown : s.vm.findClass RJ0 = some m.cls := findClass_of_methodNamed B.named
  have hlocks := B.notSynchronized
  subst hsz
  have hD := hD0.self (sz := s.heap.size)
  generalize hAe : va_A [] s.heap.size = A at hD hT hVK ⊢
  have hA : ∀ q : Nat, s.heap.size ≤ q → A q := fun q h => by rw [← hAe]; exact Or.inr h
  have hS : va_S A s.heap s.heap [] := va_S.rf
  have hP : va_P G.1 vwCl [] s.heap := hP
  have hl := lv_entry ([.ref a_q]) (n := 1) (Nat.le_of_ble_eq_true rfl)
  rw [lg_entry_eq]
  generalize (lg_sl ([.ref a_q]) ++ List.replicate (1 - (lg_sl ([.ref a_q])).length) Slot.unset).toArray = ls at hl ⊢
  have hl : lv_has ls 1 [(0, .ref a_q)] := hl
  obtain ⟨tH0, tL0, tK0, tV0, tF, hZH0, hTH0, hZL0, hTL0, hRK0, hVK0, hZC, hZF⟩ := id hT
  refine va_gets hx hb hZC hS hown (hts _ fl_J0_38) (fun _ h9 => h9) dJ0_coder_7d493_0 ?_
  refine lv_if_eq (tgt := 13) hx hb dJ0_coder_7d493_3 (by decide) (fun c_1 => ?_) (fun c_1 => ?_)
  ·
    exact absurd c_1 (by decide)
  ·
    refine lv_aload_n hx hb dJ0_coder_7d493_6 rfl (lv_at hl 0 rfl) ?_
    refine vk_getf hx hb (hVK.1 0 (by decide)).2.1 hS hown (hts _ fl_J0_15) (fun _ h9 => h9) dJ0_coder_7d493_7 ?_
    refine lv_goto (tgt := 14) hx hb dJ0_coder_7d493_10 (by decide) ?_
    exact W.zret (v := 0) hx hb hr rfl (fun t ht hW => ⟨⟨0, [], rfl, ⟨rfl, rfl⟩, by rw [ht]; exact hP.sub [] rfl, hD.sub [] (by decide) rfl⟩, hS.F ht⟩) hS.2.2 dJ0_coder_7d493_14
theorem dgJ0_isLatin1_aae02_0 : ∀ r ∈ ([(0, (.getstatic 38, 3)), (3, (.ifCond .eq 14, 3)), (6, (.aload_n 0, 1)), (7, (.getfield 15, 3)), (10, (.ifCond .ne 7, 3)), (13, (.iconst 1, 1)), (14, (.goto 4, 3)), (17, (.iconst 0, 1)), (18, (.ireturn, 1))] : List (Nat × (Instr × Nat))), decode cJ0_isLatin1_aae02 r.1 = .ok r.2 := by decide +kernel
theorem dJ0_isLatin1_aae02_0 : decode cJ0_isLatin1_aae02 0 = .ok (.getstatic 38, 3) := dgJ0_isLatin1_aae02_0 (0, (.getstatic 38, 3)) (List.mem_of_getElem? (i := 0) rfl)
theorem dJ0_isLatin1_aae02_3 : decode cJ0_isLatin1_aae02 3 = .ok (.ifCond .eq 14, 3) := dgJ0_isLatin1_aae02_0 (3, (.ifCond .eq 14, 3)) (List.mem_of_getElem? (i := 1) rfl)
theorem dJ0_isLatin1_aae02_6 : decode cJ0_isLatin1_aae02 6 = .ok (.aload_n 0, 1) := dgJ0_isLatin1_aae02_0 (6, (.aload_n 0, 1)) (List.mem_of_getElem? (i := 2) rfl)
theorem dJ0_isLatin1_aae02_7 : decode cJ0_isLatin1_aae02 7 = .ok (.getfield 15, 3) := dgJ0_isLatin1_aae02_0 (7, (.getfield 15, 3)) (List.mem_of_getElem? (i := 3) rfl)
theorem dJ0_isLatin1_aae02_10 : decode cJ0_isLatin1_aae02 10 = .ok (.ifCond .ne 7, 3) := dgJ0_isLatin1_aae02_0 (10, (.ifCond .ne 7, 3)) (List.mem_of_getElem? (i := 4) rfl)
theorem dJ0_isLatin1_aae02_13 : decode cJ0_isLatin1_aae02 13 = .ok (.iconst 1, 1) := dgJ0_isLatin1_aae02_0 (13, (.iconst 1, 1)) (List.mem_of_getElem? (i := 5) rfl)
theorem dJ0_isLatin1_aae02_14 : decode cJ0_isLatin1_aae02 14 = .ok (.goto 4, 3) := dgJ0_isLatin1_aae02_0 (14, (.goto 4, 3)) (List.mem_of_getElem? (i := 6) rfl)
theorem dJ0_isLatin1_aae02_18 : decode cJ0_isLatin1_aae02 18 = .ok (.ireturn, 1) := dgJ0_isLatin1_aae02_0 (18, (.ireturn, 1)) (List.mem_of_getElem? (i := 8) rfl)
set_option maxHeartbeats 4000000 in
set_option maxRecDepth 100000 in
theorem s_latin (l : Launch) (G : g5_G) (a_q a_v : Nat) (sz : Nat) : Met l yJ0_isLatin1_aae02 (wsG yJ0_isLatin1_aae02 cJ0_isLatin1_aae02 1 (some .boolean)) ({ frames := 0, cells := 0, slots := 0, locals := 0 }) (va_Pc [.ref a_q] (g5_PK G a_q a_v [] sz)) (va_Qi (fun (r : Int32) (u : va_W) => ((r = 1) ∧ (u = []))) (g5_B G (va_A [] sz)) (va_A [] sz)) 0 0 (va_A [] sz) := by
  refine Met.ofW (cc := cJ0_isLatin1_aae02) (maxL := 1) (ret := (some .boolean)) (by decide) rfl ?_
  intro p e s m args below meth c s₁ B hml hv
  obtain ⟨rfl, ⟨hsz, hP, hK, hD0, hN, hT⟩, hRK, hVK⟩ := hv
  have hx := B.exec
  have hb := B.bytes
  have hr := B.returns
  have hts : ∀ w ∈ tblG, w.before _ s = true := fun w h => atoms_spec (ws := (wsG yJ0_isLatin1_aae02 cJ0_isLatin1_aae02 1 (some .boolean))) B.pre w (List.mem_cons_of_mem _ h)
  have hown : s.vm.findClass RJ0 = some m.cls := findClass_of_methodNamed B.named
  have hlocks := B.notSynchronized
  subst hsz
  have hD := hD0.self (sz := s.heap.size)
  generalize hAe : va_A [] s.heap.size = A at hD hT hVK ⊢
  have hA : ∀ q : Nat, s.heap.size ≤ q → A q := fun q h => by rw [← hAe]; exact Or.inr h
  have hS : va_S A s.heap s.heap [] := va_S.rf
  have hP : va_P G.1 vwCl [] s.heap := hP
  have hl := lv_entry ([.ref a_q]) (n := 1) (Nat.le_of_ble_eq_true rfl)
  rw [lg_entry_eq]
  generalize (lg_sl ([.ref a_q]) ++ List.replicate (1 - (lg_sl ([.ref a_q])).length) Slot.unset).toArray = ls at hl ⊢
  have hl : lv_has ls 1 [(0, .ref a_q)] := hl
  obtain ⟨tH0, tL0, tK0, tV0, tF, hZH0, hTH0, hZL0, hTL0, hRK0, hVK0, hZC, hZF⟩ := id hT
  refine va_gets hx hb hZC hS hown (hts _ fl_J0_38) (fun _ h9 => h9) dJ0_isLatin1_aae02_0 ?_
  refine lv_if_eq (tgt := 17) hx hb dJ0_isLatin1_aae02_3 (by decide) (fun c_1 => ?_) (fun c_1 => ?_)
  ·
    exact absurd c_1 (by decide)
  ·
    refine lv_aload_n hx hb dJ0_isLatin1_aae02_6 rfl (lv_at hl 0 rfl) ?_
    refine vk_getf hx hb (hVK.1 0 (by decide)).2.1 hS hown (hts _ fl_J0_15) (fun _ h9 => h9) dJ0_isLatin1_aae02_7 ?_
    refine lv_if_ne (tgt := 17) hx hb dJ0_isLatin1_aae02_10 (by decide) (fun c_2 => ?_) (fun c_2 => ?_)
    ·
      exact absurd c_2 (by decide)
    ·
      refine lv_iconst (v := 1) hx hb dJ0_isLatin1_aae02_13 (by decide) ?_
      refine lv_goto (tgt := 18) hx hb dJ0_isLatin1_aae02_14 (by decide) ?_
      exact W.zret (v := 1) hx hb hr rfl (fun t ht hW => ⟨⟨1, [], rfl, ⟨rfl, rfl⟩, by rw [ht]; exact hP.sub [] rfl, hD.sub [] (by decide) rfl⟩, hS.F ht⟩) hS.2.2 dJ0_isLatin1_aae02_18
theorem dgJ0_length_8abf5_0 : ∀ r ∈ ([(0, (.aload_n 0, 1)), (1, (.getfield 9, 3)), (4, (.arraylength, 1)), (5, (.aload_n 0, 1)), (6, (.invokevirtual 335, 3)), (9, (.ishr, 1)), (10, (.ireturn, 1))] : List (Nat × (Instr × Nat))), decode cJ0_length_8abf5 r.1 = .ok r.2 := by decide +kernel
theorem dJ0_length_8abf5_0 : decode cJ0_length_8abf5 0 = .ok (.aload_n 0, 1) := dgJ0_length_8abf5_0 (0, (.aload_n 0, 1)) (List.mem_of_getElem? (i := 0) rfl)
theorem dJ0_length_8abf5_1 : decode cJ0_length_8abf5 1 = .ok (.getfield 9, 3) := dgJ0_length_8abf5_0 (1, (.getfield 9, 3)) (List.mem_of_getElem? (i := 1) rfl)
theorem dJ0_length_8abf5_4 : decode cJ0_length_8abf5 4 = .ok (.arraylength, 1) := dgJ0_length_8abf5_0 (4, (.arraylength, 1)) (List.mem_of_getElem? (i := 2) rfl)
theorem dJ0_length_8abf5_5 : decode cJ0_length_8abf5 5 = .ok (.aload_n 0, 1) := dgJ0_length_8abf5_0 (5, (.aload_n 0, 1)) (List.mem_of_getElem? (i := 3) rfl)
theorem dJ0_length_8abf5_6 : decode cJ0_length_8abf5 6 = .ok (.invokevirtual 335, 3) := dgJ0_length_8abf5_0 (6, (.invokevirtual 335, 3)) (List.mem_of_getElem? (i := 4) rfl)
theorem dJ0_length_8abf5_9 : decode cJ0_length_8abf5 9 = .ok (.ishr, 1) := dgJ0_length_8abf5_0 (9, (.ishr, 1)) (List.mem_of_getElem? (i := 5) rfl)
theorem dJ0_length_8abf5_10 : decode cJ0_length_8abf5 10 = .ok (.ireturn, 1) := dgJ0_length_8abf5_0 (10, (.ireturn, 1)) (List.mem_of_getElem? (i := 6) rfl)
theorem fl_J0_9 : Cond.fieldLink RJ0 9 "java/lang/String" "value" "[B" ∈ tblG := tg 1833 (by decide +kernel) (by decide +kernel)
theorem ml_J0_335 : Cond.methodLink RJ0 335 yJ0_coder_7d493 ∈ tblG := tg 672 (by decide +kernel) (by decide +kernel)
theorem im_J0_coder_7d493 : Cond.instanceMethod yJ0_coder_7d493 ∈ tblG := tg 673 (by decide +kernel) (by decide +kernel)
theorem se_J0_coder_7d493 : Cond.selects RJ0 yJ0_coder_7d493 yJ0_coder_7d493 ∈ tblG := tg 674 (by decide +kernel) (by decide +kernel)
theorem ini_J0 : Cond.initialized RJ0 ∈ tblG := tg 100 (by decide +kernel) (by decide +kernel)
theorem cd_J0_coder_7d493 : Cond.code yJ0_coder_7d493 cJ0_coder_7d493 1 (some .byte) ∈ tblG := tg 675 (by decide +kernel) (by decide +kernel)
theorem gW_J0_coder_7d493 : GoodIn tblG (wsG yJ0_coder_7d493 cJ0_coder_7d493 1 (some .byte)) := tgi cd_J0_coder_7d493
theorem gV_J0_335 : GoodIn tblG (wsV RJ0 335 RJ0 yJ0_coder_7d493 (wsG yJ0_coder_7d493 cJ0_coder_7d493 1 (some .byte))) := tgV ml_J0_335 im_J0_coder_7d493 se_J0_coder_7d493 ini_J0 gW_J0_coder_7d493
theorem hv_J0_coder_7d493 : yJ0_coder_7d493.cls = RJ0 ∧ yJ0_coder_7d493.cls ≠ "java/lang/invoke/MethodHandle" ∧ yJ0_coder_7d493.cls ≠ "java/lang/invoke/VarHandle" ∧ (parseMethodDescriptor yJ0_coder_7d493.desc).map (fun d => d.parameters.length) = some 0 := by decide +kernel
set_option maxHeartbeats 4000000 in
set_option maxRecDepth 100000 in
theorem s_length (l : Launch) (G : g5_G) (a_q a_v : Nat) (sz : Nat) : Met l yJ0_length_8abf5 (wsG yJ0_length_8abf5 cJ0_length_8abf5 1 (some .int)) ({ frames := 1, cells := 0, slots := 0, locals := 20 }) (va_Pc [.ref a_q] (g5_PK G a_q a_v [] sz)) (va_Qi (fun (r : Int32) (u : va_W) => ((r = 74) ∧ (u = []))) (g5_B G (va_A [] sz)) (va_A [] sz)) 0 0 (va_A [] sz) := by
  refine Met.ofW (cc := cJ0_length_8abf5) (maxL := 1) (ret := (some .int)) (by decide) rfl ?_
  intro p e s m args below meth c s₁ B hml hv
  obtain ⟨rfl, ⟨hsz, hP, hK, hD0, hN, hT⟩, hRK, hVK⟩ := hv
  have hx := B.exec
  have hb := B.bytes
  have hr := B.returns
  have hts : ∀ w ∈ tblG, w.before _ s = true := fun w h => atoms_spec (ws := (wsG yJ0_length_8abf5 cJ0_length_8abf5 1 (some .int))) B.pre w (List.mem_cons_of_mem _ h)
  have hown : s.vm.findClass RJ0 = some m.cls := findClass_of_methodNamed B.named
  have hlocks := B.notSynchronized
  subst hsz
  have hD := hD0.self (sz := s.heap.size)
  generalize hAe : va_A [] s.heap.size = A at hD hT hVK ⊢
  have hA : ∀ q : Nat, s.heap.size ≤ q → A q := fun q h => by rw [← hAe]; exact Or.inr h
  have hS : va_S A s.heap s.heap [] := va_S.rf
  have hP : va_P G.1 vwCl [] s.heap := hP
  have hl := lv_entry ([.ref a_q]) (n := 1) (Nat.le_of_ble_eq_true rfl)
  rw [lg_entry_eq]
  generalize (lg_sl ([.ref a_q]) ++ List.replicate (1 - (lg_sl ([.ref a_q])).length) Slot.unset).toArray = ls at hl ⊢
  have hl : lv_has ls 1 [(0, .ref a_q)] := hl
  obtain ⟨tH0, tL0, tK0, tV0, tF, hZH0, hTH0, hZL0, hTL0, hRK0, hVK0, hZC, hZF⟩ := id hT
  refine lv_aload_n hx hb dJ0_length_8abf5_0 rfl (lv_at hl 0 rfl) ?_
  refine vk_getf hx hb (hVK.1 0 (by decide)).2.2.1 hS hown (hts _ fl_J0_9) (fun _ h9 => h9) dJ0_length_8abf5_1 ?_
  refine g5_tv (v := .ref a_v) rfl ?_
  refine va_tlen hx hb (hVK.1 0 (by decide)).2.2.2 hS (v := 74) (by decide) dJ0_length_8abf5_4 ?_
  refine lv_aload_n hx hb dJ0_length_8abf5_5 rfl (lv_at hl 0 rfl) ?_
  obtain ⟨hPc, hDc, hFc⟩ := g5_sub3 (wc := []) hP hD hS hA [] (by decide) rfl
  refine va_calli (va_runV (As := []) (rest := [.int 74]) ⟨hx, hb, hml, hown, hts⟩ (s_coder l G a_q a_v s.heap.size) (cwV 0 hts gV_J0_335 rfl rfl rfl hv_J0_coder_7d493 ⟨Nat.le_of_ble_eq_true rfl, Nat.le_of_ble_eq_true rfl⟩) (g5_preVK hPc hK hDc hN hT hS hFc hRK hVK) rfl rfl hl.1 rfl (lv_room (Nat.le_of_ble_eq_true rfl)) dJ0_length_8abf5_6 ⟨Nat.le_of_ble_eq_true rfl, Nat.le_of_ble_eq_true rfl⟩) hS (fun q _ h => hFc q h) hFc (fun r u t H1 locs ht hvm hw hB hz1 hk1 hS => ?_)
  obtain ⟨hP1, hD1⟩ := hB
  rw [ht] at hP1
  obtain ⟨rfl, rfl⟩ := hw
  have hP := g5_same hP hk1
  generalize H1 = H at hP hS ⊢
  refine lv_ishr hx hb dJ0_length_8abf5_9 ?_
  refine g5_ti (v := 74) (by decide) ?_
  exact W.iret (v := 74) hx hb hr (fun t ht hW => ⟨⟨74, [], rfl, ⟨rfl, rfl⟩, by rw [ht]; exact hP.sub [] rfl, hD.sub [] (by decide) rfl⟩, hS.F ht⟩) hS.2.2 dJ0_length_8abf5_10
theorem dgJ1_charAt_3b067_0 : ∀ r ∈ ([(0, (.iload_n 1, 1)), (1, (.aload_n 0, 1)), (2, (.arraylength, 1)), (3, (.invokestatic 9, 3)), (6, (.aload_n 0, 1)), (7, (.iload_n 1, 1)), (8, (.baload, 1)), (9, (.sipush 255, 3)), (12, (.iand, 1)), (13, (.i2c, 1)), (14, (.ireturn, 1))] : List (Nat × (Instr × Nat))), decode cJ1_charAt_3b067 r.1 = .ok r.2 := by decide +kernel
theorem dJ1_charAt_3b067_0 : decode cJ1_charAt_3b067 0 = .ok (.iload_n 1, 1) := dgJ1_charAt_3b067_0 (0, (.iload_n 1, 1)) (List.mem_of_getElem? (i := 0) rfl)
theorem dJ1_charAt_3b067_1 : decode cJ1_charAt_3b067 1 = .ok (.aload_n 0, 1) := dgJ1_charAt_3b067_0 (1, (.aload_n 0, 1)) (List.mem_of_getElem? (i := 1) rfl)
theorem dJ1_charAt_3b067_2 : decode cJ1_charAt_3b067 2 = .ok (.arraylength, 1) := dgJ1_charAt_3b067_0 (2, (.arraylength, 1)) (List.mem_of_getElem? (i := 2) rfl)
theorem dJ1_charAt_3b067_3 : decode cJ1_charAt_3b067 3 = .ok (.invokestatic 9, 3) := dgJ1_charAt_3b067_0 (3, (.invokestatic 9, 3)) (List.mem_of_getElem? (i := 3) rfl)
theorem dJ1_charAt_3b067_6 : decode cJ1_charAt_3b067 6 = .ok (.aload_n 0, 1) := dgJ1_charAt_3b067_0 (6, (.aload_n 0, 1)) (List.mem_of_getElem? (i := 4) rfl)
theorem dJ1_charAt_3b067_7 : decode cJ1_charAt_3b067 7 = .ok (.iload_n 1, 1) := dgJ1_charAt_3b067_0 (7, (.iload_n 1, 1)) (List.mem_of_getElem? (i := 5) rfl)
theorem dJ1_charAt_3b067_8 : decode cJ1_charAt_3b067 8 = .ok (.baload, 1) := dgJ1_charAt_3b067_0 (8, (.baload, 1)) (List.mem_of_getElem? (i := 6) rfl)
theorem dJ1_charAt_3b067_9 : decode cJ1_charAt_3b067 9 = .ok (.sipush 255, 3) := dgJ1_charAt_3b067_0 (9, (.sipush 255, 3)) (List.mem_of_getElem? (i := 7) rfl)
theorem dJ1_charAt_3b067_12 : decode cJ1_charAt_3b067 12 = .ok (.iand, 1) := dgJ1_charAt_3b067_0 (12, (.iand, 1)) (List.mem_of_getElem? (i := 8) rfl)
theorem dJ1_charAt_3b067_13 : decode cJ1_charAt_3b067 13 = .ok (.i2c, 1) := dgJ1_charAt_3b067_0 (13, (.i2c, 1)) (List.mem_of_getElem? (i := 9) rfl)
theorem dJ1_charAt_3b067_14 : decode cJ1_charAt_3b067 14 = .ok (.ireturn, 1) := dgJ1_charAt_3b067_0 (14, (.ireturn, 1)) (List.mem_of_getElem? (i := 10) rfl)
theorem ml_J1_9 : Cond.methodLink RJ1 9 yJ0_checkIndex_df160 ∈ tblG := tg 689 (by decide +kernel) (by decide +kernel)
theorem st_J0_checkIndex_df160 : Cond.static yJ0_checkIndex_df160 ∈ tblG := tg 690 (by decide +kernel) (by decide +kernel)
theorem cd_J0_checkIndex_df160 : Cond.code yJ0_checkIndex_df160 cJ0_checkIndex_df160 2 none ∈ tblG := tg 691 (by decide +kernel) (by decide +kernel)
theorem gW_J0_checkIndex_df160 : GoodIn tblG (wsG yJ0_checkIndex_df160 cJ0_checkIndex_df160 2 none) := tgi cd_J0_checkIndex_df160
theorem gS_J1_9 : GoodIn tblG (va_wsS RJ1 9 yJ0_checkIndex_df160 (wsG yJ0_checkIndex_df160 cJ0_checkIndex_df160 2 none)) := tgS ml_J1_9 st_J0_checkIndex_df160 ini_J0 gW_J0_checkIndex_df160
theorem hs_J0_checkIndex_df160 : yJ0_checkIndex_df160.cls ≠ "java/lang/invoke/MethodHandle" ∧ yJ0_checkIndex_df160.cls ≠ "java/lang/invoke/VarHandle" ∧ (parseMethodDescriptor yJ0_checkIndex_df160.desc).map (fun d => d.parameters.length) = some 2 := by decide +kernel
set_option maxHeartbeats 4000000 in
set_option maxRecDepth 100000 in
theorem s_char1 (l : Launch) (G : g5_G) (a_q a_v : Nat) (sz : Nat) (p_i : Int32) (h_p_i : 0 ≤ p_i.toInt ∧ p_i.toInt ≤ 73) : Met l yJ1_charAt_3b067 (wsG yJ1_charAt_3b067 cJ1_charAt_3b067 2 (some .char)) ({ frames := 2, cells := 0, slots := 0, locals := 43 }) (va_Pc [.ref a_v, .int p_i] (g5_PK G a_q a_v [] sz)) (va_Qi (fun (r : Int32) (u : va_W) => (∃ (o_r : Int32), (narrow .char (.int o_r) = .int o_r) ∧ (r = o_r) ∧ (u = []))) (g5_B G (va_A [] sz)) (va_A [] sz)) 0 0 (va_A [] sz) := by
  refine Met.ofW (cc := cJ1_charAt_3b067) (maxL := 2) (ret := (some .char)) (by decide) rfl ?_
  intro p e s m args below meth c s₁ B hml hv
  obtain ⟨rfl, ⟨hsz, hP, hK, hD0, hN, hT⟩, hRK, hVK⟩ := hv
  have hx := B.exec
  have hb := B.bytes
  have hr := B.returns
  have hts : ∀ w ∈ tblG, w.before _ s = true := fun w h => atoms_spec (ws := (wsG yJ1_charAt_3b067 cJ1_charAt_3b067 2 (some .char))) B.pre w (List.mem_cons_of_mem _ h)
  have hown : s.vm.findClass RJ1 = some m.cls := findClass_of_methodNamed B.named
  have hlocks := B.notSynchronized
  subst hsz
  have hD := hD0.self (sz := s.heap.size)
  generalize hAe : va_A [] s.heap.size = A at hD hT hVK ⊢
  have hA : ∀ q : Nat, s.heap.size ≤ q → A q := fun q h => by rw [← hAe]; exact Or.inr h
  have hS : va_S A s.heap s.heap [] := va_S.rf
  have hP : va_P G.1 vwCl [] s.heap := hP
  have hl := lv_entry ([.ref a_v, .int p_i]) (n := 2) (Nat.le_of_ble_eq_true rfl)
  rw [lg_entry_eq]
  generalize (lg_sl ([.ref a_v, .int p_i]) ++ List.replicate (2 - (lg_sl ([.ref a_v, .int p_i])).length) Slot.unset).toArray = ls at hl ⊢
  have hl : lv_has ls 2 [(0, .ref a_v), (1, .int p_i)] := hl
  obtain ⟨tH0, tL0, tK0, tV0, tF, hZH0, hTH0, hZL0, hTL0, hRK0, hVK0, hZC, hZF⟩ := id hT
  refine lv_iload_n hx hb dJ1_charAt_3b067_0 rfl (lv_at hl 1 rfl) ?_
  refine lv_aload_n hx hb dJ1_charAt_3b067_1 rfl (lv_at hl 0 rfl) ?_
  refine va_tlen hx hb (hVK.1 0 (by decide)).2.2.2 hS (v := 74) (by decide) dJ1_charAt_3b067_2 ?_
  obtain ⟨hPc, hDc, hFc⟩ := g5_sub3 (wc := []) hP hD hS hA [] (by decide) rfl
  refine va_callv (va_runS (As := [.int p_i, .int 74]) (rest := []) ⟨hx, hb, hml, hown, hts⟩ (s_check l G s.heap.size p_i h_p_i) (va_cwS 2 hts gS_J1_9 rfl rfl rfl hs_J0_checkIndex_df160 ⟨Nat.le_of_ble_eq_true rfl, Nat.le_of_ble_eq_true rfl⟩) (g5_preS hPc hK hDc hN hT hS hFc) rfl rfl hl.1 rfl (lv_room (Nat.le_of_ble_eq_true rfl)) dJ1_charAt_3b067_3 ⟨Nat.le_of_ble_eq_true rfl, Nat.le_of_ble_eq_true rfl⟩) hS (fun q _ h => hFc q h) hFc (fun u t H1 locs ht hvm hw hB hz1 hk1 hS => ?_)
  obtain ⟨hP1, hD1⟩ := hB
  rw [ht] at hP1
  obtain rfl := hw
  have hP := g5_same hP hk1
  generalize H1 = H at hP hS ⊢
  refine lv_aload_n hx hb dJ1_charAt_3b067_6 rfl (lv_at hl 0 rfl) ?_
  refine lv_iload_n hx hb dJ1_charAt_3b067_7 rfl (lv_at hl 1 rfl) ?_
  refine va_tb hx hb (hVK.1 0 (by decide)).2.2.2 hS (i := p_i) (show vp_in p_i 74 from vp_in_iff.mpr ⟨by omega, by omega⟩) (v := .int (g5_by.getD p_i.toNatClampNeg 0)) rfl dJ1_charAt_3b067_8 ?_
  refine lv_sipush (v := 255) hx hb dJ1_charAt_3b067_9 (by decide) ?_
  refine lv_iand hx hb dJ1_charAt_3b067_12 ?_
  refine lv_i2c (v := ((((g5_by.getD p_i.toNatClampNeg 0) &&& 255).toUInt32 % 65536).toInt32)) hx hb dJ1_charAt_3b067_13 rfl ?_
  exact W.zret (v := ((((g5_by.getD p_i.toNatClampNeg 0) &&& 255).toUInt32 % 65536).toInt32)) hx hb hr (g_char _) (fun t ht hW => ⟨⟨((((g5_by.getD p_i.toNatClampNeg 0) &&& 255).toUInt32 % 65536).toInt32), [], rfl, ⟨((((g5_by.getD p_i.toNatClampNeg 0) &&& 255).toUInt32 % 65536).toInt32), g_char _, rfl, rfl⟩, by rw [ht]; exact hP.sub [] rfl, hD.sub [] (by decide) rfl⟩, hS.F ht⟩) hS.2.2 dJ1_charAt_3b067_14
theorem dgJ0_charAt_5068e_0 : ∀ r ∈ ([(0, (.aload_n 0, 1)), (1, (.invokevirtual 492, 3)), (4, (.ifCond .eq 12, 3)), (7, (.aload_n 0, 1)), (8, (.getfield 9, 3)), (11, (.iload_n 1, 1)), (12, (.invokestatic 495, 3)), (15, (.ireturn, 1)), (16, (.aload_n 0, 1)), (17, (.getfield 9, 3)), (20, (.iload_n 1, 1)), (21, (.invokestatic 498, 3)), (24, (.ireturn, 1))] : List (Nat × (Instr × Nat))), decode cJ0_charAt_5068e r.1 = .ok r.2 := by decide +kernel
theorem dJ0_charAt_5068e_0 : decode cJ0_charAt_5068e 0 = .ok (.aload_n 0, 1) := dgJ0_charAt_5068e_0 (0, (.aload_n 0, 1)) (List.mem_of_getElem? (i := 0) rfl)
theorem dJ0_charAt_5068e_1 : decode cJ0_charAt_5068e 1 = .ok (.invokevirtual 492, 3) := dgJ0_charAt_5068e_0 (1, (.invokevirtual 492, 3)) (List.mem_of_getElem? (i := 1) rfl)
theorem dJ0_charAt_5068e_4 : decode cJ0_charAt_5068e 4 = .ok (.ifCond .eq 12, 3) := dgJ0_charAt_5068e_0 (4, (.ifCond .eq 12, 3)) (List.mem_of_getElem? (i := 2) rfl)
theorem dJ0_charAt_5068e_7 : decode cJ0_charAt_5068e 7 = .ok (.aload_n 0, 1) := dgJ0_charAt_5068e_0 (7, (.aload_n 0, 1)) (List.mem_of_getElem? (i := 3) rfl)
theorem dJ0_charAt_5068e_8 : decode cJ0_charAt_5068e 8 = .ok (.getfield 9, 3) := dgJ0_charAt_5068e_0 (8, (.getfield 9, 3)) (List.mem_of_getElem? (i := 4) rfl)
theorem dJ0_charAt_5068e_11 : decode cJ0_charAt_5068e 11 = .ok (.iload_n 1, 1) := dgJ0_charAt_5068e_0 (11, (.iload_n 1, 1)) (List.mem_of_getElem? (i := 5) rfl)
theorem dJ0_charAt_5068e_12 : decode cJ0_charAt_5068e 12 = .ok (.invokestatic 495, 3) := dgJ0_charAt_5068e_0 (12, (.invokestatic 495, 3)) (List.mem_of_getElem? (i := 6) rfl)
theorem dJ0_charAt_5068e_15 : decode cJ0_charAt_5068e 15 = .ok (.ireturn, 1) := dgJ0_charAt_5068e_0 (15, (.ireturn, 1)) (List.mem_of_getElem? (i := 7) rfl)
theorem ml_J0_492 : Cond.methodLink RJ0 492 yJ0_isLatin1_aae02 ∈ tblG := tg 682 (by decide +kernel) (by decide +kernel)
theorem im_J0_isLatin1_aae02 : Cond.instanceMethod yJ0_isLatin1_aae02 ∈ tblG := tg 683 (by decide +kernel) (by decide +kernel)
theorem se_J0_isLatin1_aae02 : Cond.selects RJ0 yJ0_isLatin1_aae02 yJ0_isLatin1_aae02 ∈ tblG := tg 684 (by decide +kernel) (by decide +kernel)
theorem cd_J0_isLatin1_aae02 : Cond.code yJ0_isLatin1_aae02 cJ0_isLatin1_aae02 1 (some .boolean) ∈ tblG := tg 685 (by decide +kernel) (by decide +kernel)
theorem gW_J0_isLatin1_aae02 : GoodIn tblG (wsG yJ0_isLatin1_aae02 cJ0_isLatin1_aae02 1 (some .boolean)) := tgi cd_J0_isLatin1_aae02
theorem gV_J0_492 : GoodIn tblG (wsV RJ0 492 RJ0 yJ0_isLatin1_aae02 (wsG yJ0_isLatin1_aae02 cJ0_isLatin1_aae02 1 (some .boolean))) := tgV ml_J0_492 im_J0_isLatin1_aae02 se_J0_isLatin1_aae02 ini_J0 gW_J0_isLatin1_aae02
theorem hv_J0_isLatin1_aae02 : yJ0_isLatin1_aae02.cls = RJ0 ∧ yJ0_isLatin1_aae02.cls ≠ "java/lang/invoke/MethodHandle" ∧ yJ0_isLatin1_aae02.cls ≠ "java/lang/invoke/VarHandle" ∧ (parseMethodDescriptor yJ0_isLatin1_aae02.desc).map (fun d => d.parameters.length) = some 0 := by decide +kernel
theorem ml_J0_495 : Cond.methodLink RJ0 495 yJ1_charAt_3b067 ∈ tblG := tg 686 (by decide +kernel) (by decide +kernel)
theorem st_J1_charAt_3b067 : Cond.static yJ1_charAt_3b067 ∈ tblG := tg 687 (by decide +kernel) (by decide +kernel)
theorem ini_J1 : Cond.initialized RJ1 ∈ tblG := tg 101 (by decide +kernel) (by decide +kernel)
theorem cd_J1_charAt_3b067 : Cond.code yJ1_charAt_3b067 cJ1_charAt_3b067 2 (some .char) ∈ tblG := tg 688 (by decide +kernel) (by decide +kernel)
theorem gW_J1_charAt_3b067 : GoodIn tblG (wsG yJ1_charAt_3b067 cJ1_charAt_3b067 2 (some .char)) := tgi cd_J1_charAt_3b067
theorem gS_J0_495 : GoodIn tblG (va_wsS RJ0 495 yJ1_charAt_3b067 (wsG yJ1_charAt_3b067 cJ1_charAt_3b067 2 (some .char))) := tgS ml_J0_495 st_J1_charAt_3b067 ini_J1 gW_J1_charAt_3b067
theorem hs_J1_charAt_3b067 : yJ1_charAt_3b067.cls ≠ "java/lang/invoke/MethodHandle" ∧ yJ1_charAt_3b067.cls ≠ "java/lang/invoke/VarHandle" ∧ (parseMethodDescriptor yJ1_charAt_3b067.desc).map (fun d => d.parameters.length) = some 2 := by decide +kernel
set_option maxHeartbeats 4000000 in
set_option maxRecDepth 100000 in
theorem s_charAt (l : Launch) (G : g5_G) (a_q a_v : Nat) (sz : Nat) (p_i : Int32) (h_p_i : 0 ≤ p_i.toInt ∧ p_i.toInt ≤ 73) : Met l yJ0_charAt_5068e (wsG yJ0_charAt_5068e cJ0_charAt_5068e 2 (some .char)) ({ frames := 3, cells := 0, slots := 0, locals := 64 }) (va_Pc [.ref a_q, .int p_i] (g5_PK G a_q a_v [] sz)) (va_Qi (fun (r : Int32) (u : va_W) => (∃ (o_r : Int32), (narrow .char (.int o_r) = .int o_r) ∧ (r = o_r) ∧ (u = []))) (g5_B G (va_A [] sz)) (va_A [] sz)) 0 0 (va_A [] sz) := by
  refine Met.ofW (cc := cJ0_charAt_5068e) (maxL := 2) (ret := (some .char)) (by decide) rfl ?_
  intro p e s m args below meth c s₁ B hml hv
  obtain ⟨rfl, ⟨hsz, hP, hK, hD0, hN, hT⟩, hRK, hVK⟩ := hv
  have hx := B.exec
  have hb := B.bytes
  have hr := B.returns
  have hts : ∀ w ∈ tblG, w.before _ s = true := fun w h => atoms_spec (ws := (wsG yJ0_charAt_5068e cJ0_charAt_5068e 2 (some .char))) B.pre w (List.mem_cons_of_mem _ h)
  have hown : s.vm.findClass RJ0 = some m.cls := findClass_of_methodNamed B.named
  have hlocks := B.notSynchronized
  subst hsz
  have hD := hD0.self (sz := s.heap.size)
  generalize hAe : va_A [] s.heap.size = A at hD hT hVK ⊢
  have hA : ∀ q : Nat, s.heap.size ≤ q → A q := fun q h => by rw [← hAe]; exact Or.inr h
  have hS : va_S A s.heap s.heap [] := va_S.rf
  have hP : va_P G.1 vwCl [] s.heap := hP
  have hl := lv_entry ([.ref a_q, .int p_i]) (n := 2) (Nat.le_of_ble_eq_true rfl)
  rw [lg_entry_eq]
  generalize (lg_sl ([.ref a_q, .int p_i]) ++ List.replicate (2 - (lg_sl ([.ref a_q, .int p_i])).length) Slot.unset).toArray = ls at hl ⊢
  have hl : lv_has ls 2 [(0, .ref a_q), (1, .int p_i)] := hl
  obtain ⟨tH0, tL0, tK0, tV0, tF, hZH0, hTH0, hZL0, hTL0, hRK0, hVK0, hZC, hZF⟩ := id hT
  refine lv_aload_n hx hb dJ0_charAt_5068e_0 rfl (lv_at hl 0 rfl) ?_
  obtain ⟨hPc, hDc, hFc⟩ := g5_sub3 (wc := []) hP hD hS hA [] (by decide) rfl
  refine va_calli (va_runV (As := []) (rest := []) ⟨hx, hb, hml, hown, hts⟩ (s_latin l G a_q a_v s.heap.size) (cwV 0 hts gV_J0_492 rfl rfl rfl hv_J0_isLatin1_aae02 ⟨Nat.le_of_ble_eq_true rfl, Nat.le_of_ble_eq_true rfl⟩) (g5_preVK hPc hK hDc hN hT hS hFc hRK hVK) rfl rfl hl.1 rfl (lv_room (Nat.le_of_ble_eq_true rfl)) dJ0_charAt_5068e_1 ⟨Nat.le_of_ble_eq_true rfl, Nat.le_of_ble_eq_true rfl⟩) hS (fun q _ h => hFc q h) hFc (fun r u t H1 locs ht hvm hw hB hz1 hk1 hS => ?_)
  obtain ⟨hP1, hD1⟩ := hB
  rw [ht] at hP1
  obtain ⟨rfl, rfl⟩ := hw
  have hP := g5_same hP hk1
  generalize H1 = H at hP hS ⊢
  refine lv_if_eq (tgt := 16) hx hb dJ0_charAt_5068e_4 (by decide) (fun c_1 => ?_) (fun c_1 => ?_)
  ·
    exact absurd c_1 (by decide)
  ·
    refine lv_aload_n hx hb dJ0_charAt_5068e_7 rfl (lv_at hl 0 rfl) ?_
    refine vk_getf hx hb (hVK.1 0 (by decide)).2.2.1 hS hown (hts _ fl_J0_9) (fun _ h9 => h9) dJ0_charAt_5068e_8 ?_
    refine g5_tv (v := .ref a_v) rfl ?_
    refine lv_iload_n hx hb dJ0_charAt_5068e_11 rfl (lv_at hl 1 rfl) ?_
    obtain ⟨hPc, hDc, hFc⟩ := g5_sub3 (wc := []) hP hD hS hA [] (by decide) rfl
    refine va_calli (va_runS (As := [.ref a_v, .int p_i]) (rest := []) ⟨hx, hb, hml, hown, hts⟩ (s_char1 l G a_q a_v H.size p_i h_p_i) (va_cwS 2 hts gS_J0_495 rfl rfl rfl hs_J1_charAt_3b067 ⟨Nat.le_of_ble_eq_true rfl, Nat.le_of_ble_eq_true rfl⟩) (g5_preSK hPc hK hDc hN hT hS hFc hRK hVK) rfl rfl hl.1 rfl (lv_room (Nat.le_of_ble_eq_true rfl)) dJ0_charAt_5068e_12 ⟨Nat.le_of_ble_eq_true rfl, Nat.le_of_ble_eq_true rfl⟩) hS (fun q _ h => hFc q h) hFc (fun r u t H1 locs ht hvm hw hB hz1 hk1 hS => ?_)
    obtain ⟨hP1, hD1⟩ := hB
    rw [ht] at hP1
    obtain ⟨z3, i_2, y4, rfl⟩ := hw
    have i_2 : narrow .char (.int z3) = .int z3 := i_2
    have hP := g5_same hP hk1
    generalize H1 = H at hP hS ⊢
    refine g5_ti (v := z3) y4 ?_
    exact W.zret (v := z3) hx hb hr i_2 (fun t ht hW => ⟨⟨z3, [], rfl, ⟨z3, i_2, rfl, rfl⟩, by rw [ht]; exact hP.sub [] rfl, hD.sub [] (by decide) rfl⟩, hS.F ht⟩) hS.2.2 dJ0_charAt_5068e_15
theorem dgX8_isLetter_0 : ∀ r ∈ ([(0, (.iload_n 0, 1)), (1, (.bipush 97, 2)), (3, (.if_icmp .lt 13, 3)), (6, (.iload_n 0, 1)), (7, (.bipush 122, 2)), (9, (.if_icmp .gt 7, 3)), (12, (.iconst 1, 1)), (13, (.goto 4, 3)), (16, (.iconst 0, 1)), (17, (.ireturn, 1))] : List (Nat × (Instr × Nat))), decode cX8_isLetter r.1 = .ok r.2 := by decide +kernel
theorem dX8_isLetter_0 : decode cX8_isLetter 0 = .ok (.iload_n 0, 1) := dgX8_isLetter_0 (0, (.iload_n 0, 1)) (List.mem_of_getElem? (i := 0) rfl)
theorem dX8_isLetter_1 : decode cX8_isLetter 1 = .ok (.bipush 97, 2) := dgX8_isLetter_0 (1, (.bipush 97, 2)) (List.mem_of_getElem? (i := 1) rfl)
theorem dX8_isLetter_3 : decode cX8_isLetter 3 = .ok (.if_icmp .lt 13, 3) := dgX8_isLetter_0 (3, (.if_icmp .lt 13, 3)) (List.mem_of_getElem? (i := 2) rfl)
theorem dX8_isLetter_6 : decode cX8_isLetter 6 = .ok (.iload_n 0, 1) := dgX8_isLetter_0 (6, (.iload_n 0, 1)) (List.mem_of_getElem? (i := 3) rfl)
theorem dX8_isLetter_7 : decode cX8_isLetter 7 = .ok (.bipush 122, 2) := dgX8_isLetter_0 (7, (.bipush 122, 2)) (List.mem_of_getElem? (i := 4) rfl)
theorem dX8_isLetter_9 : decode cX8_isLetter 9 = .ok (.if_icmp .gt 7, 3) := dgX8_isLetter_0 (9, (.if_icmp .gt 7, 3)) (List.mem_of_getElem? (i := 5) rfl)
theorem dX8_isLetter_12 : decode cX8_isLetter 12 = .ok (.iconst 1, 1) := dgX8_isLetter_0 (12, (.iconst 1, 1)) (List.mem_of_getElem? (i := 6) rfl)
theorem dX8_isLetter_13 : decode cX8_isLetter 13 = .ok (.goto 4, 3) := dgX8_isLetter_0 (13, (.goto 4, 3)) (List.mem_of_getElem? (i := 7) rfl)
theorem dX8_isLetter_16 : decode cX8_isLetter 16 = .ok (.iconst 0, 1) := dgX8_isLetter_0 (16, (.iconst 0, 1)) (List.mem_of_getElem? (i := 8) rfl)
theorem dX8_isLetter_17 : decode cX8_isLetter 17 = .ok (.ireturn, 1) := dgX8_isLetter_0 (17, (.ireturn, 1)) (List.mem_of_getElem? (i := 9) rfl)
set_option maxHeartbeats 4000000 in
set_option maxRecDepth 100000 in
theorem k_letter (l : Launch) (G : g5_G) (sz : Nat) (p_x : Int32) : Met l yX8_isLetter (wsG yX8_isLetter cX8_isLetter 1 (some .boolean)) ({ frames := 0, cells := 0, slots := 0, locals := 0 }) (va_Pc [.int p_x] (g5_P G [] sz)) (va_Qi (fun (r : Int32) (u : va_W) => (∃ (o_r : Int32), (0 ≤ o_r.toInt ∧ o_r.toInt ≤ 1) ∧ (r = o_r) ∧ (u = []))) (g5_B G (va_A [] sz)) (va_A [] sz)) 0 0 (va_A [] sz) := by
  refine Met.ofW (cc := cX8_isLetter) (maxL := 1) (ret := (some .boolean)) (by decide) rfl ?_
  intro p e s m args below meth c s₁ B hml hv
  obtain ⟨rfl, hsz, hP, hK, hD0, hN, hT⟩ := hv
  have hx := B.exec
  have hb := B.bytes
  have hr := B.returns
  have hts : ∀ w ∈ tblG, w.before _ s = true := fun w h => atoms_spec (ws := (wsG yX8_isLetter cX8_isLetter 1 (some .boolean))) B.pre w (List.mem_cons_of_mem _ h)
  have hown : s.vm.findClass RX8 = some m.cls := findClass_of_methodNamed B.named
  have hlocks := B.notSynchronized
  subst hsz
  have hD := hD0.self (sz := s.heap.size)
  generalize hAe : va_A [] s.heap.size = A at hD hT ⊢
  have hA : ∀ q : Nat, s.heap.size ≤ q → A q := fun q h => by rw [← hAe]; exact Or.inr h
  have hS : va_S A s.heap s.heap [] := va_S.rf
  have hP : va_P G.1 vwCl [] s.heap := hP
  have hl := lv_entry ([.int p_x]) (n := 1) (Nat.le_of_ble_eq_true rfl)
  rw [lg_entry_eq]
  generalize (lg_sl ([.int p_x]) ++ List.replicate (1 - (lg_sl ([.int p_x])).length) Slot.unset).toArray = ls at hl ⊢
  have hl : lv_has ls 1 [(0, .int p_x)] := hl
  refine lv_iload_n hx hb dX8_isLetter_0 rfl (lv_at hl 0 rfl) ?_
  refine lv_bipush (v := 97) hx hb dX8_isLetter_1 (by decide) ?_
  refine lv_icmp_lt (tgt := 16) hx hb dX8_isLetter_3 (by decide) (fun c_1 => ?_) (fun c_1 => ?_)
  ·
    have i_1 : p_x.toInt < 97 := by have z := g5_lt (a := p_x.toInt) (b := 97) (by rfl) (by decide) c_1; omega
    refine lv_iconst (v := 0) hx hb dX8_isLetter_16 (by decide) ?_
    exact W.zret (v := 0) hx hb hr rfl (fun t ht hW => ⟨⟨0, [], rfl, ⟨0, ⟨by have zc_o_r : (0 : Int32).toInt = 0 := (by decide); omega, by have zc_o_r : (0 : Int32).toInt = 0 := (by decide); omega⟩, rfl, rfl⟩, by rw [ht]; exact hP.sub [] rfl, hD.sub [] (by decide) rfl⟩, hS.F ht⟩) hS.2.2 dX8_isLetter_17
  ·
    have i_1 : p_x.toInt ≥ 97 := by have z := g5_ltN (a := p_x.toInt) (b := 97) (by rfl) (by decide) c_1; omega
    refine lv_iload_n hx hb dX8_isLetter_6 rfl (lv_at hl 0 rfl) ?_
    refine lv_bipush (v := 122) hx hb dX8_isLetter_7 (by decide) ?_
    refine lv_icmp_gt (tgt := 16) hx hb dX8_isLetter_9 (by decide) (fun c_2 => ?_) (fun c_2 => ?_)
    ·
      have i_2 : p_x.toInt > 122 := by have z := g5_gt (a := p_x.toInt) (b := 122) (by rfl) (by decide) c_2; omega
      refine lv_iconst (v := 0) hx hb dX8_isLetter_16 (by decide) ?_
      exact W.zret (v := 0) hx hb hr rfl (fun t ht hW => ⟨⟨0, [], rfl, ⟨0, ⟨by have zc_o_r : (0 : Int32).toInt = 0 := (by decide); omega, by have zc_o_r : (0 : Int32).toInt = 0 := (by decide); omega⟩, rfl, rfl⟩, by rw [ht]; exact hP.sub [] rfl, hD.sub [] (by decide) rfl⟩, hS.F ht⟩) hS.2.2 dX8_isLetter_17
    ·
      have i_2 : p_x.toInt ≤ 122 := by have z := g5_gtN (a := p_x.toInt) (b := 122) (by rfl) (by decide) c_2; omega
      refine lv_iconst (v := 1) hx hb dX8_isLetter_12 (by decide) ?_
      refine lv_goto (tgt := 17) hx hb dX8_isLetter_13 (by decide) ?_
      exact W.zret (v := 1) hx hb hr rfl (fun t ht hW => ⟨⟨1, [], rfl, ⟨1, ⟨by have zc_o_r : (1 : Int32).toInt = 1 := (by decide); omega, by have zc_o_r : (1 : Int32).toInt = 1 := (by decide); omega⟩, rfl, rfl⟩, by rw [ht]; exact hP.sub [] rfl, hD.sub [] (by decide) rfl⟩, hS.F ht⟩) hS.2.2 dX8_isLetter_17
theorem dgX8_isDigit_0 : ∀ r ∈ ([(0, (.iload_n 0, 1)), (1, (.bipush 48, 2)), (3, (.if_icmp .lt 13, 3)), (6, (.iload_n 0, 1)), (7, (.bipush 57, 2)), (9, (.if_icmp .gt 7, 3)), (12, (.iconst 1, 1)), (13, (.goto 4, 3)), (16, (.iconst 0, 1)), (17, (.ireturn, 1))] : List (Nat × (Instr × Nat))), decode cX8_isDigit r.1 = .ok r.2 := by decide +kernel
theorem dX8_isDigit_0 : decode cX8_isDigit 0 = .ok (.iload_n 0, 1) := dgX8_isDigit_0 (0, (.iload_n 0, 1)) (List.mem_of_getElem? (i := 0) rfl)
theorem dX8_isDigit_1 : decode cX8_isDigit 1 = .ok (.bipush 48, 2) := dgX8_isDigit_0 (1, (.bipush 48, 2)) (List.mem_of_getElem? (i := 1) rfl)
theorem dX8_isDigit_3 : decode cX8_isDigit 3 = .ok (.if_icmp .lt 13, 3) := dgX8_isDigit_0 (3, (.if_icmp .lt 13, 3)) (List.mem_of_getElem? (i := 2) rfl)
theorem dX8_isDigit_6 : decode cX8_isDigit 6 = .ok (.iload_n 0, 1) := dgX8_isDigit_0 (6, (.iload_n 0, 1)) (List.mem_of_getElem? (i := 3) rfl)
theorem dX8_isDigit_7 : decode cX8_isDigit 7 = .ok (.bipush 57, 2) := dgX8_isDigit_0 (7, (.bipush 57, 2)) (List.mem_of_getElem? (i := 4) rfl)
theorem dX8_isDigit_9 : decode cX8_isDigit 9 = .ok (.if_icmp .gt 7, 3) := dgX8_isDigit_0 (9, (.if_icmp .gt 7, 3)) (List.mem_of_getElem? (i := 5) rfl)
theorem dX8_isDigit_12 : decode cX8_isDigit 12 = .ok (.iconst 1, 1) := dgX8_isDigit_0 (12, (.iconst 1, 1)) (List.mem_of_getElem? (i := 6) rfl)
theorem dX8_isDigit_13 : decode cX8_isDigit 13 = .ok (.goto 4, 3) := dgX8_isDigit_0 (13, (.goto 4, 3)) (List.mem_of_getElem? (i := 7) rfl)
theorem dX8_isDigit_16 : decode cX8_isDigit 16 = .ok (.iconst 0, 1) := dgX8_isDigit_0 (16, (.iconst 0, 1)) (List.mem_of_getElem? (i := 8) rfl)
theorem dX8_isDigit_17 : decode cX8_isDigit 17 = .ok (.ireturn, 1) := dgX8_isDigit_0 (17, (.ireturn, 1)) (List.mem_of_getElem? (i := 9) rfl)
set_option maxHeartbeats 4000000 in
set_option maxRecDepth 100000 in
theorem k_digit (l : Launch) (G : g5_G) (sz : Nat) (p_x : Int32) : Met l yX8_isDigit (wsG yX8_isDigit cX8_isDigit 1 (some .boolean)) ({ frames := 0, cells := 0, slots := 0, locals := 0 }) (va_Pc [.int p_x] (g5_P G [] sz)) (va_Qi (fun (r : Int32) (u : va_W) => ((48 ≤ p_x.toInt ∧ p_x.toInt ≤ 57) ∧ (r = 1) ∧ (u = [])) ∨ ((p_x.toInt < 48 ∨ 57 < p_x.toInt) ∧ (r = 0) ∧ (u = []))) (g5_B G (va_A [] sz)) (va_A [] sz)) 0 0 (va_A [] sz) := by
  refine Met.ofW (cc := cX8_isDigit) (maxL := 1) (ret := (some .boolean)) (by decide) rfl ?_
  intro p e s m args below meth c s₁ B hml hv
  obtain ⟨rfl, hsz, hP, hK, hD0, hN, hT⟩ := hv
  have hx := B.exec
  have hb := B.bytes
  have hr := B.returns
  have hts : ∀ w ∈ tblG, w.before _ s = true := fun w h => atoms_spec (ws := (wsG yX8_isDigit cX8_isDigit 1 (some .boolean))) B.pre w (List.mem_cons_of_mem _ h)
  have hown : s.vm.findClass RX8 = some m.cls := findClass_of_methodNamed B.named
  have hlocks := B.notSynchronized
  subst hsz
  have hD := hD0.self (sz := s.heap.size)
  generalize hAe : va_A [] s.heap.size = A at hD hT ⊢
  have hA : ∀ q : Nat, s.heap.size ≤ q → A q := fun q h => by rw [← hAe]; exact Or.inr h
  have hS : va_S A s.heap s.heap [] := va_S.rf
  have hP : va_P G.1 vwCl [] s.heap := hP
  have hl := lv_entry ([.int p_x]) (n := 1) (Nat.le_of_ble_eq_true rfl)
  rw [lg_entry_eq]
  generalize (lg_sl ([.int p_x]) ++ List.replicate (1 - (lg_sl ([.int p_x])).length) Slot.unset).toArray = ls at hl ⊢
  have hl : lv_has ls 1 [(0, .int p_x)] := hl
  refine lv_iload_n hx hb dX8_isDigit_0 rfl (lv_at hl 0 rfl) ?_
  refine lv_bipush (v := 48) hx hb dX8_isDigit_1 (by decide) ?_
  refine lv_icmp_lt (tgt := 16) hx hb dX8_isDigit_3 (by decide) (fun c_1 => ?_) (fun c_1 => ?_)
  ·
    have i_1 : p_x.toInt < 48 := by have z := g5_lt (a := p_x.toInt) (b := 48) (by rfl) (by decide) c_1; omega
    refine lv_iconst (v := 0) hx hb dX8_isDigit_16 (by decide) ?_
    exact W.zret (v := 0) hx hb hr rfl (fun t ht hW => ⟨⟨0, [], rfl, Or.inr (⟨by omega, rfl, rfl⟩), by rw [ht]; exact hP.sub [] rfl, hD.sub [] (by decide) rfl⟩, hS.F ht⟩) hS.2.2 dX8_isDigit_17
  ·
    have i_1 : p_x.toInt ≥ 48 := by have z := g5_ltN (a := p_x.toInt) (b := 48) (by rfl) (by decide) c_1; omega
    refine lv_iload_n hx hb dX8_isDigit_6 rfl (lv_at hl 0 rfl) ?_
    refine lv_bipush (v := 57) hx hb dX8_isDigit_7 (by decide) ?_
    refine lv_icmp_gt (tgt := 16) hx hb dX8_isDigit_9 (by decide) (fun c_2 => ?_) (fun c_2 => ?_)
    ·
      have i_2 : p_x.toInt > 57 := by have z := g5_gt (a := p_x.toInt) (b := 57) (by rfl) (by decide) c_2; omega
      refine lv_iconst (v := 0) hx hb dX8_isDigit_16 (by decide) ?_
      exact W.zret (v := 0) hx hb hr rfl (fun t ht hW => ⟨⟨0, [], rfl, Or.inr (⟨by omega, rfl, rfl⟩), by rw [ht]; exact hP.sub [] rfl, hD.sub [] (by decide) rfl⟩, hS.F ht⟩) hS.2.2 dX8_isDigit_17
    ·
      have i_2 : p_x.toInt ≤ 57 := by have z := g5_gtN (a := p_x.toInt) (b := 57) (by rfl) (by decide) c_2; omega
      refine lv_iconst (v := 1) hx hb dX8_isDigit_12 (by decide) ?_
      refine lv_goto (tgt := 17) hx hb dX8_isDigit_13 (by decide) ?_
      exact W.zret (v := 1) hx hb hr rfl (fun t ht hW => ⟨⟨1, [], rfl, Or.inl (⟨by omega, rfl, rfl⟩), by rw [ht]; exact hP.sub [] rfl, hD.sub [] (by decide) rfl⟩, hS.F ht⟩) hS.2.2 dX8_isDigit_17
theorem dgX8_endOf_0 : ∀ r ∈ ([(0, (.iload_n 1, 1)), (1, (.iconst 1, 1)), (2, (.iadd, 1)), (3, (.istore_n 3, 1)), (4, (.aload_n 0, 1)), (5, (.iload_n 1, 1)), (6, (.iaload, 1)), (7, (.invokestatic 35, 3)), (10, (.ifCond .eq 23, 3)), (13, (.iload_n 3, 1)), (14, (.iload_n 2, 1)), (15, (.if_icmp .ge 47, 3)), (18, (.aload_n 0, 1)), (19, (.iload_n 3, 1)), (20, (.iaload, 1)), (21, (.invokestatic 35, 3)), (24, (.ifCond .eq 38, 3)), (27, (.iinc 3 1, 3)), (30, (.goto (-17), 3)), (33, (.aload_n 0, 1)), (34, (.iload_n 1, 1)), (35, (.iaload, 1)), (36, (.invokestatic 25, 3)), (39, (.ifCond .eq 23, 3)), (42, (.iload_n 3, 1)), (43, (.iload_n 2, 1)), (44, (.if_icmp .ge 18, 3)), (47, (.aload_n 0, 1)), (48, (.iload_n 3, 1)), (49, (.iaload, 1)), (50, (.invokestatic 25, 3)), (53, (.ifCond .eq 9, 3)), (56, (.iinc 3 1, 3)), (59, (.goto (-17), 3)), (62, (.iload_n 3, 1)), (63, (.ireturn, 1))] : List (Nat × (Instr × Nat))), decode cX8_endOf r.1 = .ok r.2 := by decide +kernel
theorem dX8_endOf_0 : decode cX8_endOf 0 = .ok (.iload_n 1, 1) := dgX8_endOf_0 (0, (.iload_n 1, 1)) (List.mem_of_getElem? (i := 0) rfl)
theorem dX8_endOf_1 : decode cX8_endOf 1 = .ok (.iconst 1, 1) := dgX8_endOf_0 (1, (.iconst 1, 1)) (List.mem_of_getElem? (i := 1) rfl)
theorem dX8_endOf_2 : decode cX8_endOf 2 = .ok (.iadd, 1) := dgX8_endOf_0 (2, (.iadd, 1)) (List.mem_of_getElem? (i := 2) rfl)
theorem dX8_endOf_3 : decode cX8_endOf 3 = .ok (.istore_n 3, 1) := dgX8_endOf_0 (3, (.istore_n 3, 1)) (List.mem_of_getElem? (i := 3) rfl)
theorem dX8_endOf_4 : decode cX8_endOf 4 = .ok (.aload_n 0, 1) := dgX8_endOf_0 (4, (.aload_n 0, 1)) (List.mem_of_getElem? (i := 4) rfl)
theorem dX8_endOf_5 : decode cX8_endOf 5 = .ok (.iload_n 1, 1) := dgX8_endOf_0 (5, (.iload_n 1, 1)) (List.mem_of_getElem? (i := 5) rfl)
theorem dX8_endOf_6 : decode cX8_endOf 6 = .ok (.iaload, 1) := dgX8_endOf_0 (6, (.iaload, 1)) (List.mem_of_getElem? (i := 6) rfl)
theorem dX8_endOf_7 : decode cX8_endOf 7 = .ok (.invokestatic 35, 3) := dgX8_endOf_0 (7, (.invokestatic 35, 3)) (List.mem_of_getElem? (i := 7) rfl)
theorem dX8_endOf_10 : decode cX8_endOf 10 = .ok (.ifCond .eq 23, 3) := dgX8_endOf_0 (10, (.ifCond .eq 23, 3)) (List.mem_of_getElem? (i := 8) rfl)
theorem dX8_endOf_13 : decode cX8_endOf 13 = .ok (.iload_n 3, 1) := dgX8_endOf_0 (13, (.iload_n 3, 1)) (List.mem_of_getElem? (i := 9) rfl)
theorem dX8_endOf_14 : decode cX8_endOf 14 = .ok (.iload_n 2, 1) := dgX8_endOf_0 (14, (.iload_n 2, 1)) (List.mem_of_getElem? (i := 10) rfl)
theorem dX8_endOf_15 : decode cX8_endOf 15 = .ok (.if_icmp .ge 47, 3) := dgX8_endOf_0 (15, (.if_icmp .ge 47, 3)) (List.mem_of_getElem? (i := 11) rfl)
theorem dX8_endOf_18 : decode cX8_endOf 18 = .ok (.aload_n 0, 1) := dgX8_endOf_0 (18, (.aload_n 0, 1)) (List.mem_of_getElem? (i := 12) rfl)
theorem dX8_endOf_19 : decode cX8_endOf 19 = .ok (.iload_n 3, 1) := dgX8_endOf_0 (19, (.iload_n 3, 1)) (List.mem_of_getElem? (i := 13) rfl)
theorem dX8_endOf_20 : decode cX8_endOf 20 = .ok (.iaload, 1) := dgX8_endOf_0 (20, (.iaload, 1)) (List.mem_of_getElem? (i := 14) rfl)
theorem dX8_endOf_21 : decode cX8_endOf 21 = .ok (.invokestatic 35, 3) := dgX8_endOf_0 (21, (.invokestatic 35, 3)) (List.mem_of_getElem? (i := 15) rfl)
theorem dX8_endOf_24 : decode cX8_endOf 24 = .ok (.ifCond .eq 38, 3) := dgX8_endOf_0 (24, (.ifCond .eq 38, 3)) (List.mem_of_getElem? (i := 16) rfl)
theorem dX8_endOf_27 : decode cX8_endOf 27 = .ok (.iinc 3 1, 3) := dgX8_endOf_0 (27, (.iinc 3 1, 3)) (List.mem_of_getElem? (i := 17) rfl)
theorem dX8_endOf_30 : decode cX8_endOf 30 = .ok (.goto (-17), 3) := dgX8_endOf_0 (30, (.goto (-17), 3)) (List.mem_of_getElem? (i := 18) rfl)
theorem dX8_endOf_33 : decode cX8_endOf 33 = .ok (.aload_n 0, 1) := dgX8_endOf_0 (33, (.aload_n 0, 1)) (List.mem_of_getElem? (i := 19) rfl)
theorem dX8_endOf_34 : decode cX8_endOf 34 = .ok (.iload_n 1, 1) := dgX8_endOf_0 (34, (.iload_n 1, 1)) (List.mem_of_getElem? (i := 20) rfl)
theorem dX8_endOf_35 : decode cX8_endOf 35 = .ok (.iaload, 1) := dgX8_endOf_0 (35, (.iaload, 1)) (List.mem_of_getElem? (i := 21) rfl)
theorem dX8_endOf_36 : decode cX8_endOf 36 = .ok (.invokestatic 25, 3) := dgX8_endOf_0 (36, (.invokestatic 25, 3)) (List.mem_of_getElem? (i := 22) rfl)
theorem dX8_endOf_39 : decode cX8_endOf 39 = .ok (.ifCond .eq 23, 3) := dgX8_endOf_0 (39, (.ifCond .eq 23, 3)) (List.mem_of_getElem? (i := 23) rfl)
theorem dX8_endOf_42 : decode cX8_endOf 42 = .ok (.iload_n 3, 1) := dgX8_endOf_0 (42, (.iload_n 3, 1)) (List.mem_of_getElem? (i := 24) rfl)
theorem dX8_endOf_43 : decode cX8_endOf 43 = .ok (.iload_n 2, 1) := dgX8_endOf_0 (43, (.iload_n 2, 1)) (List.mem_of_getElem? (i := 25) rfl)
theorem dX8_endOf_44 : decode cX8_endOf 44 = .ok (.if_icmp .ge 18, 3) := dgX8_endOf_0 (44, (.if_icmp .ge 18, 3)) (List.mem_of_getElem? (i := 26) rfl)
theorem dX8_endOf_47 : decode cX8_endOf 47 = .ok (.aload_n 0, 1) := dgX8_endOf_0 (47, (.aload_n 0, 1)) (List.mem_of_getElem? (i := 27) rfl)
theorem dX8_endOf_48 : decode cX8_endOf 48 = .ok (.iload_n 3, 1) := dgX8_endOf_0 (48, (.iload_n 3, 1)) (List.mem_of_getElem? (i := 28) rfl)
theorem dX8_endOf_49 : decode cX8_endOf 49 = .ok (.iaload, 1) := dgX8_endOf_0 (49, (.iaload, 1)) (List.mem_of_getElem? (i := 29) rfl)
theorem dX8_endOf_50 : decode cX8_endOf 50 = .ok (.invokestatic 25, 3) := dgX8_endOf_0 (50, (.invokestatic 25, 3)) (List.mem_of_getElem? (i := 30) rfl)
theorem dX8_endOf_53 : decode cX8_endOf 53 = .ok (.ifCond .eq 9, 3) := dgX8_endOf_0 (53, (.ifCond .eq 9, 3)) (List.mem_of_getElem? (i := 31) rfl)
theorem dX8_endOf_56 : decode cX8_endOf 56 = .ok (.iinc 3 1, 3) := dgX8_endOf_0 (56, (.iinc 3 1, 3)) (List.mem_of_getElem? (i := 32) rfl)
theorem dX8_endOf_59 : decode cX8_endOf 59 = .ok (.goto (-17), 3) := dgX8_endOf_0 (59, (.goto (-17), 3)) (List.mem_of_getElem? (i := 33) rfl)
theorem dX8_endOf_62 : decode cX8_endOf 62 = .ok (.iload_n 3, 1) := dgX8_endOf_0 (62, (.iload_n 3, 1)) (List.mem_of_getElem? (i := 34) rfl)
theorem dX8_endOf_63 : decode cX8_endOf 63 = .ok (.ireturn, 1) := dgX8_endOf_0 (63, (.ireturn, 1)) (List.mem_of_getElem? (i := 35) rfl)
theorem ml_X8_35 : Cond.methodLink RX8 35 yX8_isLetter ∈ tblG := tg 652 (by decide +kernel) (by decide +kernel)
theorem st_X8_isLetter : Cond.static yX8_isLetter ∈ tblG := tg 653 (by decide +kernel) (by decide +kernel)
theorem ini_X8 : Cond.initialized RX8 ∈ tblG := tg 98 (by decide +kernel) (by decide +kernel)
theorem cd_X8_isLetter : Cond.code yX8_isLetter cX8_isLetter 1 (some .boolean) ∈ tblG := tg 654 (by decide +kernel) (by decide +kernel)
theorem gW_X8_isLetter : GoodIn tblG (wsG yX8_isLetter cX8_isLetter 1 (some .boolean)) := tgi cd_X8_isLetter
theorem gS_X8_35 : GoodIn tblG (va_wsS RX8 35 yX8_isLetter (wsG yX8_isLetter cX8_isLetter 1 (some .boolean))) := tgS ml_X8_35 st_X8_isLetter ini_X8 gW_X8_isLetter
theorem hs_X8_isLetter : yX8_isLetter.cls ≠ "java/lang/invoke/MethodHandle" ∧ yX8_isLetter.cls ≠ "java/lang/invoke/VarHandle" ∧ (parseMethodDescriptor yX8_isLetter.desc).map (fun d => d.parameters.length) = some 1 := by decide +kernel
theorem ml_X8_25 : Cond.methodLink RX8 25 yX8_isDigit ∈ tblG := tg 655 (by decide +kernel) (by decide +kernel)
theorem st_X8_isDigit : Cond.static yX8_isDigit ∈ tblG := tg 656 (by decide +kernel) (by decide +kernel)
theorem cd_X8_isDigit : Cond.code yX8_isDigit cX8_isDigit 1 (some .boolean) ∈ tblG := tg 657 (by decide +kernel) (by decide +kernel)
theorem gW_X8_isDigit : GoodIn tblG (wsG yX8_isDigit cX8_isDigit 1 (some .boolean)) := tgi cd_X8_isDigit
theorem gS_X8_25 : GoodIn tblG (va_wsS RX8 25 yX8_isDigit (wsG yX8_isDigit cX8_isDigit 1 (some .boolean))) := tgS ml_X8_25 st_X8_isDigit ini_X8 gW_X8_isDigit
theorem hs_X8_isDigit : yX8_isDigit.cls ≠ "java/lang/invoke/MethodHandle" ∧ yX8_isDigit.cls ≠ "java/lang/invoke/VarHandle" ∧ (parseMethodDescriptor yX8_isDigit.desc).map (fun d => d.parameters.length) = some 1 := by decide +kernel
set_option maxHeartbeats 4000000 in
set_option maxRecDepth 100000 in
theorem k_endOf (l : Launch) (G : g5_G) (a_x : Nat) (sz : Nat) (p_a : Int32) (p_n : Int32) (f_x : Nat → Int32) (h_p_a : 0 ≤ p_a.toInt ∧ p_a.toInt ≤ 399) (h_p_n : 0 ≤ p_n.toInt ∧ p_n.toInt ≤ 400) (e_an : p_a.toInt < p_n.toInt) : Met l yX8_endOf (wsG yX8_endOf cX8_endOf 4 (some .int)) ({ frames := 1, cells := 0, slots := 0, locals := 20 }) (va_Pc [.ref a_x, .int p_a, .int p_n] (g5_P G [(a_x, (arI G 400 f_x))] sz)) (va_Qi (fun (r : Int32) (u : va_W) => (∃ (o_r : Int32), (p_a.toInt < o_r.toInt ∧ o_r.toInt ≤ p_n.toInt) ∧ (r = o_r) ∧ (u = [(a_x, (arI G 400 f_x))]))) (g5_B G (va_A [(a_x, (arI G 400 f_x))] sz)) (va_A [(a_x, (arI G 400 f_x))] sz)) 0 0 (va_A [(a_x, (arI G 400 f_x))] sz) := by
  refine Met.ofW (cc := cX8_endOf) (maxL := 4) (ret := (some .int)) (by decide) rfl ?_
  intro p e s m args below meth c s₁ B hml hv
  obtain ⟨rfl, hsz, hP, hK, hD0, hN, hT⟩ := hv
  have hx := B.exec
  have hb := B.bytes
  have hr := B.returns
  have hts : ∀ w ∈ tblG, w.before _ s = true := fun w h => atoms_spec (ws := (wsG yX8_endOf cX8_endOf 4 (some .int))) B.pre w (List.mem_cons_of_mem _ h)
  have hown : s.vm.findClass RX8 = some m.cls := findClass_of_methodNamed B.named
  have hlocks := B.notSynchronized
  subst hsz
  have hD := hD0.self (sz := s.heap.size)
  generalize hAe : va_A [(a_x, (arI G 400 f_x))] s.heap.size = A at hD hT ⊢
  have hA : ∀ q : Nat, s.heap.size ≤ q → A q := fun q h => by rw [← hAe]; exact Or.inr h
  have hS : va_S A s.heap s.heap [] := va_S.rf
  have hP : va_P G.1 vwCl [(a_x, (arI G 400 f_x))] s.heap := hP
  have hl := lv_entry ([.ref a_x, .int p_a, .int p_n]) (n := 4) (Nat.le_of_ble_eq_true rfl)
  rw [lg_entry_eq]
  generalize (lg_sl ([.ref a_x, .int p_a, .int p_n]) ++ List.replicate (4 - (lg_sl ([.ref a_x, .int p_a, .int p_n])).length) Slot.unset).toArray = ls at hl ⊢
  have hl : lv_has ls 4 [(0, .ref a_x), (1, .int p_a), (2, .int p_n)] := hl
  refine lv_iload_n hx hb dX8_endOf_0 rfl (lv_at hl 1 rfl) ?_
  refine lv_iconst (v := 1) hx hb dX8_endOf_1 (by decide) ?_
  refine lv_iadd hx hb dX8_endOf_2 ?_
  have t_1 : (p_a + 1).toInt = p_a.toInt + 1 := g5_iadd (a := p_a.toInt) (b := 1) (by rfl) (by decide) (by omega) (by omega)
  refine lv_istore_n (lv' := [(3, .int (p_a + 1)), (0, .ref a_x), (1, .int p_a), (2, .int p_n)]) hx hb dX8_endOf_3 rfl hl (by decide) rfl (fun ls hl => ?_)
  refine lv_aload_n hx hb dX8_endOf_4 rfl (lv_at hl 1 rfl) ?_
  refine lv_iload_n hx hb dX8_endOf_5 rfl (lv_at hl 2 rfl) ?_
  refine va_iald hx hb hK hP 0 0 rfl rfl (i := p_a) (vp_in_iff.mpr ⟨by omega, by omega⟩) dX8_endOf_6 ?_
  obtain ⟨hPc, hDc, hFc⟩ := g5_sub3 (wc := []) hP hD hS hA [] (by decide) rfl
  refine va_calli (va_runS (As := [.int (f_x p_a.toNatClampNeg)]) (rest := []) ⟨hx, hb, hml, hown, hts⟩ (k_letter l G s.heap.size (f_x p_a.toNatClampNeg)) (va_cwS 1 hts gS_X8_35 rfl rfl rfl hs_X8_isLetter ⟨Nat.le_of_ble_eq_true rfl, Nat.le_of_ble_eq_true rfl⟩) (g5_preS hPc hK hDc hN hT hS hFc) rfl rfl hl.1 rfl (lv_room (Nat.le_of_ble_eq_true rfl)) dX8_endOf_7 ⟨Nat.le_of_ble_eq_true rfl, Nat.le_of_ble_eq_true rfl⟩) hS (fun q _ h => hFc q h) hFc (fun r u t H1 locs ht hvm hw hB hz1 hk1 hS => ?_)
  obtain ⟨hP1, hD1⟩ := hB
  rw [ht] at hP1
  obtain ⟨z3, i_2, y4, rfl⟩ := hw
  have i_2 : 0 ≤ z3.toInt ∧ z3.toInt ≤ 1 := i_2
  have hP := g5_same hP hk1
  generalize H1 = H at hP hS ⊢
  refine g5_ti (v := z3) y4 ?_
  refine lv_if_eq (tgt := 33) hx hb dX8_endOf_10 (by decide) (fun c_5 => ?_) (fun c_5 => ?_)
  ·
    have i_5 : z3.toInt = 0 := by have z := g5_eq (a := z3.toInt) (b := 0) (by rfl) (by decide) c_5; omega
    refine lv_aload_n hx hb dX8_endOf_33 rfl (lv_at hl 1 rfl) ?_
    refine lv_iload_n hx hb dX8_endOf_34 rfl (lv_at hl 2 rfl) ?_
    refine va_iald hx hb hK hP 0 0 rfl rfl (i := p_a) (vp_in_iff.mpr ⟨by omega, by omega⟩) dX8_endOf_35 ?_
    obtain ⟨hPc, hDc, hFc⟩ := g5_sub3 (wc := []) hP hD hS hA [] (by decide) rfl
    refine va_calli (va_runS (As := [.int (f_x p_a.toNatClampNeg)]) (rest := []) ⟨hx, hb, hml, hown, hts⟩ (k_digit l G H.size (f_x p_a.toNatClampNeg)) (va_cwS 1 hts gS_X8_25 rfl rfl rfl hs_X8_isDigit ⟨Nat.le_of_ble_eq_true rfl, Nat.le_of_ble_eq_true rfl⟩) (g5_preS hPc hK hDc hN hT hS hFc) rfl rfl hl.1 rfl (lv_room (Nat.le_of_ble_eq_true rfl)) dX8_endOf_36 ⟨Nat.le_of_ble_eq_true rfl, Nat.le_of_ble_eq_true rfl⟩) hS (fun q _ h => hFc q h) hFc (fun r u t H1 locs ht hvm hw hB hz1 hk1 hS => ?_)
    obtain ⟨hP1, hD1⟩ := hB
    rw [ht] at hP1
    rcases hw with ⟨i_6, rfl, rfl⟩ | ⟨i_7, rfl, rfl⟩
    ·
      have i_6 : 48 ≤ (f_x p_a.toNatClampNeg).toInt ∧ (f_x p_a.toNatClampNeg).toInt ≤ 57 := i_6
      have hP := g5_same hP hk1
      generalize H1 = H at hP hS ⊢
      refine lv_if_eq (tgt := 62) hx hb dX8_endOf_39 (by decide) (fun c_8 => ?_) (fun c_8 => ?_)
      ·
        exact absurd c_8 (by decide)
      ·
        refine g5_loop (α := (Int32)) (fun (k_n : (Int32)) (ls : Array Slot) (H : Heap) (locs : List Loc) => lv_has ls 4 [(3, .int k_n), (0, .ref a_x), (1, .int p_a), (2, .int p_n)] ∧ va_P G.1 vwCl [(a_x, (arI G 400 f_x))] H ∧ va_D A [(a_x, (arI G 400 f_x))] ∧ va_S A s.heap H locs ∧ (0 ≤ k_n.toInt ∧ k_n.toInt ≤ 400) ∧ (p_a.toInt < k_n.toInt ∧ k_n.toInt ≤ p_n.toInt)) (fun (k_n : (Int32)) => Int.toNat (400 - k_n.toInt)) (p_a + 1) ⟨lv_sub hl [0, 1, 2, 3] rfl, hP, hD, hS, ⟨by omega, by omega⟩, ⟨by omega, by omega⟩⟩ ?_
        rintro k_n ls H locs ⟨hl, hP, hD, hS, i_9, i_10⟩ ih_42_11
        have hl : lv_has ls 4 [(3, .int k_n), (0, .ref a_x), (1, .int p_a), (2, .int p_n)] := hl
        have i_9 : 0 ≤ k_n.toInt ∧ k_n.toInt ≤ 400 := i_9
        have i_10 : p_a.toInt < k_n.toInt ∧ k_n.toInt ≤ p_n.toInt := i_10
        refine g5_rs [(a_x, (arI G 400 f_x))] hP hD (fun hP hD => ?_)
        refine lv_iload_n hx hb dX8_endOf_42 rfl (lv_at hl 0 rfl) ?_
        refine lv_iload_n hx hb dX8_endOf_43 rfl (lv_at hl 3 rfl) ?_
        refine lv_icmp_ge (tgt := 62) hx hb dX8_endOf_44 (by decide) (fun c_12 => ?_) (fun c_12 => ?_)
        ·
          have i_12 : k_n.toInt ≥ p_n.toInt := by have z := g5_ge (a := k_n.toInt) (b := p_n.toInt) (by rfl) (by rfl) c_12; omega
          refine lv_iload_n hx hb dX8_endOf_62 rfl (lv_at hl 0 rfl) ?_
          exact W.iret (v := k_n) hx hb hr (fun t ht hW => ⟨⟨k_n, [(a_x, (arI G 400 f_x))], rfl, ⟨k_n, ⟨by omega, by omega⟩, rfl, rfl⟩, by rw [ht]; exact hP.sub [0] rfl, hD.sub [0] (by decide) rfl⟩, hS.F ht⟩) hS.2.2 dX8_endOf_63
        ·
          have i_12 : k_n.toInt < p_n.toInt := by have z := g5_geN (a := k_n.toInt) (b := p_n.toInt) (by rfl) (by rfl) c_12; omega
          refine lv_aload_n hx hb dX8_endOf_47 rfl (lv_at hl 1 rfl) ?_
          refine lv_iload_n hx hb dX8_endOf_48 rfl (lv_at hl 0 rfl) ?_
          refine va_iald hx hb hK hP 0 0 rfl rfl (i := k_n) (vp_in_iff.mpr ⟨by omega, by omega⟩) dX8_endOf_49 ?_
          obtain ⟨hPc, hDc, hFc⟩ := g5_sub3 (wc := []) hP hD hS hA [] (by decide) rfl
          refine va_calli (va_runS (As := [.int (f_x k_n.toNatClampNeg)]) (rest := []) ⟨hx, hb, hml, hown, hts⟩ (k_digit l G H.size (f_x k_n.toNatClampNeg)) (va_cwS 1 hts gS_X8_25 rfl rfl rfl hs_X8_isDigit ⟨Nat.le_of_ble_eq_true rfl, Nat.le_of_ble_eq_true rfl⟩) (g5_preS hPc hK hDc hN hT hS hFc) rfl rfl hl.1 rfl (lv_room (Nat.le_of_ble_eq_true rfl)) dX8_endOf_50 ⟨Nat.le_of_ble_eq_true rfl, Nat.le_of_ble_eq_true rfl⟩) hS (fun q _ h => hFc q h) hFc (fun r u t H1 locs ht hvm hw hB hz1 hk1 hS => ?_)
          obtain ⟨hP1, hD1⟩ := hB
          rw [ht] at hP1
          rcases hw with ⟨i_13, rfl, rfl⟩ | ⟨i_14, rfl, rfl⟩
          ·
            have i_13 : 48 ≤ (f_x k_n.toNatClampNeg).toInt ∧ (f_x k_n.toNatClampNeg).toInt ≤ 57 := i_13
            have hP := g5_same hP hk1
            generalize H1 = H at hP hS ⊢
            refine lv_if_eq (tgt := 62) hx hb dX8_endOf_53 (by decide) (fun c_15 => ?_) (fun c_15 => ?_)
            ·
              exact absurd c_15 (by decide)
            ·
              refine lv_iinc (v := (k_n + 1)) (lv' := [(3, .int (k_n + 1)), (0, .ref a_x), (1, .int p_a), (2, .int p_n)]) hx hb dX8_endOf_56 hl (k := 0) rfl rfl (by decide) rfl (fun ls hl => ?_)
              have t_16 : (k_n + 1).toInt = k_n.toInt + 1 := g5_iadd (a := k_n.toInt) (b := 1) rfl (by decide) (by omega) (by omega)
              refine lv_goto (tgt := 42) hx hb dX8_endOf_59 (by decide) ?_
              exact ih_42_11 (k_n + 1) ls H locs (show Int.toNat (400 - (k_n + 1).toInt) < Int.toNat (400 - k_n.toInt) from g_up (show k_n.toInt < (k_n + 1).toInt by omega) (show k_n.toInt < 400 by omega)) ⟨lv_sub hl [0, 1, 2, 3] rfl, hP, hD, hS, ⟨by omega, by omega⟩, ⟨by omega, by omega⟩⟩
          ·
            have i_14 : (f_x k_n.toNatClampNeg).toInt < 48 ∨ 57 < (f_x k_n.toNatClampNeg).toInt := i_14
            have hP := g5_same hP hk1
            generalize H1 = H at hP hS ⊢
            refine lv_if_eq (tgt := 62) hx hb dX8_endOf_53 (by decide) (fun c_17 => ?_) (fun c_17 => ?_)
            ·
              refine lv_iload_n hx hb dX8_endOf_62 rfl (lv_at hl 0 rfl) ?_
              exact W.iret (v := k_n) hx hb hr (fun t ht hW => ⟨⟨k_n, [(a_x, (arI G 400 f_x))], rfl, ⟨k_n, ⟨by omega, by omega⟩, rfl, rfl⟩, by rw [ht]; exact hP.sub [0] rfl, hD.sub [0] (by decide) rfl⟩, hS.F ht⟩) hS.2.2 dX8_endOf_63
            ·
              exact absurd c_17 (by decide)
    ·
      have i_7 : (f_x p_a.toNatClampNeg).toInt < 48 ∨ 57 < (f_x p_a.toNatClampNeg).toInt := i_7
      have hP := g5_same hP hk1
      generalize H1 = H at hP hS ⊢
      refine lv_if_eq (tgt := 62) hx hb dX8_endOf_39 (by decide) (fun c_18 => ?_) (fun c_18 => ?_)
      ·
        refine lv_iload_n hx hb dX8_endOf_62 rfl (lv_at hl 0 rfl) ?_
        exact W.iret (v := (p_a + 1)) hx hb hr (fun t ht hW => ⟨⟨(p_a + 1), [(a_x, (arI G 400 f_x))], rfl, ⟨(p_a + 1), ⟨by omega, by omega⟩, rfl, rfl⟩, by rw [ht]; exact hP.sub [0] rfl, hD.sub [0] (by decide) rfl⟩, hS.F ht⟩) hS.2.2 dX8_endOf_63
      ·
        exact absurd c_18 (by decide)
  ·
    have n_5 : gNe (z3.toInt) (0) := by have z := g5_eqN (a := z3.toInt) (b := 0) (by rfl) (by decide) c_5; unfold gNe; omega
    have i_5 : z3.toInt ≥ 1 := by have z := g5_eqN (a := z3.toInt) (b := 0) (by rfl) (by decide) c_5; omega
    refine g5_loop (α := (Int32)) (fun (k_n : (Int32)) (ls : Array Slot) (H : Heap) (locs : List Loc) => lv_has ls 4 [(3, .int k_n), (0, .ref a_x), (1, .int p_a), (2, .int p_n)] ∧ va_P G.1 vwCl [(a_x, (arI G 400 f_x))] H ∧ va_D A [(a_x, (arI G 400 f_x))] ∧ va_S A s.heap H locs ∧ (0 ≤ k_n.toInt ∧ k_n.toInt ≤ 400) ∧ (p_a.toInt < k_n.toInt ∧ k_n.toInt ≤ p_n.toInt)) (fun (k_n : (Int32)) => Int.toNat (400 - k_n.toInt)) (p_a + 1) ⟨lv_sub hl [0, 1, 2, 3] rfl, hP, hD, hS, ⟨by omega, by omega⟩, ⟨by omega, by omega⟩⟩ ?_
    rintro k_n ls H locs ⟨hl, hP, hD, hS, i_19, i_20⟩ ih_13_21
    have hl : lv_has ls 4 [(3, .int k_n), (0, .ref a_x), (1, .int p_a), (2, .int p_n)] := hl
    have i_19 : 0 ≤ k_n.toInt ∧ k_n.toInt ≤ 400 := i_19
    have i_20 : p_a.toInt < k_n.toInt ∧ k_n.toInt ≤ p_n.toInt := i_20
    refine g5_rs [(a_x, (arI G 400 f_x))] hP hD (fun hP hD => ?_)
    refine lv_iload_n hx hb dX8_endOf_13 rfl (lv_at hl 0 rfl) ?_
    refine lv_iload_n hx hb dX8_endOf_14 rfl (lv_at hl 3 rfl) ?_
    refine lv_icmp_ge (tgt := 62) hx hb dX8_endOf_15 (by decide) (fun c_22 => ?_) (fun c_22 => ?_)
    ·
      have i_22 : k_n.toInt ≥ p_n.toInt := by have z := g5_ge (a := k_n.toInt) (b := p_n.toInt) (by rfl) (by rfl) c_22; omega
      refine lv_iload_n hx hb dX8_endOf_62 rfl (lv_at hl 0 rfl) ?_
      exact W.iret (v := k_n) hx hb hr (fun t ht hW => ⟨⟨k_n, [(a_x, (arI G 400 f_x))], rfl, ⟨k_n, ⟨by omega, by omega⟩, rfl, rfl⟩, by rw [ht]; exact hP.sub [0] rfl, hD.sub [0] (by decide) rfl⟩, hS.F ht⟩) hS.2.2 dX8_endOf_63
    ·
      have i_22 : k_n.toInt < p_n.toInt := by have z := g5_geN (a := k_n.toInt) (b := p_n.toInt) (by rfl) (by rfl) c_22; omega
      refine lv_aload_n hx hb dX8_endOf_18 rfl (lv_at hl 1 rfl) ?_
      refine lv_iload_n hx hb dX8_endOf_19 rfl (lv_at hl 0 rfl) ?_
      refine va_iald hx hb hK hP 0 0 rfl rfl (i := k_n) (vp_in_iff.mpr ⟨by omega, by omega⟩) dX8_endOf_20 ?_
      obtain ⟨hPc, hDc, hFc⟩ := g5_sub3 (wc := []) hP hD hS hA [] (by decide) rfl
      refine va_calli (va_runS (As := [.int (f_x k_n.toNatClampNeg)]) (rest := []) ⟨hx, hb, hml, hown, hts⟩ (k_letter l G H.size (f_x k_n.toNatClampNeg)) (va_cwS 1 hts gS_X8_35 rfl rfl rfl hs_X8_isLetter ⟨Nat.le_of_ble_eq_true rfl, Nat.le_of_ble_eq_true rfl⟩) (g5_preS hPc hK hDc hN hT hS hFc) rfl rfl hl.1 rfl (lv_room (Nat.le_of_ble_eq_true rfl)) dX8_endOf_21 ⟨Nat.le_of_ble_eq_true rfl, Nat.le_of_ble_eq_true rfl⟩) hS (fun q _ h => hFc q h) hFc (fun r u t H1 locs ht hvm hw hB hz1 hk1 hS => ?_)
      obtain ⟨hP1, hD1⟩ := hB
      rw [ht] at hP1
      obtain ⟨z24, i_23, y25, rfl⟩ := hw
      have i_23 : 0 ≤ z24.toInt ∧ z24.toInt ≤ 1 := i_23
      have hP := g5_same hP hk1
      generalize H1 = H at hP hS ⊢
      refine g5_ti (v := z24) y25 ?_
      refine lv_if_eq (tgt := 62) hx hb dX8_endOf_24 (by decide) (fun c_26 => ?_) (fun c_26 => ?_)
      ·
        have i_26 : z24.toInt = 0 := by have z := g5_eq (a := z24.toInt) (b := 0) (by rfl) (by decide) c_26; omega
        refine lv_iload_n hx hb dX8_endOf_62 rfl (lv_at hl 0 rfl) ?_
        exact W.iret (v := k_n) hx hb hr (fun t ht hW => ⟨⟨k_n, [(a_x, (arI G 400 f_x))], rfl, ⟨k_n, ⟨by omega, by omega⟩, rfl, rfl⟩, by rw [ht]; exact hP.sub [0] rfl, hD.sub [0] (by decide) rfl⟩, hS.F ht⟩) hS.2.2 dX8_endOf_63
      ·
        have n_26 : gNe (z24.toInt) (0) := by have z := g5_eqN (a := z24.toInt) (b := 0) (by rfl) (by decide) c_26; unfold gNe; omega
        have i_26 : z24.toInt ≥ 1 := by have z := g5_eqN (a := z24.toInt) (b := 0) (by rfl) (by decide) c_26; omega
        refine lv_iinc (v := (k_n + 1)) (lv' := [(3, .int (k_n + 1)), (0, .ref a_x), (1, .int p_a), (2, .int p_n)]) hx hb dX8_endOf_27 hl (k := 0) rfl rfl (by decide) rfl (fun ls hl => ?_)
        have t_27 : (k_n + 1).toInt = k_n.toInt + 1 := g5_iadd (a := k_n.toInt) (b := 1) rfl (by decide) (by omega) (by omega)
        refine lv_goto (tgt := 13) hx hb dX8_endOf_30 (by decide) ?_
        exact ih_13_21 (k_n + 1) ls H locs (show Int.toNat (400 - (k_n + 1).toInt) < Int.toNat (400 - k_n.toInt) from g_up (show k_n.toInt < (k_n + 1).toInt by omega) (show k_n.toInt < 400 by omega)) ⟨lv_sub hl [0, 1, 2, 3] rfl, hP, hD, hS, ⟨by omega, by omega⟩, ⟨by omega, by omega⟩⟩
theorem dgX8_numberIn_0 : ∀ r ∈ ([(0, (.iconst 0, 1)), (1, (.istore_n 3, 1)), (2, (.iload_n 1, 1)), (3, (.istore 4, 2)), (5, (.iload 4, 2)), (7, (.iload_n 2, 1)), (8, (.if_icmp .ge 29, 3)), (11, (.iload_n 3, 1)), (12, (.sipush 1000, 3)), (15, (.if_icmp .gt 22, 3)), (18, (.iload_n 3, 1)), (19, (.bipush 10, 2)), (21, (.imul, 1)), (22, (.aload_n 0, 1)), (23, (.iload 4, 2)), (25, (.iaload, 1)), (26, (.iadd, 1)), (27, (.bipush 48, 2)), (29, (.isub, 1)), (30, (.istore_n 3, 1)), (31, (.iinc 4 1, 3)), (34, (.goto (-29), 3)), (37, (.iload_n 3, 1)), (38, (.ireturn, 1))] : List (Nat × (Instr × Nat))), decode cX8_numberIn r.1 = .ok r.2 := by decide +kernel
theorem dX8_numberIn_0 : decode cX8_numberIn 0 = .ok (.iconst 0, 1) := dgX8_numberIn_0 (0, (.iconst 0, 1)) (List.mem_of_getElem? (i := 0) rfl)
theorem dX8_numberIn_1 : decode cX8_numberIn 1 = .ok (.istore_n 3, 1) := dgX8_numberIn_0 (1, (.istore_n 3, 1)) (List.mem_of_getElem? (i := 1) rfl)
theorem dX8_numberIn_2 : decode cX8_numberIn 2 = .ok (.iload_n 1, 1) := dgX8_numberIn_0 (2, (.iload_n 1, 1)) (List.mem_of_getElem? (i := 2) rfl)
theorem dX8_numberIn_3 : decode cX8_numberIn 3 = .ok (.istore 4, 2) := dgX8_numberIn_0 (3, (.istore 4, 2)) (List.mem_of_getElem? (i := 3) rfl)
theorem dX8_numberIn_5 : decode cX8_numberIn 5 = .ok (.iload 4, 2) := dgX8_numberIn_0 (5, (.iload 4, 2)) (List.mem_of_getElem? (i := 4) rfl)
theorem dX8_numberIn_7 : decode cX8_numberIn 7 = .ok (.iload_n 2, 1) := dgX8_numberIn_0 (7, (.iload_n 2, 1)) (List.mem_of_getElem? (i := 5) rfl)
theorem dX8_numberIn_8 : decode cX8_numberIn 8 = .ok (.if_icmp .ge 29, 3) := dgX8_numberIn_0 (8, (.if_icmp .ge 29, 3)) (List.mem_of_getElem? (i := 6) rfl)
theorem dX8_numberIn_11 : decode cX8_numberIn 11 = .ok (.iload_n 3, 1) := dgX8_numberIn_0 (11, (.iload_n 3, 1)) (List.mem_of_getElem? (i := 7) rfl)
theorem dX8_numberIn_12 : decode cX8_numberIn 12 = .ok (.sipush 1000, 3) := dgX8_numberIn_0 (12, (.sipush 1000, 3)) (List.mem_of_getElem? (i := 8) rfl)
theorem dX8_numberIn_15 : decode cX8_numberIn 15 = .ok (.if_icmp .gt 22, 3) := dgX8_numberIn_0 (15, (.if_icmp .gt 22, 3)) (List.mem_of_getElem? (i := 9) rfl)
theorem dX8_numberIn_18 : decode cX8_numberIn 18 = .ok (.iload_n 3, 1) := dgX8_numberIn_0 (18, (.iload_n 3, 1)) (List.mem_of_getElem? (i := 10) rfl)
theorem dX8_numberIn_19 : decode cX8_numberIn 19 = .ok (.bipush 10, 2) := dgX8_numberIn_0 (19, (.bipush 10, 2)) (List.mem_of_getElem? (i := 11) rfl)
theorem dX8_numberIn_21 : decode cX8_numberIn 21 = .ok (.imul, 1) := dgX8_numberIn_0 (21, (.imul, 1)) (List.mem_of_getElem? (i := 12) rfl)
theorem dX8_numberIn_22 : decode cX8_numberIn 22 = .ok (.aload_n 0, 1) := dgX8_numberIn_0 (22, (.aload_n 0, 1)) (List.mem_of_getElem? (i := 13) rfl)
theorem dX8_numberIn_23 : decode cX8_numberIn 23 = .ok (.iload 4, 2) := dgX8_numberIn_0 (23, (.iload 4, 2)) (List.mem_of_getElem? (i := 14) rfl)
theorem dX8_numberIn_25 : decode cX8_numberIn 25 = .ok (.iaload, 1) := dgX8_numberIn_0 (25, (.iaload, 1)) (List.mem_of_getElem? (i := 15) rfl)
theorem dX8_numberIn_26 : decode cX8_numberIn 26 = .ok (.iadd, 1) := dgX8_numberIn_0 (26, (.iadd, 1)) (List.mem_of_getElem? (i := 16) rfl)
theorem dX8_numberIn_27 : decode cX8_numberIn 27 = .ok (.bipush 48, 2) := dgX8_numberIn_0 (27, (.bipush 48, 2)) (List.mem_of_getElem? (i := 17) rfl)
theorem dX8_numberIn_29 : decode cX8_numberIn 29 = .ok (.isub, 1) := dgX8_numberIn_0 (29, (.isub, 1)) (List.mem_of_getElem? (i := 18) rfl)
theorem dX8_numberIn_30 : decode cX8_numberIn 30 = .ok (.istore_n 3, 1) := dgX8_numberIn_0 (30, (.istore_n 3, 1)) (List.mem_of_getElem? (i := 19) rfl)
theorem dX8_numberIn_31 : decode cX8_numberIn 31 = .ok (.iinc 4 1, 3) := dgX8_numberIn_0 (31, (.iinc 4 1, 3)) (List.mem_of_getElem? (i := 20) rfl)
theorem dX8_numberIn_34 : decode cX8_numberIn 34 = .ok (.goto (-29), 3) := dgX8_numberIn_0 (34, (.goto (-29), 3)) (List.mem_of_getElem? (i := 21) rfl)
theorem dX8_numberIn_37 : decode cX8_numberIn 37 = .ok (.iload_n 3, 1) := dgX8_numberIn_0 (37, (.iload_n 3, 1)) (List.mem_of_getElem? (i := 22) rfl)
theorem dX8_numberIn_38 : decode cX8_numberIn 38 = .ok (.ireturn, 1) := dgX8_numberIn_0 (38, (.ireturn, 1)) (List.mem_of_getElem? (i := 23) rfl)
set_option maxHeartbeats 4000000 in
set_option maxRecDepth 100000 in
theorem k_number (l : Launch) (G : g5_G) (a_x : Nat) (sz : Nat) (p_a : Int32) (p_t : Int32) (f_x : Nat → Int32) (h_p_a : 0 ≤ p_a.toInt ∧ p_a.toInt ≤ 400) (h_p_t : 0 ≤ p_t.toInt ∧ p_t.toInt ≤ 400) : Met l yX8_numberIn (wsG yX8_numberIn cX8_numberIn 5 (some .int)) ({ frames := 0, cells := 0, slots := 0, locals := 0 }) (va_Pc [.ref a_x, .int p_a, .int p_t] (g5_P G [(a_x, (arI G 400 f_x))] sz)) (va_Qi (fun (r : Int32) (u : va_W) => (∃ (o_r : Int32), (o_r = nmbO f_x p_a p_t 0) ∧ (r = o_r) ∧ (u = [(a_x, (arI G 400 f_x))]))) (g5_B G (va_A [(a_x, (arI G 400 f_x))] sz)) (va_A [(a_x, (arI G 400 f_x))] sz)) 0 0 (va_A [(a_x, (arI G 400 f_x))] sz) := by
  refine Met.ofW (cc := cX8_numberIn) (maxL := 5) (ret := (some .int)) (by decide) rfl ?_
  intro p e s m args below meth c s₁ B hml hv
  obtain ⟨rfl, hsz, hP, hK, hD0, hN, hT⟩ := hv
  have hx := B.exec
  have hb := B.bytes
  have hr := B.returns
  have hts : ∀ w ∈ tblG, w.before _ s = true := fun w h => atoms_spec (ws := (wsG yX8_numberIn cX8_numberIn 5 (some .int))) B.pre w (List.mem_cons_of_mem _ h)
  have hown : s.vm.findClass RX8 = some m.cls := findClass_of_methodNamed B.named
  have hlocks := B.notSynchronized
  subst hsz
  have hD := hD0.self (sz := s.heap.size)
  generalize hAe : va_A [(a_x, (arI G 400 f_x))] s.heap.size = A at hD hT ⊢
  have hA : ∀ q : Nat, s.heap.size ≤ q → A q := fun q h => by rw [← hAe]; exact Or.inr h
  have hS : va_S A s.heap s.heap [] := va_S.rf
  have hP : va_P G.1 vwCl [(a_x, (arI G 400 f_x))] s.heap := hP
  have hl := lv_entry ([.ref a_x, .int p_a, .int p_t]) (n := 5) (Nat.le_of_ble_eq_true rfl)
  rw [lg_entry_eq]
  generalize (lg_sl ([.ref a_x, .int p_a, .int p_t]) ++ List.replicate (5 - (lg_sl ([.ref a_x, .int p_a, .int p_t])).length) Slot.unset).toArray = ls at hl ⊢
  have hl : lv_has ls 5 [(0, .ref a_x), (1, .int p_a), (2, .int p_t)] := hl
  refine lv_iconst (v := 0) hx hb dX8_numberIn_0 (by decide) ?_
  refine lv_istore_n (lv' := [(3, .int 0), (0, .ref a_x), (1, .int p_a), (2, .int p_t)]) hx hb dX8_numberIn_1 rfl hl (by decide) rfl (fun ls hl => ?_)
  refine lv_iload_n hx hb dX8_numberIn_2 rfl (lv_at hl 2 rfl) ?_
  refine lv_istore (lv' := [(4, .int p_a), (3, .int 0), (0, .ref a_x), (1, .int p_a), (2, .int p_t)]) hx hb dX8_numberIn_3 hl (by decide) rfl (fun ls hl => ?_)
  refine g5_loop (α := (Int32) × (Int32)) (fun (q : (Int32) × (Int32)) (ls : Array Slot) (H : Heap) (locs : List Loc) => match q with | (k_n, k_a) => lv_has ls 5 [(3, .int k_n), (4, .int k_a), (0, .ref a_x), (1, .int p_a), (2, .int p_t)] ∧ va_P G.1 vwCl [(a_x, (arI G 400 f_x))] H ∧ va_D A [(a_x, (arI G 400 f_x))] ∧ va_S A s.heap H locs ∧ (0 ≤ k_a.toInt ∧ k_a.toInt ≤ 400) ∧ (nmbO f_x k_a p_t k_n = nmbO f_x p_a p_t 0)) (fun (q : (Int32) × (Int32)) => match q with | (k_n, k_a) => Int.toNat (400 - k_a.toInt)) (0, p_a) ⟨lv_sub hl [1, 0, 2, 3, 4] rfl, hP, hD, hS, h_p_a, rfl⟩ ?_
  rintro ⟨k_n, k_a⟩ ls H locs ⟨hl, hP, hD, hS, i_1, i_2⟩ ih_5_3
  have hl : lv_has ls 5 [(3, .int k_n), (4, .int k_a), (0, .ref a_x), (1, .int p_a), (2, .int p_t)] := hl
  have i_1 : 0 ≤ k_a.toInt ∧ k_a.toInt ≤ 400 := i_1
  have i_2 : nmbO f_x k_a p_t k_n = nmbO f_x p_a p_t 0 := i_2
  refine g5_rs [(a_x, (arI G 400 f_x))] hP hD (fun hP hD => ?_)
  refine lv_iload hx hb dX8_numberIn_5 (lv_at hl 1 rfl) ?_
  refine lv_iload_n hx hb dX8_numberIn_7 rfl (lv_at hl 4 rfl) ?_
  refine lv_icmp_ge (tgt := 37) hx hb dX8_numberIn_8 (by decide) (fun c_4 => ?_) (fun c_4 => ?_)
  ·
    have i_4 : k_a.toInt ≥ p_t.toInt := by have z := g5_ge (a := k_a.toInt) (b := p_t.toInt) (by rfl) (by rfl) c_4; omega
    refine lv_iload_n hx hb dX8_numberIn_37 rfl (lv_at hl 0 rfl) ?_
    exact W.iret (v := k_n) hx hb hr (fun t ht hW => ⟨⟨k_n, [(a_x, (arI G 400 f_x))], rfl, ⟨k_n, (nmb_end (by omega)).trans i_2, rfl, rfl⟩, by rw [ht]; exact hP.sub [0] rfl, hD.sub [0] (by decide) rfl⟩, hS.F ht⟩) hS.2.2 dX8_numberIn_38
  ·
    have i_4 : k_a.toInt < p_t.toInt := by have z := g5_geN (a := k_a.toInt) (b := p_t.toInt) (by rfl) (by rfl) c_4; omega
    refine lv_iload_n hx hb dX8_numberIn_11 rfl (lv_at hl 0 rfl) ?_
    refine lv_sipush (v := 1000) hx hb dX8_numberIn_12 (by decide) ?_
    refine lv_icmp_gt (tgt := 37) hx hb dX8_numberIn_15 (by decide) (fun c_5 => ?_) (fun c_5 => ?_)
    ·
      have i_5 : k_n.toInt > 1000 := by have z := g5_gt (a := k_n.toInt) (b := 1000) (by rfl) (by decide) c_5; omega
      refine lv_iload_n hx hb dX8_numberIn_37 rfl (lv_at hl 0 rfl) ?_
      exact W.iret (v := k_n) hx hb hr (fun t ht hW => ⟨⟨k_n, [(a_x, (arI G 400 f_x))], rfl, ⟨k_n, (nmb_over (by omega)).trans i_2, rfl, rfl⟩, by rw [ht]; exact hP.sub [0] rfl, hD.sub [0] (by decide) rfl⟩, hS.F ht⟩) hS.2.2 dX8_numberIn_38
    ·
      have i_5 : k_n.toInt ≤ 1000 := by have z := g5_gtN (a := k_n.toInt) (b := 1000) (by rfl) (by decide) c_5; omega
      refine lv_iload_n hx hb dX8_numberIn_18 rfl (lv_at hl 0 rfl) ?_
      refine lv_bipush (v := 10) hx hb dX8_numberIn_19 (by decide) ?_
      refine lv_imul hx hb dX8_numberIn_21 ?_
      refine lv_aload_n hx hb dX8_numberIn_22 rfl (lv_at hl 2 rfl) ?_
      refine lv_iload hx hb dX8_numberIn_23 (lv_at hl 1 rfl) ?_
      refine va_iald hx hb hK hP 0 0 rfl rfl (i := k_a) (vp_in_iff.mpr ⟨by omega, by omega⟩) dX8_numberIn_25 ?_
      refine lv_iadd hx hb dX8_numberIn_26 ?_
      refine lv_bipush (v := 48) hx hb dX8_numberIn_27 (by decide) ?_
      refine lv_isub hx hb dX8_numberIn_29 ?_
      refine lv_istore_n (lv' := [(3, .int (((k_n * 10) + (f_x k_a.toNatClampNeg)) - 48)), (4, .int k_a), (0, .ref a_x), (1, .int p_a), (2, .int p_t)]) hx hb dX8_numberIn_30 rfl hl (by decide) rfl (fun ls hl => ?_)
      refine lv_iinc (v := (k_a + 1)) (lv' := [(4, .int (k_a + 1)), (3, .int (((k_n * 10) + (f_x k_a.toNatClampNeg)) - 48)), (0, .ref a_x), (1, .int p_a), (2, .int p_t)]) hx hb dX8_numberIn_31 hl (k := 1) rfl rfl (by decide) rfl (fun ls hl => ?_)
      have t_6 : (k_a + 1).toInt = k_a.toInt + 1 := g5_iadd (a := k_a.toInt) (b := 1) rfl (by decide) (by omega) (by omega)
      refine lv_goto (tgt := 5) hx hb dX8_numberIn_34 (by decide) ?_
      exact ih_5_3 ((((k_n * 10) + (f_x k_a.toNatClampNeg)) - 48), (k_a + 1)) ls H locs (show Int.toNat (400 - (k_a + 1).toInt) < Int.toNat (400 - k_a.toInt) from g_up (show k_a.toInt < (k_a + 1).toInt by omega) (show k_a.toInt < 400 by omega)) ⟨lv_sub hl [1, 0, 2, 3, 4] rfl, hP, hD, hS, ⟨by omega, by omega⟩, (nmb_step (by omega) (by omega) (by omega) (by omega)).trans i_2⟩
theorem dgX8_wordIn_0 : ∀ r ∈ ([(0, (.iconst 0, 1)), (1, (.istore_n 3, 1)), (2, (.iload_n 1, 1)), (3, (.istore 4, 2)), (5, (.iconst 1, 1)), (6, (.istore 5, 2)), (8, (.iconst 0, 1)), (9, (.istore 6, 2)), (11, (.iload 6, 2)), (13, (.ldc 41, 2)), (15, (.invokevirtual 43, 3)), (18, (.if_icmp .ge 80, 3)), (21, (.ldc 41, 2)), (23, (.iload 6, 2)), (25, (.invokevirtual 49, 3)), (28, (.istore 7, 2)), (30, (.iload 7, 2)), (32, (.bipush 32, 2)), (34, (.if_icmp .eq 36, 3)), (37, (.iload 5, 2)), (39, (.ifCond .eq 22, 3)), (42, (.iload 4, 2)), (44, (.iload_n 2, 1)), (45, (.if_icmp .ge 16, 3)), (48, (.aload_n 0, 1)), (49, (.iload 4, 2)), (51, (.iaload, 1)), (52, (.iload 7, 2)), (54, (.if_icmp .ne 7, 3)), (57, (.iconst 1, 1)), (58, (.goto 4, 3)), (61, (.iconst 0, 1)), (62, (.istore 5, 2)), (64, (.iinc 4 1, 3)), (67, (.goto 25, 3)), (70, (.iload 5, 2)), (72, (.ifCond .eq 11, 3)), (75, (.iload 4, 2)), (77, (.iload_n 2, 1)), (78, (.if_icmp .ne 5, 3))] : List (Nat × (Instr × Nat))), decode cX8_wordIn r.1 = .ok r.2 := by decide +kernel
theorem dX8_wordIn_0 : decode cX8_wordIn 0 = .ok (.iconst 0, 1) := dgX8_wordIn_0 (0, (.iconst 0, 1)) (List.mem_of_getElem? (i := 0) rfl)
theorem dX8_wordIn_1 : decode cX8_wordIn 1 = .ok (.istore_n 3, 1) := dgX8_wordIn_0 (1, (.istore_n 3, 1)) (List.mem_of_getElem? (i := 1) rfl)
theorem dX8_wordIn_2 : decode cX8_wordIn 2 = .ok (.iload_n 1, 1) := dgX8_wordIn_0 (2, (.iload_n 1, 1)) (List.mem_of_getElem? (i := 2) rfl)
theorem dX8_wordIn_3 : decode cX8_wordIn 3 = .ok (.istore 4, 2) := dgX8_wordIn_0 (3, (.istore 4, 2)) (List.mem_of_getElem? (i := 3) rfl)
theorem dX8_wordIn_5 : decode cX8_wordIn 5 = .ok (.iconst 1, 1) := dgX8_wordIn_0 (5, (.iconst 1, 1)) (List.mem_of_getElem? (i := 4) rfl)
theorem dX8_wordIn_6 : decode cX8_wordIn 6 = .ok (.istore 5, 2) := dgX8_wordIn_0 (6, (.istore 5, 2)) (List.mem_of_getElem? (i := 5) rfl)
theorem dX8_wordIn_8 : decode cX8_wordIn 8 = .ok (.iconst 0, 1) := dgX8_wordIn_0 (8, (.iconst 0, 1)) (List.mem_of_getElem? (i := 6) rfl)
theorem dX8_wordIn_9 : decode cX8_wordIn 9 = .ok (.istore 6, 2) := dgX8_wordIn_0 (9, (.istore 6, 2)) (List.mem_of_getElem? (i := 7) rfl)
theorem dX8_wordIn_11 : decode cX8_wordIn 11 = .ok (.iload 6, 2) := dgX8_wordIn_0 (11, (.iload 6, 2)) (List.mem_of_getElem? (i := 8) rfl)
theorem dX8_wordIn_13 : decode cX8_wordIn 13 = .ok (.ldc 41, 2) := dgX8_wordIn_0 (13, (.ldc 41, 2)) (List.mem_of_getElem? (i := 9) rfl)
theorem dX8_wordIn_15 : decode cX8_wordIn 15 = .ok (.invokevirtual 43, 3) := dgX8_wordIn_0 (15, (.invokevirtual 43, 3)) (List.mem_of_getElem? (i := 10) rfl)
theorem dX8_wordIn_18 : decode cX8_wordIn 18 = .ok (.if_icmp .ge 80, 3) := dgX8_wordIn_0 (18, (.if_icmp .ge 80, 3)) (List.mem_of_getElem? (i := 11) rfl)
theorem dX8_wordIn_21 : decode cX8_wordIn 21 = .ok (.ldc 41, 2) := dgX8_wordIn_0 (21, (.ldc 41, 2)) (List.mem_of_getElem? (i := 12) rfl)
theorem dX8_wordIn_23 : decode cX8_wordIn 23 = .ok (.iload 6, 2) := dgX8_wordIn_0 (23, (.iload 6, 2)) (List.mem_of_getElem? (i := 13) rfl)
theorem dX8_wordIn_25 : decode cX8_wordIn 25 = .ok (.invokevirtual 49, 3) := dgX8_wordIn_0 (25, (.invokevirtual 49, 3)) (List.mem_of_getElem? (i := 14) rfl)
theorem dX8_wordIn_28 : decode cX8_wordIn 28 = .ok (.istore 7, 2) := dgX8_wordIn_0 (28, (.istore 7, 2)) (List.mem_of_getElem? (i := 15) rfl)
theorem dX8_wordIn_30 : decode cX8_wordIn 30 = .ok (.iload 7, 2) := dgX8_wordIn_0 (30, (.iload 7, 2)) (List.mem_of_getElem? (i := 16) rfl)
theorem dX8_wordIn_32 : decode cX8_wordIn 32 = .ok (.bipush 32, 2) := dgX8_wordIn_0 (32, (.bipush 32, 2)) (List.mem_of_getElem? (i := 17) rfl)
theorem dX8_wordIn_34 : decode cX8_wordIn 34 = .ok (.if_icmp .eq 36, 3) := dgX8_wordIn_0 (34, (.if_icmp .eq 36, 3)) (List.mem_of_getElem? (i := 18) rfl)
theorem dX8_wordIn_37 : decode cX8_wordIn 37 = .ok (.iload 5, 2) := dgX8_wordIn_0 (37, (.iload 5, 2)) (List.mem_of_getElem? (i := 19) rfl)
theorem dX8_wordIn_39 : decode cX8_wordIn 39 = .ok (.ifCond .eq 22, 3) := dgX8_wordIn_0 (39, (.ifCond .eq 22, 3)) (List.mem_of_getElem? (i := 20) rfl)
theorem dX8_wordIn_42 : decode cX8_wordIn 42 = .ok (.iload 4, 2) := dgX8_wordIn_0 (42, (.iload 4, 2)) (List.mem_of_getElem? (i := 21) rfl)
theorem dX8_wordIn_44 : decode cX8_wordIn 44 = .ok (.iload_n 2, 1) := dgX8_wordIn_0 (44, (.iload_n 2, 1)) (List.mem_of_getElem? (i := 22) rfl)
theorem dX8_wordIn_45 : decode cX8_wordIn 45 = .ok (.if_icmp .ge 16, 3) := dgX8_wordIn_0 (45, (.if_icmp .ge 16, 3)) (List.mem_of_getElem? (i := 23) rfl)
theorem dX8_wordIn_48 : decode cX8_wordIn 48 = .ok (.aload_n 0, 1) := dgX8_wordIn_0 (48, (.aload_n 0, 1)) (List.mem_of_getElem? (i := 24) rfl)
theorem dX8_wordIn_49 : decode cX8_wordIn 49 = .ok (.iload 4, 2) := dgX8_wordIn_0 (49, (.iload 4, 2)) (List.mem_of_getElem? (i := 25) rfl)
theorem dX8_wordIn_51 : decode cX8_wordIn 51 = .ok (.iaload, 1) := dgX8_wordIn_0 (51, (.iaload, 1)) (List.mem_of_getElem? (i := 26) rfl)
theorem dX8_wordIn_52 : decode cX8_wordIn 52 = .ok (.iload 7, 2) := dgX8_wordIn_0 (52, (.iload 7, 2)) (List.mem_of_getElem? (i := 27) rfl)
theorem dX8_wordIn_54 : decode cX8_wordIn 54 = .ok (.if_icmp .ne 7, 3) := dgX8_wordIn_0 (54, (.if_icmp .ne 7, 3)) (List.mem_of_getElem? (i := 28) rfl)
theorem dX8_wordIn_57 : decode cX8_wordIn 57 = .ok (.iconst 1, 1) := dgX8_wordIn_0 (57, (.iconst 1, 1)) (List.mem_of_getElem? (i := 29) rfl)
theorem dX8_wordIn_58 : decode cX8_wordIn 58 = .ok (.goto 4, 3) := dgX8_wordIn_0 (58, (.goto 4, 3)) (List.mem_of_getElem? (i := 30) rfl)
theorem dX8_wordIn_61 : decode cX8_wordIn 61 = .ok (.iconst 0, 1) := dgX8_wordIn_0 (61, (.iconst 0, 1)) (List.mem_of_getElem? (i := 31) rfl)
theorem dX8_wordIn_62 : decode cX8_wordIn 62 = .ok (.istore 5, 2) := dgX8_wordIn_0 (62, (.istore 5, 2)) (List.mem_of_getElem? (i := 32) rfl)
theorem dX8_wordIn_64 : decode cX8_wordIn 64 = .ok (.iinc 4 1, 3) := dgX8_wordIn_0 (64, (.iinc 4 1, 3)) (List.mem_of_getElem? (i := 33) rfl)
theorem dX8_wordIn_67 : decode cX8_wordIn 67 = .ok (.goto 25, 3) := dgX8_wordIn_0 (67, (.goto 25, 3)) (List.mem_of_getElem? (i := 34) rfl)
theorem dX8_wordIn_70 : decode cX8_wordIn 70 = .ok (.iload 5, 2) := dgX8_wordIn_0 (70, (.iload 5, 2)) (List.mem_of_getElem? (i := 35) rfl)
theorem dX8_wordIn_72 : decode cX8_wordIn 72 = .ok (.ifCond .eq 11, 3) := dgX8_wordIn_0 (72, (.ifCond .eq 11, 3)) (List.mem_of_getElem? (i := 36) rfl)
theorem dX8_wordIn_75 : decode cX8_wordIn 75 = .ok (.iload 4, 2) := dgX8_wordIn_0 (75, (.iload 4, 2)) (List.mem_of_getElem? (i := 37) rfl)
theorem dX8_wordIn_77 : decode cX8_wordIn 77 = .ok (.iload_n 2, 1) := dgX8_wordIn_0 (77, (.iload_n 2, 1)) (List.mem_of_getElem? (i := 38) rfl)
theorem dX8_wordIn_78 : decode cX8_wordIn 78 = .ok (.if_icmp .ne 5, 3) := dgX8_wordIn_0 (78, (.if_icmp .ne 5, 3)) (List.mem_of_getElem? (i := 39) rfl)
theorem dgX8_wordIn_1 : ∀ r ∈ ([(81, (.iload_n 3, 1)), (82, (.ireturn, 1)), (83, (.iinc 3 1, 3)), (86, (.iload_n 1, 1)), (87, (.istore 4, 2)), (89, (.iconst 1, 1)), (90, (.istore 5, 2)), (92, (.iinc 6 1, 3)), (95, (.goto (-84), 3)), (98, (.iconst (-1), 1)), (99, (.ireturn, 1))] : List (Nat × (Instr × Nat))), decode cX8_wordIn r.1 = .ok r.2 := by decide +kernel
theorem dX8_wordIn_81 : decode cX8_wordIn 81 = .ok (.iload_n 3, 1) := dgX8_wordIn_1 (81, (.iload_n 3, 1)) (List.mem_of_getElem? (i := 0) rfl)
theorem dX8_wordIn_82 : decode cX8_wordIn 82 = .ok (.ireturn, 1) := dgX8_wordIn_1 (82, (.ireturn, 1)) (List.mem_of_getElem? (i := 1) rfl)
theorem dX8_wordIn_83 : decode cX8_wordIn 83 = .ok (.iinc 3 1, 3) := dgX8_wordIn_1 (83, (.iinc 3 1, 3)) (List.mem_of_getElem? (i := 2) rfl)
theorem dX8_wordIn_86 : decode cX8_wordIn 86 = .ok (.iload_n 1, 1) := dgX8_wordIn_1 (86, (.iload_n 1, 1)) (List.mem_of_getElem? (i := 3) rfl)
theorem dX8_wordIn_87 : decode cX8_wordIn 87 = .ok (.istore 4, 2) := dgX8_wordIn_1 (87, (.istore 4, 2)) (List.mem_of_getElem? (i := 4) rfl)
theorem dX8_wordIn_89 : decode cX8_wordIn 89 = .ok (.iconst 1, 1) := dgX8_wordIn_1 (89, (.iconst 1, 1)) (List.mem_of_getElem? (i := 5) rfl)
theorem dX8_wordIn_90 : decode cX8_wordIn 90 = .ok (.istore 5, 2) := dgX8_wordIn_1 (90, (.istore 5, 2)) (List.mem_of_getElem? (i := 6) rfl)
theorem dX8_wordIn_92 : decode cX8_wordIn 92 = .ok (.iinc 6 1, 3) := dgX8_wordIn_1 (92, (.iinc 6 1, 3)) (List.mem_of_getElem? (i := 7) rfl)
theorem dX8_wordIn_95 : decode cX8_wordIn 95 = .ok (.goto (-84), 3) := dgX8_wordIn_1 (95, (.goto (-84), 3)) (List.mem_of_getElem? (i := 8) rfl)
theorem dX8_wordIn_98 : decode cX8_wordIn 98 = .ok (.iconst (-1), 1) := dgX8_wordIn_1 (98, (.iconst (-1), 1)) (List.mem_of_getElem? (i := 9) rfl)
theorem dX8_wordIn_99 : decode cX8_wordIn 99 = .ok (.ireturn, 1) := dgX8_wordIn_1 (99, (.ireturn, 1)) (List.mem_of_getElem? (i := 10) rfl)
theorem ml_X8_43 : Cond.methodLink RX8 43 yJ0_length_8abf5 ∈ tblG := tg 668 (by decide +kernel) (by decide +kernel)
theorem im_J0_length_8abf5 : Cond.instanceMethod yJ0_length_8abf5 ∈ tblG := tg 669 (by decide +kernel) (by decide +kernel)
theorem se_J0_length_8abf5 : Cond.selects RJ0 yJ0_length_8abf5 yJ0_length_8abf5 ∈ tblG := tg 670 (by decide +kernel) (by decide +kernel)
theorem cd_J0_length_8abf5 : Cond.code yJ0_length_8abf5 cJ0_length_8abf5 1 (some .int) ∈ tblG := tg 671 (by decide +kernel) (by decide +kernel)
theorem gW_J0_length_8abf5 : GoodIn tblG (wsG yJ0_length_8abf5 cJ0_length_8abf5 1 (some .int)) := tgi cd_J0_length_8abf5
theorem gV_X8_43 : GoodIn tblG (wsV RX8 43 RJ0 yJ0_length_8abf5 (wsG yJ0_length_8abf5 cJ0_length_8abf5 1 (some .int))) := tgV ml_X8_43 im_J0_length_8abf5 se_J0_length_8abf5 ini_J0 gW_J0_length_8abf5
theorem hv_J0_length_8abf5 : yJ0_length_8abf5.cls = RJ0 ∧ yJ0_length_8abf5.cls ≠ "java/lang/invoke/MethodHandle" ∧ yJ0_length_8abf5.cls ≠ "java/lang/invoke/VarHandle" ∧ (parseMethodDescriptor yJ0_length_8abf5.desc).map (fun d => d.parameters.length) = some 0 := by decide +kernel
theorem ml_X8_49 : Cond.methodLink RX8 49 yJ0_charAt_5068e ∈ tblG := tg 678 (by decide +kernel) (by decide +kernel)
theorem im_J0_charAt_5068e : Cond.instanceMethod yJ0_charAt_5068e ∈ tblG := tg 679 (by decide +kernel) (by decide +kernel)
theorem se_J0_charAt_5068e : Cond.selects RJ0 yJ0_charAt_5068e yJ0_charAt_5068e ∈ tblG := tg 680 (by decide +kernel) (by decide +kernel)
theorem cd_J0_charAt_5068e : Cond.code yJ0_charAt_5068e cJ0_charAt_5068e 2 (some .char) ∈ tblG := tg 681 (by decide +kernel) (by decide +kernel)
theorem gW_J0_charAt_5068e : GoodIn tblG (wsG yJ0_charAt_5068e cJ0_charAt_5068e 2 (some .char)) := tgi cd_J0_charAt_5068e
theorem gV_X8_49 : GoodIn tblG (wsV RX8 49 RJ0 yJ0_charAt_5068e (wsG yJ0_charAt_5068e cJ0_charAt_5068e 2 (some .char))) := tgV ml_X8_49 im_J0_charAt_5068e se_J0_charAt_5068e ini_J0 gW_J0_charAt_5068e
theorem hv_J0_charAt_5068e : yJ0_charAt_5068e.cls = RJ0 ∧ yJ0_charAt_5068e.cls ≠ "java/lang/invoke/MethodHandle" ∧ yJ0_charAt_5068e.cls ≠ "java/lang/invoke/VarHandle" ∧ (parseMethodDescriptor yJ0_charAt_5068e.desc).map (fun d => d.parameters.length) = some 1 := by decide +kernel
