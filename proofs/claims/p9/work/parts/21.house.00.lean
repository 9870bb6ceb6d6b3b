theorem dgX11_isOn_0 : ∀ r ∈ ([(0, (.lload_n 0, 1)), (1, (.iload_n 2, 1)), (2, (.lushr, 1)), (3, (.lconst 1, 1)), (4, (.land, 1)), (5, (.lconst 0, 1)), (6, (.lcmp, 1)), (7, (.ifCond .eq 7, 3)), (10, (.iconst 1, 1)), (11, (.goto 4, 3)), (14, (.iconst 0, 1)), (15, (.ireturn, 1))] : List (Nat × (Instr × Nat))), decode cX11_isOn r.1 = .ok r.2 := by decide +kernel
theorem dX11_isOn_0 : decode cX11_isOn 0 = .ok (.lload_n 0, 1) := dgX11_isOn_0 (0, (.lload_n 0, 1)) (List.mem_of_getElem? (i := 0) rfl)
theorem dX11_isOn_1 : decode cX11_isOn 1 = .ok (.iload_n 2, 1) := dgX11_isOn_0 (1, (.iload_n 2, 1)) (List.mem_of_getElem? (i := 1) rfl)
theorem dX11_isOn_2 : decode cX11_isOn 2 = .ok (.lushr, 1) := dgX11_isOn_0 (2, (.lushr, 1)) (List.mem_of_getElem? (i := 2) rfl)
theorem dX11_isOn_3 : decode cX11_isOn 3 = .ok (.lconst 1, 1) := dgX11_isOn_0 (3, (.lconst 1, 1)) (List.mem_of_getElem? (i := 3) rfl)
theorem dX11_isOn_4 : decode cX11_isOn 4 = .ok (.land, 1) := dgX11_isOn_0 (4, (.land, 1)) (List.mem_of_getElem? (i := 4) rfl)
theorem dX11_isOn_5 : decode cX11_isOn 5 = .ok (.lconst 0, 1) := dgX11_isOn_0 (5, (.lconst 0, 1)) (List.mem_of_getElem? (i := 5) rfl)
theorem dX11_isOn_6 : decode cX11_isOn 6 = .ok (.lcmp, 1) := dgX11_isOn_0 (6, (.lcmp, 1)) (List.mem_of_getElem? (i := 6) rfl)
theorem dX11_isOn_7 : decode cX11_isOn 7 = .ok (.ifCond .eq 7, 3) := dgX11_isOn_0 (7, (.ifCond .eq 7, 3)) (List.mem_of_getElem? (i := 7) rfl)
theorem dX11_isOn_10 : decode cX11_isOn 10 = .ok (.iconst 1, 1) := dgX11_isOn_0 (10, (.iconst 1, 1)) (List.mem_of_getElem? (i := 8) rfl)
theorem dX11_isOn_11 : decode cX11_isOn 11 = .ok (.goto 4, 3) := dgX11_isOn_0 (11, (.goto 4, 3)) (List.mem_of_getElem? (i := 9) rfl)
theorem dX11_isOn_14 : decode cX11_isOn 14 = .ok (.iconst 0, 1) := dgX11_isOn_0 (14, (.iconst 0, 1)) (List.mem_of_getElem? (i := 10) rfl)
theorem dX11_isOn_15 : decode cX11_isOn 15 = .ok (.ireturn, 1) := dgX11_isOn_0 (15, (.ireturn, 1)) (List.mem_of_getElem? (i := 11) rfl)
set_option maxHeartbeats 4000000 in
set_option maxRecDepth 100000 in
theorem k_isOn (l : Launch) (G : g5_G) (sz : Nat) (p_c : Int32) (p_b : Int64) (h_p_c : 0 ≤ p_c.toInt ∧ p_c.toInt ≤ 63) : Met l yX11_isOn (wsG yX11_isOn cX11_isOn 3 (some .boolean)) ({ frames := 0, cells := 0, slots := 0, locals := 0 }) (va_Pc [.long p_b, .int p_c] (g5_P G [] sz)) (va_Qi (fun (r : Int32) (u : va_W) => ((onB p_b p_c.toInt = false) ∧ (r = 0) ∧ (u = [])) ∨ ((onB p_b p_c.toInt = true) ∧ (r = 1) ∧ (u = []))) (g5_B G (va_A [] sz)) (va_A [] sz)) 0 0 (va_A [] sz) := by
  refine Met.ofW (cc := cX11_isOn) (maxL := 3) (ret := (some .boolean)) (by decide) rfl ?_
  intro p e s m args below meth c s₁ B hml hv
  obtain ⟨rfl, hsz, hP, hK, hD0, hN, hT⟩ := hv
  have hx := B.exec
  have hb := B.bytes
  have hr := B.returns
  have hts : ∀ w ∈ tblG, w.before _ s = true := fun w h => atoms_spec (ws := (wsG yX11_isOn cX11_isOn 3 (some .boolean))) B.pre w (List.mem_cons_of_mem _ h)
  have hown : s.vm.findClass RX11 = some m.cls := findClass_of_methodNamed B.named
  have hlocks := B.notSynchronized
  subst hsz
  have hD := hD0.self (sz := s.heap.size)
  generalize hAe : va_A [] s.heap.size = A at hD hT ⊢
  have hA : ∀ q : Nat, s.heap.size ≤ q → A q := fun q h => by rw [← hAe]; exact Or.inr h
  have hS : va_S A s.heap s.heap [] := va_S.rf
  have hP : va_P G.1 vwCl [] s.heap := hP
  have hl := lv_entry ([.long p_b, .int p_c]) (n := 3) (Nat.le_of_ble_eq_true rfl)
  rw [lg_entry_eq]
  generalize (lg_sl ([.long p_b, .int p_c]) ++ List.replicate (3 - (lg_sl ([.long p_b, .int p_c])).length) Slot.unset).toArray = ls at hl ⊢
  have hl : lv_has ls 3 [(0, .long p_b), (2, .int p_c)] := hl
  refine lv_lload_n hx hb dX11_isOn_0 rfl (lv_at hl 0 rfl) ?_
  refine lv_iload_n hx hb dX11_isOn_1 rfl (lv_at hl 1 rfl) ?_
  refine lv_lushr (v := ((p_b.toUInt64 >>> (p_c.toInt64.toUInt64 &&& Int64.toUInt64 63)).toInt64)) hx hb dX11_isOn_2 rfl ?_
  refine lv_lconst (v := 1) hx hb dX11_isOn_3 (by decide) ?_
  refine lv_land hx hb dX11_isOn_4 ?_
  refine lv_lconst (v := 0) hx hb dX11_isOn_5 (by decide) ?_
  refine W.lcmp hx hb dX11_isOn_6 ?_
  refine lv_if_eq (tgt := 14) hx hb dX11_isOn_7 (by decide) (fun c_1 => ?_) (fun c_1 => ?_)
  ·
    have i_1 : (lg_cmp (((p_b.toUInt64 >>> (p_c.toInt64.toUInt64 &&& Int64.toUInt64 63)).toInt64) &&& 1) 0).toInt = 0 := by have z := g5_eq (a := (lg_cmp (((p_b.toUInt64 >>> (p_c.toInt64.toUInt64 &&& Int64.toUInt64 63)).toInt64) &&& 1) 0).toInt) (b := 0) (by rfl) (by decide) c_1; omega
    refine lv_iconst (v := 0) hx hb dX11_isOn_14 (by decide) ?_
    exact W.zret (v := 0) hx hb hr rfl (fun t ht hW => ⟨⟨0, [], rfl, Or.inl (⟨g5_onF (by omega) (by omega) (by omega), rfl, rfl⟩), by rw [ht]; exact hP.sub [] rfl, hD.sub [] (by decide) rfl⟩, hS.F ht⟩) hS.2.2 dX11_isOn_15
  ·
    have n_1 : gNe ((lg_cmp (((p_b.toUInt64 >>> (p_c.toInt64.toUInt64 &&& Int64.toUInt64 63)).toInt64) &&& 1) 0).toInt) (0) := by have z := g5_eqN (a := (lg_cmp (((p_b.toUInt64 >>> (p_c.toInt64.toUInt64 &&& Int64.toUInt64 63)).toInt64) &&& 1) 0).toInt) (b := 0) (by rfl) (by decide) c_1; unfold gNe; omega
    refine lv_iconst (v := 1) hx hb dX11_isOn_10 (by decide) ?_
    refine lv_goto (tgt := 15) hx hb dX11_isOn_11 (by decide) ?_
    exact W.zret (v := 1) hx hb hr rfl (fun t ht hW => ⟨⟨1, [], rfl, Or.inr (⟨g5_onT (by omega) (by omega) n_1, rfl, rfl⟩), by rw [ht]; exact hP.sub [] rfl, hD.sub [] (by decide) rfl⟩, hS.F ht⟩) hS.2.2 dX11_isOn_15
theorem dgX1_isWalled_0 : ∀ r ∈ ([(0, (.iload_n 1, 1)), (1, (.iconst (-1), 1)), (2, (.if_icmp .eq 18, 3)), (5, (.aload_n 0, 1)), (6, (.getfield 9, 3)), (9, (.iload_n 1, 1)), (10, (.invokestatic 62, 3)), (13, (.ifCond .eq 7, 3)), (16, (.iconst 1, 1)), (17, (.goto 4, 3)), (20, (.iconst 0, 1)), (21, (.ireturn, 1))] : List (Nat × (Instr × Nat))), decode cX1_isWalled r.1 = .ok r.2 := by decide +kernel
theorem dX1_isWalled_0 : decode cX1_isWalled 0 = .ok (.iload_n 1, 1) := dgX1_isWalled_0 (0, (.iload_n 1, 1)) (List.mem_of_getElem? (i := 0) rfl)
theorem dX1_isWalled_1 : decode cX1_isWalled 1 = .ok (.iconst (-1), 1) := dgX1_isWalled_0 (1, (.iconst (-1), 1)) (List.mem_of_getElem? (i := 1) rfl)
theorem dX1_isWalled_2 : decode cX1_isWalled 2 = .ok (.if_icmp .eq 18, 3) := dgX1_isWalled_0 (2, (.if_icmp .eq 18, 3)) (List.mem_of_getElem? (i := 2) rfl)
theorem dX1_isWalled_5 : decode cX1_isWalled 5 = .ok (.aload_n 0, 1) := dgX1_isWalled_0 (5, (.aload_n 0, 1)) (List.mem_of_getElem? (i := 3) rfl)
theorem dX1_isWalled_6 : decode cX1_isWalled 6 = .ok (.getfield 9, 3) := dgX1_isWalled_0 (6, (.getfield 9, 3)) (List.mem_of_getElem? (i := 4) rfl)
theorem dX1_isWalled_9 : decode cX1_isWalled 9 = .ok (.iload_n 1, 1) := dgX1_isWalled_0 (9, (.iload_n 1, 1)) (List.mem_of_getElem? (i := 5) rfl)
theorem dX1_isWalled_10 : decode cX1_isWalled 10 = .ok (.invokestatic 62, 3) := dgX1_isWalled_0 (10, (.invokestatic 62, 3)) (List.mem_of_getElem? (i := 6) rfl)
theorem dX1_isWalled_13 : decode cX1_isWalled 13 = .ok (.ifCond .eq 7, 3) := dgX1_isWalled_0 (13, (.ifCond .eq 7, 3)) (List.mem_of_getElem? (i := 7) rfl)
theorem dX1_isWalled_16 : decode cX1_isWalled 16 = .ok (.iconst 1, 1) := dgX1_isWalled_0 (16, (.iconst 1, 1)) (List.mem_of_getElem? (i := 8) rfl)
theorem dX1_isWalled_17 : decode cX1_isWalled 17 = .ok (.goto 4, 3) := dgX1_isWalled_0 (17, (.goto 4, 3)) (List.mem_of_getElem? (i := 9) rfl)
theorem dX1_isWalled_20 : decode cX1_isWalled 20 = .ok (.iconst 0, 1) := dgX1_isWalled_0 (20, (.iconst 0, 1)) (List.mem_of_getElem? (i := 10) rfl)
theorem dX1_isWalled_21 : decode cX1_isWalled 21 = .ok (.ireturn, 1) := dgX1_isWalled_0 (21, (.ireturn, 1)) (List.mem_of_getElem? (i := 11) rfl)
theorem inG_X1 : ∀ w ∈ wsX10, w ∈ tblG := tgs [193, 195, 197, 199, 201, 203, 205, 207, 209, 211, 213, 215, 217] (by decide +kernel) (by decide +kernel)
theorem fl_X1_9 : Cond.fieldLink RX1 9 "LateGlass$House" "walls" "J" ∈ tblG := tg 153 (by decide +kernel) (by decide +kernel)
theorem cd_X11_isOn : Cond.code yX11_isOn cX11_isOn 3 (some .boolean) ∈ tblG := tg 516 (by decide +kernel) (by decide +kernel)
theorem gW_X11_isOn : GoodIn tblG (wsG yX11_isOn cX11_isOn 3 (some .boolean)) := tgi cd_X11_isOn
theorem ini_X11 : Cond.initialized RX11 ∈ tblG := tg 88 (by decide +kernel) (by decide +kernel)
theorem hs_X11_isOn : yX11_isOn.cls ≠ "java/lang/invoke/MethodHandle" ∧ yX11_isOn.cls ≠ "java/lang/invoke/VarHandle" ∧ (parseMethodDescriptor yX11_isOn.desc).map (fun d => d.parameters.length) = some 2 := by decide +kernel
theorem st_X11_isOn : Cond.static yX11_isOn ∈ tblG := tg 515 (by decide +kernel) (by decide +kernel)
set_option maxHeartbeats 4000000 in
set_option maxRecDepth 100000 in
theorem h_isWalled (l : Launch) (G : g5_G) (a_h a_l a_g a_b a_s a_p a_w a_bb : Nat) (sz : Nat) (e_le : Int32) (e_st : Int32) (e_fo : Int32) (e_lc : Int32) (p_c : Int32) (e_wa : Int64) (e_gb : Int64) (h_p_c : (-1) ≤ p_c.toInt ∧ p_c.toInt ≤ 63) : Met l yX1_isWalled (wsG yX1_isWalled cX1_isWalled 2 (some .boolean)) ({ frames := 1, cells := 0, slots := 0, locals := 22 }) (va_Pc [.ref a_h, .int p_c] (g5_P G [(a_h, (oc1 e_wa e_le e_st e_fo e_lc a_l a_g a_b a_s a_p a_w e_gb a_bb))] sz)) (va_Qi (fun (r : Int32) (u : va_W) => ((0 ≤ p_c.toInt ∧ onB e_wa p_c.toInt = true) ∧ (r = 1) ∧ (u = [(a_h, (oc1 e_wa e_le e_st e_fo e_lc a_l a_g a_b a_s a_p a_w e_gb a_bb))])) ∨ ((p_c.toInt = -1 ∨ onB e_wa p_c.toInt = false) ∧ (r = 0) ∧ (u = [(a_h, (oc1 e_wa e_le e_st e_fo e_lc a_l a_g a_b a_s a_p a_w e_gb a_bb))]))) (g5_B G (va_A [(a_h, (oc1 e_wa e_le e_st e_fo e_lc a_l a_g a_b a_s a_p a_w e_gb a_bb))] sz)) (va_A [(a_h, (oc1 e_wa e_le e_st e_fo e_lc a_l a_g a_b a_s a_p a_w e_gb a_bb))] sz)) 0 0 (va_A [(a_h, (oc1 e_wa e_le e_st e_fo e_lc a_l a_g a_b a_s a_p a_w e_gb a_bb))] sz) := by
  refine Met.ofW (cc := cX1_isWalled) (maxL := 2) (ret := (some .boolean)) (by decide) rfl ?_
  intro p e s m args below meth c s₁ B hml hv
  obtain ⟨rfl, hsz, hP, hK, hD0, hN, hT⟩ := hv
  have hx := B.exec
  have hb := B.bytes
  have hr := B.returns
  have hts : ∀ w ∈ tblG, w.before _ s = true := fun w h => atoms_spec (ws := (wsG yX1_isWalled cX1_isWalled 2 (some .boolean))) B.pre w (List.mem_cons_of_mem _ h)
  have hown : s.vm.findClass RX1 = some m.cls := findClass_of_methodNamed B.named
  have hlocks := B.notSynchronized
  subst hsz
  have hD := hD0.self (sz := s.heap.size)
  generalize hAe : va_A [(a_h, (oc1 e_wa e_le e_st e_fo e_lc a_l a_g a_b a_s a_p a_w e_gb a_bb))] s.heap.size = A at hD hT ⊢
  have hA : ∀ q : Nat, s.heap.size ≤ q → A q := fun q h => by rw [← hAe]; exact Or.inr h
  have hS : va_S A s.heap s.heap [] := va_S.rf
  have hP : va_P G.1 vwCl [(a_h, (oc1 e_wa e_le e_st e_fo e_lc a_l a_g a_b a_s a_p a_w e_gb a_bb))] s.heap := hP
  have hl := lv_entry ([.ref a_h, .int p_c]) (n := 2) (Nat.le_of_ble_eq_true rfl)
  rw [lg_entry_eq]
  generalize (lg_sl ([.ref a_h, .int p_c]) ++ List.replicate (2 - (lg_sl ([.ref a_h, .int p_c])).length) Slot.unset).toArray = ls at hl ⊢
  have hl : lv_has ls 2 [(0, .ref a_h), (1, .int p_c)] := hl
  refine lv_iload_n hx hb dX1_isWalled_0 rfl (lv_at hl 1 rfl) ?_
  refine lv_iconst (v := (-1)) hx hb dX1_isWalled_1 (by decide) ?_
  refine lv_icmp_eq (tgt := 20) hx hb dX1_isWalled_2 (by decide) (fun c_1 => ?_) (fun c_1 => ?_)
  ·
    have i_1 : p_c.toInt = (-1) := by have z := g5_eq (a := p_c.toInt) (b := (-1)) (by rfl) (by decide) c_1; omega
    refine lv_iconst (v := 0) hx hb dX1_isWalled_20 (by decide) ?_
    exact W.zret (v := 0) hx hb hr rfl (fun t ht hW => ⟨⟨0, [(a_h, (oc1 e_wa e_le e_st e_fo e_lc a_l a_g a_b a_s a_p a_w e_gb a_bb))], rfl, Or.inr (⟨Or.inl (by omega), rfl, rfl⟩), by rw [ht]; exact hP.sub [0] rfl, hD.sub [0] (by decide) rfl⟩, hS.F ht⟩) hS.2.2 dX1_isWalled_21
  ·
    have n_1 : gNe (p_c.toInt) ((-1)) := by have z := g5_eqN (a := p_c.toInt) (b := (-1)) (by rfl) (by decide) c_1; unfold gNe; omega
    have i_1 : p_c.toInt ≥ 0 := by have z := g5_eqN (a := p_c.toInt) (b := (-1)) (by rfl) (by decide) c_1; omega
    refine lv_aload_n hx hb dX1_isWalled_5 rfl (lv_at hl 0 rfl) ?_
    refine va_get (D := G.1) (ci := 1) (v := .long e_wa) (C := RX1) (T := TX1) (N := 13) hx hb hts inG_X1 hown hK hP 0 rfl rfl 0 (by decide) (hts _ fl_X1_9) (fun _ h9 => h9) rfl dX1_isWalled_6 ?_
    refine lv_iload_n hx hb dX1_isWalled_9 rfl (lv_at hl 1 rfl) ?_
    obtain ⟨hPc, hDc, hFc⟩ := g5_sub3 (wc := []) hP hD hS hA [] (by decide) rfl
    refine va_calli (va_runSN (As := [.long e_wa, .int p_c]) (rest := []) ⟨hx, hb, hml, hown, hts⟩ (k_isOn l G s.heap.size p_c e_wa ⟨by omega, by omega⟩) ⟨va_cnB 2 hts gW_X11_isOn rfl rfl rfl (hN.1 _ g5_nw_X1_62) (hts _ ini_X11) hs_X11_isOn ⟨Nat.le_of_ble_eq_true rfl, Nat.le_of_ble_eq_true rfl⟩, hts _ st_X11_isOn, trivial⟩ (g5_preS hPc hK hDc hN hT hS hFc) rfl rfl hl.1 rfl (lv_room (Nat.le_of_ble_eq_true rfl)) dX1_isWalled_10 ⟨Nat.le_of_ble_eq_true rfl, Nat.le_of_ble_eq_true rfl⟩) hS (fun q _ h => hFc q h) hFc (fun r u t H1 locs ht hvm hw hB hz1 hk1 hS => ?_)
    obtain ⟨hP1, hD1⟩ := hB
    rw [ht] at hP1
    rcases hw with ⟨i_2, rfl, rfl⟩ | ⟨i_3, rfl, rfl⟩
    ·
      have i_2 : onB e_wa p_c.toInt = false := i_2
      have hP := g5_same hP hk1
      generalize H1 = H at hP hS ⊢
      refine lv_if_eq (tgt := 20) hx hb dX1_isWalled_13 (by decide) (fun c_4 => ?_) (fun c_4 => ?_)
      ·
        refine lv_iconst (v := 0) hx hb dX1_isWalled_20 (by decide) ?_
        exact W.zret (v := 0) hx hb hr rfl (fun t ht hW => ⟨⟨0, [(a_h, (oc1 e_wa e_le e_st e_fo e_lc a_l a_g a_b a_s a_p a_w e_gb a_bb))], rfl, Or.inr (⟨Or.inr i_2, rfl, rfl⟩), by rw [ht]; exact hP.sub [0] rfl, hD.sub [0] (by decide) rfl⟩, hS.F ht⟩) hS.2.2 dX1_isWalled_21
      ·
        exact absurd c_4 (by decide)
    ·
      have i_3 : onB e_wa p_c.toInt = true := i_3
      have hP := g5_same hP hk1
      generalize H1 = H at hP hS ⊢
      refine lv_if_eq (tgt := 20) hx hb dX1_isWalled_13 (by decide) (fun c_5 => ?_) (fun c_5 => ?_)
      ·
        exact absurd c_5 (by decide)
      ·
        refine lv_iconst (v := 1) hx hb dX1_isWalled_16 (by decide) ?_
        refine lv_goto (tgt := 21) hx hb dX1_isWalled_17 (by decide) ?_
        exact W.zret (v := 1) hx hb hr rfl (fun t ht hW => ⟨⟨1, [(a_h, (oc1 e_wa e_le e_st e_fo e_lc a_l a_g a_b a_s a_p a_w e_gb a_bb))], rfl, Or.inl (⟨⟨by omega, i_3⟩, rfl, rfl⟩), by rw [ht]; exact hP.sub [0] rfl, hD.sub [0] (by decide) rfl⟩, hS.F ht⟩) hS.2.2 dX1_isWalled_21
theorem dgX1_canHang_0 : ∀ r ∈ ([(0, (.aload_n 0, 1)), (1, (.getfield 9, 3)), (4, (.aload_n 0, 1)), (5, (.getfield 55, 3)), (8, (.lor, 1)), (9, (.iload_n 1, 1)), (10, (.invokestatic 62, 3)), (13, (.ifCond .ne 20, 3)), (16, (.aload_n 0, 1)), (17, (.getfield 49, 3)), (20, (.iconst 0, 1)), (21, (.iload_n 1, 1)), (22, (.invokevirtual 66, 3)), (25, (.iconst (-1), 1)), (26, (.if_icmp .ne 7, 3)), (29, (.iconst 1, 1)), (30, (.goto 4, 3)), (33, (.iconst 0, 1)), (34, (.ireturn, 1))] : List (Nat × (Instr × Nat))), decode cX1_canHang r.1 = .ok r.2 := by decide +kernel
theorem dX1_canHang_0 : decode cX1_canHang 0 = .ok (.aload_n 0, 1) := dgX1_canHang_0 (0, (.aload_n 0, 1)) (List.mem_of_getElem? (i := 0) rfl)
theorem dX1_canHang_1 : decode cX1_canHang 1 = .ok (.getfield 9, 3) := dgX1_canHang_0 (1, (.getfield 9, 3)) (List.mem_of_getElem? (i := 1) rfl)
theorem dX1_canHang_4 : decode cX1_canHang 4 = .ok (.aload_n 0, 1) := dgX1_canHang_0 (4, (.aload_n 0, 1)) (List.mem_of_getElem? (i := 2) rfl)
theorem dX1_canHang_5 : decode cX1_canHang 5 = .ok (.getfield 55, 3) := dgX1_canHang_0 (5, (.getfield 55, 3)) (List.mem_of_getElem? (i := 3) rfl)
theorem dX1_canHang_8 : decode cX1_canHang 8 = .ok (.lor, 1) := dgX1_canHang_0 (8, (.lor, 1)) (List.mem_of_getElem? (i := 4) rfl)
theorem dX1_canHang_9 : decode cX1_canHang 9 = .ok (.iload_n 1, 1) := dgX1_canHang_0 (9, (.iload_n 1, 1)) (List.mem_of_getElem? (i := 5) rfl)
theorem dX1_canHang_10 : decode cX1_canHang 10 = .ok (.invokestatic 62, 3) := dgX1_canHang_0 (10, (.invokestatic 62, 3)) (List.mem_of_getElem? (i := 6) rfl)
theorem dX1_canHang_13 : decode cX1_canHang 13 = .ok (.ifCond .ne 20, 3) := dgX1_canHang_0 (13, (.ifCond .ne 20, 3)) (List.mem_of_getElem? (i := 7) rfl)
theorem dX1_canHang_16 : decode cX1_canHang 16 = .ok (.aload_n 0, 1) := dgX1_canHang_0 (16, (.aload_n 0, 1)) (List.mem_of_getElem? (i := 8) rfl)
theorem dX1_canHang_17 : decode cX1_canHang 17 = .ok (.getfield 49, 3) := dgX1_canHang_0 (17, (.getfield 49, 3)) (List.mem_of_getElem? (i := 9) rfl)
theorem dX1_canHang_20 : decode cX1_canHang 20 = .ok (.iconst 0, 1) := dgX1_canHang_0 (20, (.iconst 0, 1)) (List.mem_of_getElem? (i := 10) rfl)
theorem dX1_canHang_21 : decode cX1_canHang 21 = .ok (.iload_n 1, 1) := dgX1_canHang_0 (21, (.iload_n 1, 1)) (List.mem_of_getElem? (i := 11) rfl)
theorem dX1_canHang_22 : decode cX1_canHang 22 = .ok (.invokevirtual 66, 3) := dgX1_canHang_0 (22, (.invokevirtual 66, 3)) (List.mem_of_getElem? (i := 12) rfl)
theorem dX1_canHang_25 : decode cX1_canHang 25 = .ok (.iconst (-1), 1) := dgX1_canHang_0 (25, (.iconst (-1), 1)) (List.mem_of_getElem? (i := 13) rfl)
theorem dX1_canHang_26 : decode cX1_canHang 26 = .ok (.if_icmp .ne 7, 3) := dgX1_canHang_0 (26, (.if_icmp .ne 7, 3)) (List.mem_of_getElem? (i := 14) rfl)
theorem dX1_canHang_29 : decode cX1_canHang 29 = .ok (.iconst 1, 1) := dgX1_canHang_0 (29, (.iconst 1, 1)) (List.mem_of_getElem? (i := 15) rfl)
theorem dX1_canHang_30 : decode cX1_canHang 30 = .ok (.goto 4, 3) := dgX1_canHang_0 (30, (.goto 4, 3)) (List.mem_of_getElem? (i := 16) rfl)
theorem dX1_canHang_33 : decode cX1_canHang 33 = .ok (.iconst 0, 1) := dgX1_canHang_0 (33, (.iconst 0, 1)) (List.mem_of_getElem? (i := 17) rfl)
theorem dX1_canHang_34 : decode cX1_canHang 34 = .ok (.ireturn, 1) := dgX1_canHang_0 (34, (.ireturn, 1)) (List.mem_of_getElem? (i := 18) rfl)
theorem fl_X1_55 : Cond.fieldLink RX1 55 "LateGlass$House" "glassBoard" "J" ∈ tblG := tg 188 (by decide +kernel) (by decide +kernel)
theorem fl_X1_49 : Cond.fieldLink RX1 49 "LateGlass$House" "spots" "LLateGlass$Table;" ∈ tblG := tg 181 (by decide +kernel) (by decide +kernel)
theorem ml_X1_66 : Cond.methodLink RX1 66 yX6_find ∈ tblG := tg 517 (by decide +kernel) (by decide +kernel)
theorem im_X6_find : Cond.instanceMethod yX6_find ∈ tblG := tg 518 (by decide +kernel) (by decide +kernel)
theorem se_X6_find : Cond.selects RX6 yX6_find yX6_find ∈ tblG := tg 519 (by decide +kernel) (by decide +kernel)
theorem cd_X6_find : Cond.code yX6_find cX6_find 4 (some .int) ∈ tblG := tg 520 (by decide +kernel) (by decide +kernel)
theorem gW_X6_find : GoodIn tblG (wsG yX6_find cX6_find 4 (some .int)) := tgi cd_X6_find
theorem gV_X1_66 : GoodIn tblG (wsV RX1 66 RX6 yX6_find (wsG yX6_find cX6_find 4 (some .int))) := tgV ml_X1_66 im_X6_find se_X6_find ini_X6 gW_X6_find
theorem hv_X6_find : yX6_find.cls = RX6 ∧ yX6_find.cls ≠ "java/lang/invoke/MethodHandle" ∧ yX6_find.cls ≠ "java/lang/invoke/VarHandle" ∧ (parseMethodDescriptor yX6_find.desc).map (fun d => d.parameters.length) = some 2 := by decide +kernel
set_option maxHeartbeats 4000000 in
set_option maxRecDepth 100000 in
theorem h_canHang (l : Launch) (G : g5_G) (a_h a_p a_pn a_l a_g a_b a_s a_w a_bb : Nat) (sz : Nat) (e_le : Int32) (e_st : Int32) (e_fo : Int32) (e_lc : Int32) (e_p : Int32) (p_c : Int32) (e_wa : Int64) (e_gb : Int64) (f_p : Nat → Int32) (h_e_p : 0 ≤ e_p.toInt ∧ e_p.toInt ≤ 8) (h_p_c : 0 ≤ p_c.toInt ∧ p_c.toInt ≤ 63) : Met l yX1_canHang (wsG yX1_canHang cX1_canHang 2 (some .boolean)) ({ frames := 2, cells := 0, slots := 0, locals := 45 }) (va_Pc [.ref a_h, .int p_c] (g5_P G [(a_h, (oc1 e_wa e_le e_st e_fo e_lc a_l a_g a_b a_s a_p a_w e_gb a_bb)), (a_p, (oc6 8 5 a_pn e_p)), (a_pn, (arI G 40 f_p))] sz)) (va_Qi (fun (r : Int32) (u : va_W) => ((onB (e_wa ||| e_gb) p_c.toInt = false) ∧ (∀ r : Int, 0 ≤ r → r < e_p.toInt → tget f_p e_p.toInt 5 r (0 : Int32).toInt ≠ p_c) ∧ (r = 1) ∧ (u = [(a_h, (oc1 e_wa e_le e_st e_fo e_lc a_l a_g a_b a_s a_p a_w e_gb a_bb)), (a_p, (oc6 8 5 a_pn e_p)), (a_pn, (arI G 40 f_p))])) ∨ ((onB (e_wa ||| e_gb) p_c.toInt = true ∨ ∃ r : Int, 0 ≤ r ∧ r < e_p.toInt ∧ tget f_p e_p.toInt 5 r (0 : Int32).toInt = p_c) ∧ (r = 0) ∧ (u = [(a_h, (oc1 e_wa e_le e_st e_fo e_lc a_l a_g a_b a_s a_p a_w e_gb a_bb)), (a_p, (oc6 8 5 a_pn e_p)), (a_pn, (arI G 40 f_p))]))) (g5_B G (va_A [(a_h, (oc1 e_wa e_le e_st e_fo e_lc a_l a_g a_b a_s a_p a_w e_gb a_bb)), (a_p, (oc6 8 5 a_pn e_p)), (a_pn, (arI G 40 f_p))] sz)) (va_A [(a_h, (oc1 e_wa e_le e_st e_fo e_lc a_l a_g a_b a_s a_p a_w e_gb a_bb)), (a_p, (oc6 8 5 a_pn e_p)), (a_pn, (arI G 40 f_p))] sz)) 0 0 (va_A [(a_h, (oc1 e_wa e_le e_st e_fo e_lc a_l a_g a_b a_s a_p a_w e_gb a_bb)), (a_p, (oc6 8 5 a_pn e_p)), (a_pn, (arI G 40 f_p))] sz) := by
  refine Met.ofW (cc := cX1_canHang) (maxL := 2) (ret := (some .boolean)) (by decide) rfl ?_
  intro p e s m args below meth c s₁ B hml hv
  obtain ⟨rfl, hsz, hP, hK, hD0, hN, hT⟩ := hv
  have hx := B.exec
  have hb := B.bytes
  have hr := B.returns
  have hts : ∀ w ∈ tblG, w.before _ s = true := fun w h => atoms_spec (ws := (wsG yX1_canHang cX1_canHang 2 (some .boolean))) B.pre w (List.mem_cons_of_mem _ h)
  have hown : s.vm.findClass RX1 = some m.cls := findClass_of_methodNamed B.named
  have hlocks := B.notSynchronized
  subst hsz
  have hD := hD0.self (sz := s.heap.size)
  generalize hAe : va_A [(a_h, (oc1 e_wa e_le e_st e_fo e_lc a_l a_g a_b a_s a_p a_w e_gb a_bb)), (a_p, (oc6 8 5 a_pn e_p)), (a_pn, (arI G 40 f_p))] s.heap.size = A at hD hT ⊢
  have hA : ∀ q : Nat, s.heap.size ≤ q → A q := fun q h => by rw [← hAe]; exact Or.inr h
  have hS : va_S A s.heap s.heap [] := va_S.rf
  have hP : va_P G.1 vwCl [(a_h, (oc1 e_wa e_le e_st e_fo e_lc a_l a_g a_b a_s a_p a_w e_gb a_bb)), (a_p, (oc6 8 5 a_pn e_p)), (a_pn, (arI G 40 f_p))] s.heap := hP
  have hl := lv_entry ([.ref a_h, .int p_c]) (n := 2) (Nat.le_of_ble_eq_true rfl)
  rw [lg_entry_eq]
  generalize (lg_sl ([.ref a_h, .int p_c]) ++ List.replicate (2 - (lg_sl ([.ref a_h, .int p_c])).length) Slot.unset).toArray = ls at hl ⊢
  have hl : lv_has ls 2 [(0, .ref a_h), (1, .int p_c)] := hl
  refine lv_aload_n hx hb dX1_canHang_0 rfl (lv_at hl 0 rfl) ?_
  refine va_get (D := G.1) (ci := 1) (v := .long e_wa) (C := RX1) (T := TX1) (N := 13) hx hb hts inG_X1 hown hK hP 0 rfl rfl 0 (by decide) (hts _ fl_X1_9) (fun _ h9 => h9) rfl dX1_canHang_1 ?_
  refine lv_aload_n hx hb dX1_canHang_4 rfl (lv_at hl 0 rfl) ?_
  refine va_get (D := G.1) (ci := 1) (v := .long e_gb) (C := RX1) (T := TX1) (N := 13) hx hb hts inG_X1 hown hK hP 0 rfl rfl 11 (by decide) (hts _ fl_X1_55) (fun _ h9 => h9) rfl dX1_canHang_5 ?_
  refine lv_lor hx hb dX1_canHang_8 ?_
  refine lv_iload_n hx hb dX1_canHang_9 rfl (lv_at hl 1 rfl) ?_
  obtain ⟨hPc, hDc, hFc⟩ := g5_sub3 (wc := []) hP hD hS hA [] (by decide) rfl
  refine va_calli (va_runSN (As := [.long (e_wa ||| e_gb), .int p_c]) (rest := []) ⟨hx, hb, hml, hown, hts⟩ (k_isOn l G s.heap.size p_c (e_wa ||| e_gb) h_p_c) ⟨va_cnB 2 hts gW_X11_isOn rfl rfl rfl (hN.1 _ g5_nw_X1_62) (hts _ ini_X11) hs_X11_isOn ⟨Nat.le_of_ble_eq_true rfl, Nat.le_of_ble_eq_true rfl⟩, hts _ st_X11_isOn, trivial⟩ (g5_preS hPc hK hDc hN hT hS hFc) rfl rfl hl.1 rfl (lv_room (Nat.le_of_ble_eq_true rfl)) dX1_canHang_10 ⟨Nat.le_of_ble_eq_true rfl, Nat.le_of_ble_eq_true rfl⟩) hS (fun q _ h => hFc q h) hFc (fun r u t H1 locs ht hvm hw hB hz1 hk1 hS => ?_)
  obtain ⟨hP1, hD1⟩ := hB
  rw [ht] at hP1
  rcases hw with ⟨i_1, rfl, rfl⟩ | ⟨i_2, rfl, rfl⟩
  ·
    have i_1 : onB (e_wa ||| e_gb) p_c.toInt = false := i_1
    have hP := g5_same hP hk1
    generalize H1 = H at hP hS ⊢
    refine lv_if_ne (tgt := 33) hx hb dX1_canHang_13 (by decide) (fun c_3 => ?_) (fun c_3 => ?_)
    ·
      exact absurd c_3 (by decide)
    ·
      refine lv_aload_n hx hb dX1_canHang_16 rfl (lv_at hl 0 rfl) ?_
      refine va_get (D := G.1) (ci := 1) (v := .ref a_p) (C := RX1) (T := TX1) (N := 13) hx hb hts inG_X1 hown hK hP 0 rfl rfl 9 (by decide) (hts _ fl_X1_49) (fun _ h9 => h9) rfl dX1_canHang_17 ?_
      refine lv_iconst (v := 0) hx hb dX1_canHang_20 (by decide) ?_
      refine lv_iload_n hx hb dX1_canHang_21 rfl (lv_at hl 1 rfl) ?_
      obtain ⟨hPc, hDc, hFc⟩ := g5_sub3 (wc := [(a_p, (oc6 8 5 a_pn e_p)), (a_pn, (arI G 40 f_p))]) hP hD hS hA [1, 2] (by decide) rfl
      refine va_calli (va_runV (As := [.int 0, .int p_c]) (rest := []) ⟨hx, hb, hml, hown, hts⟩ (t_find_P l G a_p a_pn H.size e_p 0 p_c f_p h_e_p) (cwV 2 hts gV_X1_66 rfl rfl rfl hv_X6_find ⟨Nat.le_of_ble_eq_true rfl, Nat.le_of_ble_eq_true rfl⟩) (g5_preV hPc hK hDc hN hT hS hFc (ci := 6) (q0 := 0) rfl rfl) rfl rfl hl.1 rfl (lv_room (Nat.le_of_ble_eq_true rfl)) dX1_canHang_22 ⟨Nat.le_of_ble_eq_true rfl, Nat.le_of_ble_eq_true rfl⟩) hS (fun q _ h => hFc q h) hFc (fun r u t H1 locs ht hvm hw hB hz1 hk1 hS => ?_)
      obtain ⟨hP1, hD1⟩ := hB
      rw [ht] at hP1
      rcases hw with ⟨i_4, rfl, rfl⟩ | ⟨z7, i_5, i_6, y8, rfl⟩
      ·
        have i_4 : ∀ r : Int, 0 ≤ r → r < e_p.toInt → tget f_p e_p.toInt 5 r (0 : Int32).toInt ≠ p_c := i_4
        obtain ⟨hP, hD⟩ := va_join (wr := [(a_h, (oc1 e_wa e_le e_st e_fo e_lc a_l a_g a_b a_s a_p a_w e_gb a_bb))]) hP hD [1, 2] [0] rfl rfl (by decide) (by decide) hk1 hFc hP1 hD1
        generalize H1 = H at hP hS ⊢
        refine g5_rs [(a_h, (oc1 e_wa e_le e_st e_fo e_lc a_l a_g a_b a_s a_p a_w e_gb a_bb)), (a_p, (oc6 8 5 a_pn e_p)), (a_pn, (arI G 40 f_p))] hP hD (fun hP hD => ?_)
        refine lv_iconst (v := (-1)) hx hb dX1_canHang_25 (by decide) ?_
        refine lv_icmp_ne (tgt := 33) hx hb dX1_canHang_26 (by decide) (fun c_9 => ?_) (fun c_9 => ?_)
        ·
          exact absurd c_9 (by decide)
        ·
          refine lv_iconst (v := 1) hx hb dX1_canHang_29 (by decide) ?_
          refine lv_goto (tgt := 34) hx hb dX1_canHang_30 (by decide) ?_
          exact W.zret (v := 1) hx hb hr rfl (fun t ht hW => ⟨⟨1, [(a_h, (oc1 e_wa e_le e_st e_fo e_lc a_l a_g a_b a_s a_p a_w e_gb a_bb)), (a_p, (oc6 8 5 a_pn e_p)), (a_pn, (arI G 40 f_p))], rfl, Or.inl (⟨i_1, i_4, rfl, rfl⟩), by rw [ht]; exact hP.sub [0, 1, 2] rfl, hD.sub [0, 1, 2] (by decide) rfl⟩, hS.F ht⟩) hS.2.2 dX1_canHang_34
      ·
        have i_5 : 0 ≤ z7.toInt ∧ z7.toInt < e_p.toInt := i_5
        have i_6 : tget f_p e_p.toInt 5 z7.toInt (0 : Int32).toInt = p_c := i_6
        obtain ⟨hP, hD⟩ := va_join (wr := [(a_h, (oc1 e_wa e_le e_st e_fo e_lc a_l a_g a_b a_s a_p a_w e_gb a_bb))]) hP hD [1, 2] [0] rfl rfl (by decide) (by decide) hk1 hFc hP1 hD1
        generalize H1 = H at hP hS ⊢
        refine g5_rs [(a_h, (oc1 e_wa e_le e_st e_fo e_lc a_l a_g a_b a_s a_p a_w e_gb a_bb)), (a_p, (oc6 8 5 a_pn e_p)), (a_pn, (arI G 40 f_p))] hP hD (fun hP hD => ?_)
        refine g5_ti (v := z7) y8 ?_
        refine lv_iconst (v := (-1)) hx hb dX1_canHang_25 (by decide) ?_
        refine lv_icmp_ne (tgt := 33) hx hb dX1_canHang_26 (by decide) (fun c_10 => ?_) (fun c_10 => ?_)
        ·
          have n_10 : gNe (z7.toInt) ((-1)) := by have z := g5_ne (a := z7.toInt) (b := (-1)) (by rfl) (by decide) c_10; unfold gNe; omega
          refine lv_iconst (v := 0) hx hb dX1_canHang_33 (by decide) ?_
          exact W.zret (v := 0) hx hb hr rfl (fun t ht hW => ⟨⟨0, [(a_h, (oc1 e_wa e_le e_st e_fo e_lc a_l a_g a_b a_s a_p a_w e_gb a_bb)), (a_p, (oc6 8 5 a_pn e_p)), (a_pn, (arI G 40 f_p))], rfl, Or.inr (⟨Or.inr ⟨z7.toInt, i_5.1, i_5.2, i_6⟩, rfl, rfl⟩), by rw [ht]; exact hP.sub [0, 1, 2] rfl, hD.sub [0, 1, 2] (by decide) rfl⟩, hS.F ht⟩) hS.2.2 dX1_canHang_34
        ·
          have i_10 : z7.toInt = (-1) := by have z := g5_neN (a := z7.toInt) (b := (-1)) (by rfl) (by decide) c_10; omega
          omega
  ·
    have i_2 : onB (e_wa ||| e_gb) p_c.toInt = true := i_2
    have hP := g5_same hP hk1
    generalize H1 = H at hP hS ⊢
    refine lv_if_ne (tgt := 33) hx hb dX1_canHang_13 (by decide) (fun c_11 => ?_) (fun c_11 => ?_)
    ·
      refine lv_iconst (v := 0) hx hb dX1_canHang_33 (by decide) ?_
      exact W.zret (v := 0) hx hb hr rfl (fun t ht hW => ⟨⟨0, [(a_h, (oc1 e_wa e_le e_st e_fo e_lc a_l a_g a_b a_s a_p a_w e_gb a_bb)), (a_p, (oc6 8 5 a_pn e_p)), (a_pn, (arI G 40 f_p))], rfl, Or.inr (⟨Or.inl i_2, rfl, rfl⟩), by rw [ht]; exact hP.sub [0, 1, 2] rfl, hD.sub [0, 1, 2] (by decide) rfl⟩, hS.F ht⟩) hS.2.2 dX1_canHang_34
    ·
      exact absurd c_11 (by decide)
theorem dgX1_isTaken_0 : ∀ r ∈ ([(0, (.iconst 0, 1)), (1, (.istore_n 2, 1)), (2, (.iload_n 2, 1)), (3, (.bipush 24, 2)), (5, (.if_icmp .ge 24, 3)), (8, (.aload_n 0, 1)), (9, (.getfield 58, 3)), (12, (.iload_n 2, 1)), (13, (.laload, 1)), (14, (.iload_n 1, 1)), (15, (.invokestatic 62, 3)), (18, (.ifCond .eq 5, 3)), (21, (.iconst 1, 1)), (22, (.ireturn, 1)), (23, (.iinc 2 1, 3)), (26, (.goto (-24), 3)), (29, (.aload_n 0, 1)), (30, (.getfield 55, 3)), (33, (.iload_n 1, 1)), (34, (.invokestatic 62, 3)), (37, (.ifCond .ne 24, 3)), (40, (.aload_n 0, 1)), (41, (.getfield 49, 3)), (44, (.iconst 0, 1)), (45, (.iload_n 1, 1)), (46, (.invokevirtual 66, 3)), (49, (.iconst (-1), 1)), (50, (.if_icmp .ne 11, 3)), (53, (.aload_n 0, 1)), (54, (.getfield 19, 3)), (57, (.iload_n 1, 1)), (58, (.if_icmp .ne 7, 3)), (61, (.iconst 1, 1)), (62, (.goto 4, 3)), (65, (.iconst 0, 1)), (66, (.ireturn, 1))] : List (Nat × (Instr × Nat))), decode cX1_isTaken r.1 = .ok r.2 := by decide +kernel
theorem dX1_isTaken_0 : decode cX1_isTaken 0 = .ok (.iconst 0, 1) := dgX1_isTaken_0 (0, (.iconst 0, 1)) (List.mem_of_getElem? (i := 0) rfl)
theorem dX1_isTaken_1 : decode cX1_isTaken 1 = .ok (.istore_n 2, 1) := dgX1_isTaken_0 (1, (.istore_n 2, 1)) (List.mem_of_getElem? (i := 1) rfl)
theorem dX1_isTaken_2 : decode cX1_isTaken 2 = .ok (.iload_n 2, 1) := dgX1_isTaken_0 (2, (.iload_n 2, 1)) (List.mem_of_getElem? (i := 2) rfl)
theorem dX1_isTaken_3 : decode cX1_isTaken 3 = .ok (.bipush 24, 2) := dgX1_isTaken_0 (3, (.bipush 24, 2)) (List.mem_of_getElem? (i := 3) rfl)
theorem dX1_isTaken_5 : decode cX1_isTaken 5 = .ok (.if_icmp .ge 24, 3) := dgX1_isTaken_0 (5, (.if_icmp .ge 24, 3)) (List.mem_of_getElem? (i := 4) rfl)
theorem dX1_isTaken_8 : decode cX1_isTaken 8 = .ok (.aload_n 0, 1) := dgX1_isTaken_0 (8, (.aload_n 0, 1)) (List.mem_of_getElem? (i := 5) rfl)
theorem dX1_isTaken_9 : decode cX1_isTaken 9 = .ok (.getfield 58, 3) := dgX1_isTaken_0 (9, (.getfield 58, 3)) (List.mem_of_getElem? (i := 6) rfl)
theorem dX1_isTaken_12 : decode cX1_isTaken 12 = .ok (.iload_n 2, 1) := dgX1_isTaken_0 (12, (.iload_n 2, 1)) (List.mem_of_getElem? (i := 7) rfl)
theorem dX1_isTaken_13 : decode cX1_isTaken 13 = .ok (.laload, 1) := dgX1_isTaken_0 (13, (.laload, 1)) (List.mem_of_getElem? (i := 8) rfl)
theorem dX1_isTaken_14 : decode cX1_isTaken 14 = .ok (.iload_n 1, 1) := dgX1_isTaken_0 (14, (.iload_n 1, 1)) (List.mem_of_getElem? (i := 9) rfl)
theorem dX1_isTaken_15 : decode cX1_isTaken 15 = .ok (.invokestatic 62, 3) := dgX1_isTaken_0 (15, (.invokestatic 62, 3)) (List.mem_of_getElem? (i := 10) rfl)
theorem dX1_isTaken_18 : decode cX1_isTaken 18 = .ok (.ifCond .eq 5, 3) := dgX1_isTaken_0 (18, (.ifCond .eq 5, 3)) (List.mem_of_getElem? (i := 11) rfl)
theorem dX1_isTaken_21 : decode cX1_isTaken 21 = .ok (.iconst 1, 1) := dgX1_isTaken_0 (21, (.iconst 1, 1)) (List.mem_of_getElem? (i := 12) rfl)
theorem dX1_isTaken_22 : decode cX1_isTaken 22 = .ok (.ireturn, 1) := dgX1_isTaken_0 (22, (.ireturn, 1)) (List.mem_of_getElem? (i := 13) rfl)
theorem dX1_isTaken_23 : decode cX1_isTaken 23 = .ok (.iinc 2 1, 3) := dgX1_isTaken_0 (23, (.iinc 2 1, 3)) (List.mem_of_getElem? (i := 14) rfl)
theorem dX1_isTaken_26 : decode cX1_isTaken 26 = .ok (.goto (-24), 3) := dgX1_isTaken_0 (26, (.goto (-24), 3)) (List.mem_of_getElem? (i := 15) rfl)
theorem dX1_isTaken_29 : decode cX1_isTaken 29 = .ok (.aload_n 0, 1) := dgX1_isTaken_0 (29, (.aload_n 0, 1)) (List.mem_of_getElem? (i := 16) rfl)
theorem dX1_isTaken_30 : decode cX1_isTaken 30 = .ok (.getfield 55, 3) := dgX1_isTaken_0 (30, (.getfield 55, 3)) (List.mem_of_getElem? (i := 17) rfl)
theorem dX1_isTaken_33 : decode cX1_isTaken 33 = .ok (.iload_n 1, 1) := dgX1_isTaken_0 (33, (.iload_n 1, 1)) (List.mem_of_getElem? (i := 18) rfl)
theorem dX1_isTaken_34 : decode cX1_isTaken 34 = .ok (.invokestatic 62, 3) := dgX1_isTaken_0 (34, (.invokestatic 62, 3)) (List.mem_of_getElem? (i := 19) rfl)
theorem dX1_isTaken_37 : decode cX1_isTaken 37 = .ok (.ifCond .ne 24, 3) := dgX1_isTaken_0 (37, (.ifCond .ne 24, 3)) (List.mem_of_getElem? (i := 20) rfl)
theorem dX1_isTaken_40 : decode cX1_isTaken 40 = .ok (.aload_n 0, 1) := dgX1_isTaken_0 (40, (.aload_n 0, 1)) (List.mem_of_getElem? (i := 21) rfl)
theorem dX1_isTaken_41 : decode cX1_isTaken 41 = .ok (.getfield 49, 3) := dgX1_isTaken_0 (41, (.getfield 49, 3)) (List.mem_of_getElem? (i := 22) rfl)
theorem dX1_isTaken_44 : decode cX1_isTaken 44 = .ok (.iconst 0, 1) := dgX1_isTaken_0 (44, (.iconst 0, 1)) (List.mem_of_getElem? (i := 23) rfl)
theorem dX1_isTaken_45 : decode cX1_isTaken 45 = .ok (.iload_n 1, 1) := dgX1_isTaken_0 (45, (.iload_n 1, 1)) (List.mem_of_getElem? (i := 24) rfl)
theorem dX1_isTaken_46 : decode cX1_isTaken 46 = .ok (.invokevirtual 66, 3) := dgX1_isTaken_0 (46, (.invokevirtual 66, 3)) (List.mem_of_getElem? (i := 25) rfl)
theorem dX1_isTaken_49 : decode cX1_isTaken 49 = .ok (.iconst (-1), 1) := dgX1_isTaken_0 (49, (.iconst (-1), 1)) (List.mem_of_getElem? (i := 26) rfl)
theorem dX1_isTaken_50 : decode cX1_isTaken 50 = .ok (.if_icmp .ne 11, 3) := dgX1_isTaken_0 (50, (.if_icmp .ne 11, 3)) (List.mem_of_getElem? (i := 27) rfl)
theorem dX1_isTaken_53 : decode cX1_isTaken 53 = .ok (.aload_n 0, 1) := dgX1_isTaken_0 (53, (.aload_n 0, 1)) (List.mem_of_getElem? (i := 28) rfl)
theorem dX1_isTaken_54 : decode cX1_isTaken 54 = .ok (.getfield 19, 3) := dgX1_isTaken_0 (54, (.getfield 19, 3)) (List.mem_of_getElem? (i := 29) rfl)
theorem dX1_isTaken_57 : decode cX1_isTaken 57 = .ok (.iload_n 1, 1) := dgX1_isTaken_0 (57, (.iload_n 1, 1)) (List.mem_of_getElem? (i := 30) rfl)
theorem dX1_isTaken_58 : decode cX1_isTaken 58 = .ok (.if_icmp .ne 7, 3) := dgX1_isTaken_0 (58, (.if_icmp .ne 7, 3)) (List.mem_of_getElem? (i := 31) rfl)
theorem dX1_isTaken_61 : decode cX1_isTaken 61 = .ok (.iconst 1, 1) := dgX1_isTaken_0 (61, (.iconst 1, 1)) (List.mem_of_getElem? (i := 32) rfl)
theorem dX1_isTaken_62 : decode cX1_isTaken 62 = .ok (.goto 4, 3) := dgX1_isTaken_0 (62, (.goto 4, 3)) (List.mem_of_getElem? (i := 33) rfl)
theorem dX1_isTaken_65 : decode cX1_isTaken 65 = .ok (.iconst 0, 1) := dgX1_isTaken_0 (65, (.iconst 0, 1)) (List.mem_of_getElem? (i := 34) rfl)
theorem dX1_isTaken_66 : decode cX1_isTaken 66 = .ok (.ireturn, 1) := dgX1_isTaken_0 (66, (.ireturn, 1)) (List.mem_of_getElem? (i := 35) rfl)
theorem fl_X1_19 : Cond.fieldLink RX1 19 "LateGlass$House" "start" "I" ∈ tblG := tg 161 (by decide +kernel) (by decide +kernel)
theorem fl_X1_58 : Cond.fieldLink RX1 58 "LateGlass$House" "bodyBoards" "[J" ∈ tblG := tg 191 (by decide +kernel) (by decide +kernel)
set_option maxHeartbeats 4000000 in
set_option maxRecDepth 100000 in
theorem h_isTaken (l : Launch) (G : g5_G) (a_h a_p a_pn a_bb a_l a_g a_b a_s a_w : Nat) (sz : Nat) (e_le : Int32) (e_st : Int32) (e_fo : Int32) (e_lc : Int32) (e_p : Int32) (p_c : Int32) (e_wa : Int64) (e_gb : Int64) (f_p : Nat → Int32) (f_bb : Nat → Int64) (h_e_p : 0 ≤ e_p.toInt ∧ e_p.toInt ≤ 8) (h_p_c : 0 ≤ p_c.toInt ∧ p_c.toInt ≤ 63) : Met l yX1_isTaken (wsG yX1_isTaken cX1_isTaken 3 (some .boolean)) ({ frames := 2, cells := 0, slots := 0, locals := 45 }) (va_Pc [.ref a_h, .int p_c] (g5_P G [(a_h, (oc1 e_wa e_le e_st e_fo e_lc a_l a_g a_b a_s a_p a_w e_gb a_bb)), (a_p, (oc6 8 5 a_pn e_p)), (a_pn, (arI G 40 f_p)), (a_bb, (arJ G 24 f_bb))] sz)) (va_Qi (fun (r : Int32) (u : va_W) => (((∃ h : Nat, h < 24 ∧ onB (f_bb h) p_c.toInt = true) ∨ onB e_gb p_c.toInt = true ∨ (∃ r : Int, 0 ≤ r ∧ r < e_p.toInt ∧ tget f_p e_p.toInt 5 r (0 : Int32).toInt = p_c) ∨ e_st = p_c) ∧ (r = 1) ∧ (u = [(a_h, (oc1 e_wa e_le e_st e_fo e_lc a_l a_g a_b a_s a_p a_w e_gb a_bb)), (a_p, (oc6 8 5 a_pn e_p)), (a_pn, (arI G 40 f_p)), (a_bb, (arJ G 24 f_bb))])) ∨ (((∀ h : Nat, h < 24 → onB (f_bb h) p_c.toInt = false) ∧ onB e_gb p_c.toInt = false ∧ (∀ r : Int, 0 ≤ r → r < e_p.toInt → tget f_p e_p.toInt 5 r (0 : Int32).toInt ≠ p_c) ∧ e_st ≠ p_c) ∧ (r = 0) ∧ (u = [(a_h, (oc1 e_wa e_le e_st e_fo e_lc a_l a_g a_b a_s a_p a_w e_gb a_bb)), (a_p, (oc6 8 5 a_pn e_p)), (a_pn, (arI G 40 f_p)), (a_bb, (arJ G 24 f_bb))]))) (g5_B G (va_A [(a_h, (oc1 e_wa e_le e_st e_fo e_lc a_l a_g a_b a_s a_p a_w e_gb a_bb)), (a_p, (oc6 8 5 a_pn e_p)), (a_pn, (arI G 40 f_p)), (a_bb, (arJ G 24 f_bb))] sz)) (va_A [(a_h, (oc1 e_wa e_le e_st e_fo e_lc a_l a_g a_b a_s a_p a_w e_gb a_bb)), (a_p, (oc6 8 5 a_pn e_p)), (a_pn, (arI G 40 f_p)), (a_bb, (arJ G 24 f_bb))] sz)) 0 0 (va_A [(a_h, (oc1 e_wa e_le e_st e_fo e_lc a_l a_g a_b a_s a_p a_w e_gb a_bb)), (a_p, (oc6 8 5 a_pn e_p)), (a_pn, (arI G 40 f_p)), (a_bb, (arJ G 24 f_bb))] sz) := by
  refine Met.ofW (cc := cX1_isTaken) (maxL := 3) (ret := (some .boolean)) (by decide) rfl ?_
  intro p e s m args below meth c s₁ B hml hv
  obtain ⟨rfl, hsz, hP, hK, hD0, hN, hT⟩ := hv
  have hx := B.exec
  have hb := B.bytes
  have hr := B.returns
  have hts : ∀ w ∈ tblG, w.before _ s = true := fun w h => atoms_spec (ws := (wsG yX1_isTaken cX1_isTaken 3 (some .boolean))) B.pre w (List.mem_cons_of_mem _ h)
  have hown : s.vm.findClass RX1 = some m.cls := findClass_of_methodNamed B.named
  have hlocks := B.notSynchronized
  subst hsz
  have hD := hD0.self (sz := s.heap.size)
  generalize hAe : va_A [(a_h, (oc1 e_wa e_le e_st e_fo e_lc a_l a_g a_b a_s a_p a_w e_gb a_bb)), (a_p, (oc6 8 5 a_pn e_p)), (a_pn, (arI G 40 f_p)), (a_bb, (arJ G 24 f_bb))] s.heap.size = A at hD hT ⊢
  have hA : ∀ q : Nat, s.heap.size ≤ q → A q := fun q h => by rw [← hAe]; exact Or.inr h
  have hS : va_S A s.heap s.heap [] := va_S.rf
  have hP : va_P G.1 vwCl [(a_h, (oc1 e_wa e_le e_st e_fo e_lc a_l a_g a_b a_s a_p a_w e_gb a_bb)), (a_p, (oc6 8 5 a_pn e_p)), (a_pn, (arI G 40 f_p)), (a_bb, (arJ G 24 f_bb))] s.heap := hP
  have hl := lv_entry ([.ref a_h, .int p_c]) (n := 3) (Nat.le_of_ble_eq_true rfl)
  rw [lg_entry_eq]
  generalize (lg_sl ([.ref a_h, .int p_c]) ++ List.replicate (3 - (lg_sl ([.ref a_h, .int p_c])).length) Slot.unset).toArray = ls at hl ⊢
  have hl : lv_has ls 3 [(0, .ref a_h), (1, .int p_c)] := hl
  refine lv_iconst (v := 0) hx hb dX1_isTaken_0 (by decide) ?_
  refine lv_istore_n (lv' := [(2, .int 0), (0, .ref a_h), (1, .int p_c)]) hx hb dX1_isTaken_1 rfl hl (by decide) rfl (fun ls hl => ?_)
  refine g5_loop (α := (Int32)) (fun (k_h : (Int32)) (ls : Array Slot) (H : Heap) (locs : List Loc) => lv_has ls 3 [(2, .int k_h), (0, .ref a_h), (1, .int p_c)] ∧ va_P G.1 vwCl [(a_h, (oc1 e_wa e_le e_st e_fo e_lc a_l a_g a_b a_s a_p a_w e_gb a_bb)), (a_p, (oc6 8 5 a_pn e_p)), (a_pn, (arI G 40 f_p)), (a_bb, (arJ G 24 f_bb))] H ∧ va_D A [(a_h, (oc1 e_wa e_le e_st e_fo e_lc a_l a_g a_b a_s a_p a_w e_gb a_bb)), (a_p, (oc6 8 5 a_pn e_p)), (a_pn, (arI G 40 f_p)), (a_bb, (arJ G 24 f_bb))] ∧ va_S A s.heap H locs ∧ (0 ≤ k_h.toInt ∧ k_h.toInt ≤ 24) ∧ (∀ h : Nat, (h : Int) < k_h.toInt → onB (f_bb h) p_c.toInt = false)) (fun (k_h : (Int32)) => Int.toNat (24 - k_h.toInt)) 0 ⟨lv_sub hl [0, 1, 2] rfl, hP, hD, hS, ⟨by decide, by decide⟩, fun h hh => absurd hh (by have z : (0 : Int32).toInt = 0 := (by decide); omega)⟩ ?_
  rintro k_h ls H locs ⟨hl, hP, hD, hS, i_1, i_2⟩ ih_2_3
  have hl : lv_has ls 3 [(2, .int k_h), (0, .ref a_h), (1, .int p_c)] := hl
  have i_1 : 0 ≤ k_h.toInt ∧ k_h.toInt ≤ 24 := i_1
  have i_2 : ∀ h : Nat, (h : Int) < k_h.toInt → onB (f_bb h) p_c.toInt = false := i_2
  refine g5_rs [(a_h, (oc1 e_wa e_le e_st e_fo e_lc a_l a_g a_b a_s a_p a_w e_gb a_bb)), (a_p, (oc6 8 5 a_pn e_p)), (a_pn, (arI G 40 f_p)), (a_bb, (arJ G 24 f_bb))] hP hD (fun hP hD => ?_)
  refine lv_iload_n hx hb dX1_isTaken_2 rfl (lv_at hl 0 rfl) ?_
  refine lv_bipush (v := 24) hx hb dX1_isTaken_3 (by decide) ?_
  refine lv_icmp_ge (tgt := 29) hx hb dX1_isTaken_5 (by decide) (fun c_4 => ?_) (fun c_4 => ?_)
  ·
    have i_4 : k_h.toInt ≥ 24 := by have z := g5_ge (a := k_h.toInt) (b := 24) (by rfl) (by decide) c_4; omega
    refine lv_aload_n hx hb dX1_isTaken_29 rfl (lv_at hl 1 rfl) ?_
    refine va_get (D := G.1) (ci := 1) (v := .long e_gb) (C := RX1) (T := TX1) (N := 13) hx hb hts inG_X1 hown hK hP 0 rfl rfl 11 (by decide) (hts _ fl_X1_55) (fun _ h9 => h9) rfl dX1_isTaken_30 ?_
    refine lv_iload_n hx hb dX1_isTaken_33 rfl (lv_at hl 2 rfl) ?_
    obtain ⟨hPc, hDc, hFc⟩ := g5_sub3 (wc := []) hP hD hS hA [] (by decide) rfl
    refine va_calli (va_runSN (As := [.long e_gb, .int p_c]) (rest := []) ⟨hx, hb, hml, hown, hts⟩ (k_isOn l G H.size p_c e_gb h_p_c) ⟨va_cnB 2 hts gW_X11_isOn rfl rfl rfl (hN.1 _ g5_nw_X1_62) (hts _ ini_X11) hs_X11_isOn ⟨Nat.le_of_ble_eq_true rfl, Nat.le_of_ble_eq_true rfl⟩, hts _ st_X11_isOn, trivial⟩ (g5_preS hPc hK hDc hN hT hS hFc) rfl rfl hl.1 rfl (lv_room (Nat.le_of_ble_eq_true rfl)) dX1_isTaken_34 ⟨Nat.le_of_ble_eq_true rfl, Nat.le_of_ble_eq_true rfl⟩) hS (fun q _ h => hFc q h) hFc (fun r u t H1 locs ht hvm hw hB hz1 hk1 hS => ?_)
    obtain ⟨hP1, hD1⟩ := hB
    rw [ht] at hP1
    rcases hw with ⟨i_5, rfl, rfl⟩ | ⟨i_6, rfl, rfl⟩
    ·
      have i_5 : onB e_gb p_c.toInt = false := i_5
      have hP := g5_same hP hk1
      generalize H1 = H at hP hS ⊢
      refine lv_if_ne (tgt := 61) hx hb dX1_isTaken_37 (by decide) (fun c_7 => ?_) (fun c_7 => ?_)
      ·
        exact absurd c_7 (by decide)
      ·
        refine lv_aload_n hx hb dX1_isTaken_40 rfl (lv_at hl 1 rfl) ?_
        refine va_get (D := G.1) (ci := 1) (v := .ref a_p) (C := RX1) (T := TX1) (N := 13) hx hb hts inG_X1 hown hK hP 0 rfl rfl 9 (by decide) (hts _ fl_X1_49) (fun _ h9 => h9) rfl dX1_isTaken_41 ?_
        refine lv_iconst (v := 0) hx hb dX1_isTaken_44 (by decide) ?_
        refine lv_iload_n hx hb dX1_isTaken_45 rfl (lv_at hl 2 rfl) ?_
        obtain ⟨hPc, hDc, hFc⟩ := g5_sub3 (wc := [(a_p, (oc6 8 5 a_pn e_p)), (a_pn, (arI G 40 f_p))]) hP hD hS hA [1, 2] (by decide) rfl
        refine va_calli (va_runV (As := [.int 0, .int p_c]) (rest := []) ⟨hx, hb, hml, hown, hts⟩ (t_find_P l G a_p a_pn H.size e_p 0 p_c f_p h_e_p) (cwV 2 hts gV_X1_66 rfl rfl rfl hv_X6_find ⟨Nat.le_of_ble_eq_true rfl, Nat.le_of_ble_eq_true rfl⟩) (g5_preV hPc hK hDc hN hT hS hFc (ci := 6) (q0 := 0) rfl rfl) rfl rfl hl.1 rfl (lv_room (Nat.le_of_ble_eq_true rfl)) dX1_isTaken_46 ⟨Nat.le_of_ble_eq_true rfl, Nat.le_of_ble_eq_true rfl⟩) hS (fun q _ h => hFc q h) hFc (fun r u t H1 locs ht hvm hw hB hz1 hk1 hS => ?_)
        obtain ⟨hP1, hD1⟩ := hB
        rw [ht] at hP1
        rcases hw with ⟨i_8, rfl, rfl⟩ | ⟨z11, i_9, i_10, y12, rfl⟩
        ·
          have i_8 : ∀ r : Int, 0 ≤ r → r < e_p.toInt → tget f_p e_p.toInt 5 r (0 : Int32).toInt ≠ p_c := i_8
          obtain ⟨hP, hD⟩ := va_join (wr := [(a_h, (oc1 e_wa e_le e_st e_fo e_lc a_l a_g a_b a_s a_p a_w e_gb a_bb)), (a_bb, (arJ G 24 f_bb))]) hP hD [1, 2] [0, 3] rfl rfl (by decide) (by decide) hk1 hFc hP1 hD1
          generalize H1 = H at hP hS ⊢
          refine g5_rs [(a_h, (oc1 e_wa e_le e_st e_fo e_lc a_l a_g a_b a_s a_p a_w e_gb a_bb)), (a_bb, (arJ G 24 f_bb)), (a_p, (oc6 8 5 a_pn e_p)), (a_pn, (arI G 40 f_p))] hP hD (fun hP hD => ?_)
          refine lv_iconst (v := (-1)) hx hb dX1_isTaken_49 (by decide) ?_
          refine lv_icmp_ne (tgt := 61) hx hb dX1_isTaken_50 (by decide) (fun c_13 => ?_) (fun c_13 => ?_)
          ·
            exact absurd c_13 (by decide)
          ·
            refine lv_aload_n hx hb dX1_isTaken_53 rfl (lv_at hl 1 rfl) ?_
            refine va_get (D := G.1) (ci := 1) (v := .int e_st) (C := RX1) (T := TX1) (N := 13) hx hb hts inG_X1 hown hK hP 0 rfl rfl 2 (by decide) (hts _ fl_X1_19) (fun _ h9 => h9) rfl dX1_isTaken_54 ?_
            refine lv_iload_n hx hb dX1_isTaken_57 rfl (lv_at hl 2 rfl) ?_
            refine lv_icmp_ne (tgt := 65) hx hb dX1_isTaken_58 (by decide) (fun c_14 => ?_) (fun c_14 => ?_)
            ·
              have n_14 : gNe (e_st.toInt) (p_c.toInt) := by have z := g5_ne (a := e_st.toInt) (b := p_c.toInt) (by rfl) (by rfl) c_14; unfold gNe; omega
              refine lv_iconst (v := 0) hx hb dX1_isTaken_65 (by decide) ?_
              exact W.zret (v := 0) hx hb hr rfl (fun t ht hW => ⟨⟨0, [(a_h, (oc1 e_wa e_le e_st e_fo e_lc a_l a_g a_b a_s a_p a_w e_gb a_bb)), (a_p, (oc6 8 5 a_pn e_p)), (a_pn, (arI G 40 f_p)), (a_bb, (arJ G 24 f_bb))], rfl, Or.inr (⟨⟨fun h hh => i_2 h (by omega), i_5, i_8, fun q => absurd (congrArg Int32.toInt q) n_14⟩, rfl, rfl⟩), by rw [ht]; exact hP.sub [0, 2, 3, 1] rfl, hD.sub [0, 2, 3, 1] (by decide) rfl⟩, hS.F ht⟩) hS.2.2 dX1_isTaken_66
            ·
              have i_14 : e_st.toInt = p_c.toInt := by have z := g5_neN (a := e_st.toInt) (b := p_c.toInt) (by rfl) (by rfl) c_14; omega
              refine lv_iconst (v := 1) hx hb dX1_isTaken_61 (by decide) ?_
              refine lv_goto (tgt := 66) hx hb dX1_isTaken_62 (by decide) ?_
              exact W.zret (v := 1) hx hb hr rfl (fun t ht hW => ⟨⟨1, [(a_h, (oc1 e_wa e_le e_st e_fo e_lc a_l a_g a_b a_s a_p a_w e_gb a_bb)), (a_p, (oc6 8 5 a_pn e_p)), (a_pn, (arI G 40 f_p)), (a_bb, (arJ G 24 f_bb))], rfl, Or.inl (⟨Or.inr (Or.inr (Or.inr (Int32.toInt_inj.mp (by omega)))), rfl, rfl⟩), by rw [ht]; exact hP.sub [0, 2, 3, 1] rfl, hD.sub [0, 2, 3, 1] (by decide) rfl⟩, hS.F ht⟩) hS.2.2 dX1_isTaken_66
        ·
          have i_9 : 0 ≤ z11.toInt ∧ z11.toInt < e_p.toInt := i_9
          have i_10 : tget f_p e_p.toInt 5 z11.toInt (0 : Int32).toInt = p_c := i_10
          obtain ⟨hP, hD⟩ := va_join (wr := [(a_h, (oc1 e_wa e_le e_st e_fo e_lc a_l a_g a_b a_s a_p a_w e_gb a_bb)), (a_bb, (arJ G 24 f_bb))]) hP hD [1, 2] [0, 3] rfl rfl (by decide) (by decide) hk1 hFc hP1 hD1
          generalize H1 = H at hP hS ⊢
          refine g5_rs [(a_h, (oc1 e_wa e_le e_st e_fo e_lc a_l a_g a_b a_s a_p a_w e_gb a_bb)), (a_bb, (arJ G 24 f_bb)), (a_p, (oc6 8 5 a_pn e_p)), (a_pn, (arI G 40 f_p))] hP hD (fun hP hD => ?_)
          refine g5_ti (v := z11) y12 ?_
          refine lv_iconst (v := (-1)) hx hb dX1_isTaken_49 (by decide) ?_
          refine lv_icmp_ne (tgt := 61) hx hb dX1_isTaken_50 (by decide) (fun c_15 => ?_) (fun c_15 => ?_)
          ·
            have n_15 : gNe (z11.toInt) ((-1)) := by have z := g5_ne (a := z11.toInt) (b := (-1)) (by rfl) (by decide) c_15; unfold gNe; omega
            refine lv_iconst (v := 1) hx hb dX1_isTaken_61 (by decide) ?_
            refine lv_goto (tgt := 66) hx hb dX1_isTaken_62 (by decide) ?_
            exact W.zret (v := 1) hx hb hr rfl (fun t ht hW => ⟨⟨1, [(a_h, (oc1 e_wa e_le e_st e_fo e_lc a_l a_g a_b a_s a_p a_w e_gb a_bb)), (a_p, (oc6 8 5 a_pn e_p)), (a_pn, (arI G 40 f_p)), (a_bb, (arJ G 24 f_bb))], rfl, Or.inl (⟨Or.inr (Or.inr (Or.inl ⟨z11.toInt, i_9.1, i_9.2, i_10⟩)), rfl, rfl⟩), by rw [ht]; exact hP.sub [0, 2, 3, 1] rfl, hD.sub [0, 2, 3, 1] (by decide) rfl⟩, hS.F ht⟩) hS.2.2 dX1_isTaken_66
          ·
            have i_15 : z11.toInt = (-1) := by have z := g5_neN (a := z11.toInt) (b := (-1)) (by rfl) (by decide) c_15; omega
            omega
    ·
      have i_6 : onB e_gb p_c.toInt = true := i_6
      have hP := g5_same hP hk1
      generalize H1 = H at hP hS ⊢
      refine lv_if_ne (tgt := 61) hx hb dX1_isTaken_37 (by decide) (fun c_16 => ?_) (fun c_16 => ?_)
      ·
        refine lv_iconst (v := 1) hx hb dX1_isTaken_61 (by decide) ?_
        refine lv_goto (tgt := 66) hx hb dX1_isTaken_62 (by decide) ?_
        exact W.zret (v := 1) hx hb hr rfl (fun t ht hW => ⟨⟨1, [(a_h, (oc1 e_wa e_le e_st e_fo e_lc a_l a_g a_b a_s a_p a_w e_gb a_bb)), (a_p, (oc6 8 5 a_pn e_p)), (a_pn, (arI G 40 f_p)), (a_bb, (arJ G 24 f_bb))], rfl, Or.inl (⟨Or.inr (Or.inl i_6), rfl, rfl⟩), by rw [ht]; exact hP.sub [0, 1, 2, 3] rfl, hD.sub [0, 1, 2, 3] (by decide) rfl⟩, hS.F ht⟩) hS.2.2 dX1_isTaken_66
      ·
        exact absurd c_16 (by decide)
  ·
    have i_4 : k_h.toInt < 24 := by have z := g5_geN (a := k_h.toInt) (b := 24) (by rfl) (by decide) c_4; omega
    refine lv_aload_n hx hb dX1_isTaken_8 rfl (lv_at hl 1 rfl) ?_
    refine va_get (D := G.1) (ci := 1) (v := .ref a_bb) (C := RX1) (T := TX1) (N := 13) hx hb hts inG_X1 hown hK hP 0 rfl rfl 12 (by decide) (hts _ fl_X1_58) (fun _ h9 => h9) rfl dX1_isTaken_9 ?_
    refine lv_iload_n hx hb dX1_isTaken_12 rfl (lv_at hl 0 rfl) ?_
    refine va_lald hx hb hK hP 3 1 rfl rfl (i := k_h) (vp_in_iff.mpr ⟨by omega, by omega⟩) dX1_isTaken_13 ?_
    refine lv_iload_n hx hb dX1_isTaken_14 rfl (lv_at hl 2 rfl) ?_
    obtain ⟨hPc, hDc, hFc⟩ := g5_sub3 (wc := []) hP hD hS hA [] (by decide) rfl
    refine va_calli (va_runSN (As := [.long (f_bb k_h.toNatClampNeg), .int p_c]) (rest := []) ⟨hx, hb, hml, hown, hts⟩ (k_isOn l G H.size p_c (f_bb k_h.toNatClampNeg) h_p_c) ⟨va_cnB 2 hts gW_X11_isOn rfl rfl rfl (hN.1 _ g5_nw_X1_62) (hts _ ini_X11) hs_X11_isOn ⟨Nat.le_of_ble_eq_true rfl, Nat.le_of_ble_eq_true rfl⟩, hts _ st_X11_isOn, trivial⟩ (g5_preS hPc hK hDc hN hT hS hFc) rfl rfl hl.1 rfl (lv_room (Nat.le_of_ble_eq_true rfl)) dX1_isTaken_15 ⟨Nat.le_of_ble_eq_true rfl, Nat.le_of_ble_eq_true rfl⟩) hS (fun q _ h => hFc q h) hFc (fun r u t H1 locs ht hvm hw hB hz1 hk1 hS => ?_)
    obtain ⟨hP1, hD1⟩ := hB
    rw [ht] at hP1
    rcases hw with ⟨i_17, rfl, rfl⟩ | ⟨i_18, rfl, rfl⟩
    ·
      have i_17 : onB (f_bb k_h.toNatClampNeg) p_c.toInt = false := i_17
      have hP := g5_same hP hk1
      generalize H1 = H at hP hS ⊢
      refine lv_if_eq (tgt := 23) hx hb dX1_isTaken_18 (by decide) (fun c_19 => ?_) (fun c_19 => ?_)
      ·
        refine lv_iinc (v := (k_h + 1)) (lv' := [(2, .int (k_h + 1)), (0, .ref a_h), (1, .int p_c)]) hx hb dX1_isTaken_23 hl (k := 0) rfl rfl (by decide) rfl (fun ls hl => ?_)
        have t_20 : (k_h + 1).toInt = k_h.toInt + 1 := g5_iadd (a := k_h.toInt) (b := 1) rfl (by decide) (by omega) (by omega)
        refine lv_goto (tgt := 2) hx hb dX1_isTaken_26 (by decide) ?_
        exact ih_2_3 (k_h + 1) ls H locs (show Int.toNat (24 - (k_h + 1).toInt) < Int.toNat (24 - k_h.toInt) from g_up (show k_h.toInt < (k_h + 1).toInt by omega) (show k_h.toInt < 24 by omega)) ⟨lv_sub hl [0, 1, 2] rfl, hP, hD, hS, ⟨by omega, by omega⟩, fun h hh => by rcases (show (h : Int) < k_h.toInt ∨ h = k_h.toNatClampNeg by rw [g5_clamp]; omega) with q | q; exact i_2 h q; rw [q]; exact i_17⟩
      ·
        exact absurd c_19 (by decide)
    ·
      have i_18 : onB (f_bb k_h.toNatClampNeg) p_c.toInt = true := i_18
      have hP := g5_same hP hk1
      generalize H1 = H at hP hS ⊢
      refine lv_if_eq (tgt := 23) hx hb dX1_isTaken_18 (by decide) (fun c_21 => ?_) (fun c_21 => ?_)
      ·
        exact absurd c_21 (by decide)
      ·
        refine lv_iconst (v := 1) hx hb dX1_isTaken_21 (by decide) ?_
        exact W.zret (v := 1) hx hb hr rfl (fun t ht hW => ⟨⟨1, [(a_h, (oc1 e_wa e_le e_st e_fo e_lc a_l a_g a_b a_s a_p a_w e_gb a_bb)), (a_p, (oc6 8 5 a_pn e_p)), (a_pn, (arI G 40 f_p)), (a_bb, (arJ G 24 f_bb))], rfl, Or.inl (⟨Or.inl ⟨k_h.toNatClampNeg, by rw [g5_clamp]; omega, i_18⟩, rfl, rfl⟩), by rw [ht]; exact hP.sub [0, 1, 2, 3] rfl, hD.sub [0, 1, 2, 3] (by decide) rfl⟩, hS.F ht⟩) hS.2.2 dX1_isTaken_22
theorem dgX1_countSeen_0 : ∀ r ∈ ([(0, (.iconst 0, 1)), (1, (.istore_n 1, 1)), (2, (.iconst 0, 1)), (3, (.istore_n 2, 1)), (4, (.iload_n 2, 1)), (5, (.aload_n 0, 1)), (6, (.getfield 46, 3)), (9, (.getfield 74, 3)), (12, (.if_icmp .ge 21, 3)), (15, (.iload_n 1, 1)), (16, (.aload_n 0, 1)), (17, (.getfield 46, 3)), (20, (.iload_n 2, 1)), (21, (.iconst 3, 1)), (22, (.invokevirtual 77, 3)), (25, (.iadd, 1)), (26, (.istore_n 1, 1)), (27, (.iinc 2 1, 3)), (30, (.goto (-26), 3)), (33, (.iload_n 1, 1)), (34, (.ireturn, 1))] : List (Nat × (Instr × Nat))), decode cX1_countSeen r.1 = .ok r.2 := by decide +kernel
theorem dX1_countSeen_0 : decode cX1_countSeen 0 = .ok (.iconst 0, 1) := dgX1_countSeen_0 (0, (.iconst 0, 1)) (List.mem_of_getElem? (i := 0) rfl)
theorem dX1_countSeen_1 : decode cX1_countSeen 1 = .ok (.istore_n 1, 1) := dgX1_countSeen_0 (1, (.istore_n 1, 1)) (List.mem_of_getElem? (i := 1) rfl)
theorem dX1_countSeen_2 : decode cX1_countSeen 2 = .ok (.iconst 0, 1) := dgX1_countSeen_0 (2, (.iconst 0, 1)) (List.mem_of_getElem? (i := 2) rfl)
theorem dX1_countSeen_3 : decode cX1_countSeen 3 = .ok (.istore_n 2, 1) := dgX1_countSeen_0 (3, (.istore_n 2, 1)) (List.mem_of_getElem? (i := 3) rfl)
theorem dX1_countSeen_4 : decode cX1_countSeen 4 = .ok (.iload_n 2, 1) := dgX1_countSeen_0 (4, (.iload_n 2, 1)) (List.mem_of_getElem? (i := 4) rfl)
theorem dX1_countSeen_5 : decode cX1_countSeen 5 = .ok (.aload_n 0, 1) := dgX1_countSeen_0 (5, (.aload_n 0, 1)) (List.mem_of_getElem? (i := 5) rfl)
theorem dX1_countSeen_6 : decode cX1_countSeen 6 = .ok (.getfield 46, 3) := dgX1_countSeen_0 (6, (.getfield 46, 3)) (List.mem_of_getElem? (i := 6) rfl)
theorem dX1_countSeen_9 : decode cX1_countSeen 9 = .ok (.getfield 74, 3) := dgX1_countSeen_0 (9, (.getfield 74, 3)) (List.mem_of_getElem? (i := 7) rfl)
theorem dX1_countSeen_12 : decode cX1_countSeen 12 = .ok (.if_icmp .ge 21, 3) := dgX1_countSeen_0 (12, (.if_icmp .ge 21, 3)) (List.mem_of_getElem? (i := 8) rfl)
theorem dX1_countSeen_15 : decode cX1_countSeen 15 = .ok (.iload_n 1, 1) := dgX1_countSeen_0 (15, (.iload_n 1, 1)) (List.mem_of_getElem? (i := 9) rfl)
theorem dX1_countSeen_16 : decode cX1_countSeen 16 = .ok (.aload_n 0, 1) := dgX1_countSeen_0 (16, (.aload_n 0, 1)) (List.mem_of_getElem? (i := 10) rfl)
theorem dX1_countSeen_17 : decode cX1_countSeen 17 = .ok (.getfield 46, 3) := dgX1_countSeen_0 (17, (.getfield 46, 3)) (List.mem_of_getElem? (i := 11) rfl)
theorem dX1_countSeen_20 : decode cX1_countSeen 20 = .ok (.iload_n 2, 1) := dgX1_countSeen_0 (20, (.iload_n 2, 1)) (List.mem_of_getElem? (i := 12) rfl)
theorem dX1_countSeen_21 : decode cX1_countSeen 21 = .ok (.iconst 3, 1) := dgX1_countSeen_0 (21, (.iconst 3, 1)) (List.mem_of_getElem? (i := 13) rfl)
theorem dX1_countSeen_22 : decode cX1_countSeen 22 = .ok (.invokevirtual 77, 3) := dgX1_countSeen_0 (22, (.invokevirtual 77, 3)) (List.mem_of_getElem? (i := 14) rfl)
theorem dX1_countSeen_25 : decode cX1_countSeen 25 = .ok (.iadd, 1) := dgX1_countSeen_0 (25, (.iadd, 1)) (List.mem_of_getElem? (i := 15) rfl)
theorem dX1_countSeen_26 : decode cX1_countSeen 26 = .ok (.istore_n 1, 1) := dgX1_countSeen_0 (26, (.istore_n 1, 1)) (List.mem_of_getElem? (i := 16) rfl)
theorem dX1_countSeen_27 : decode cX1_countSeen 27 = .ok (.iinc 2 1, 3) := dgX1_countSeen_0 (27, (.iinc 2 1, 3)) (List.mem_of_getElem? (i := 17) rfl)
theorem dX1_countSeen_30 : decode cX1_countSeen 30 = .ok (.goto (-26), 3) := dgX1_countSeen_0 (30, (.goto (-26), 3)) (List.mem_of_getElem? (i := 18) rfl)
theorem dX1_countSeen_33 : decode cX1_countSeen 33 = .ok (.iload_n 1, 1) := dgX1_countSeen_0 (33, (.iload_n 1, 1)) (List.mem_of_getElem? (i := 19) rfl)
theorem dX1_countSeen_34 : decode cX1_countSeen 34 = .ok (.ireturn, 1) := dgX1_countSeen_0 (34, (.ireturn, 1)) (List.mem_of_getElem? (i := 20) rfl)
theorem fl_X1_46 : Cond.fieldLink RX1 46 "LateGlass$House" "sightings" "LLateGlass$Table;" ∈ tblG := tg 178 (by decide +kernel) (by decide +kernel)
theorem fl_X1_74 : Cond.fieldLink RX1 74 "LateGlass$Table" "rows" "I" ∈ tblG := tg 140 (by decide +kernel) (by decide +kernel)
theorem ml_X1_77 : Cond.methodLink RX1 77 yX6_get ∈ tblG := tg 603 (by decide +kernel) (by decide +kernel)
theorem gV_X1_77 : GoodIn tblG (wsV RX1 77 RX6 yX6_get (wsG yX6_get cX6_get 3 (some .int))) := tgV ml_X1_77 im_X6_get se_X6_get ini_X6 gW_X6_get
set_option maxHeartbeats 4000000 in
set_option maxRecDepth 100000 in
theorem h_countSeen (l : Launch) (G : g5_G) (a_h a_s a_sn a_l a_g a_b a_p a_w a_bb : Nat) (sz : Nat) (e_le : Int32) (e_st : Int32) (e_fo : Int32) (e_lc : Int32) (e_s : Int32) (e_wa : Int64) (e_gb : Int64) (f_s : Nat → Int32) (h_e_s : 0 ≤ e_s.toInt ∧ e_s.toInt ≤ 10) (e_h : ∀ r : Int, 0 ≤ r → r < e_s.toInt → 0 ≤ (tget f_s e_s.toInt 4 r (3 : Int32).toInt).toInt ∧ (tget f_s e_s.toInt 4 r (3 : Int32).toInt).toInt ≤ 1) : Met l yX1_countSeen (wsG yX1_countSeen cX1_countSeen 3 (some .int)) ({ frames := 1, cells := 0, slots := 0, locals := 22 }) (va_Pc [.ref a_h] (g5_P G [(a_h, (oc1 e_wa e_le e_st e_fo e_lc a_l a_g a_b a_s a_p a_w e_gb a_bb)), (a_s, (oc6 10 4 a_sn e_s)), (a_sn, (arI G 40 f_s))] sz)) (va_Qi (fun (r : Int32) (u : va_W) => (∃ (o_r : Int32), (0 ≤ o_r.toInt ∧ o_r.toInt ≤ 10) ∧ (o_r.toInt = snS f_s e_s.toInt e_s.toInt.toNat) ∧ (r = o_r) ∧ (u = [(a_h, (oc1 e_wa e_le e_st e_fo e_lc a_l a_g a_b a_s a_p a_w e_gb a_bb)), (a_s, (oc6 10 4 a_sn e_s)), (a_sn, (arI G 40 f_s))]))) (g5_B G (va_A [(a_h, (oc1 e_wa e_le e_st e_fo e_lc a_l a_g a_b a_s a_p a_w e_gb a_bb)), (a_s, (oc6 10 4 a_sn e_s)), (a_sn, (arI G 40 f_s))] sz)) (va_A [(a_h, (oc1 e_wa e_le e_st e_fo e_lc a_l a_g a_b a_s a_p a_w e_gb a_bb)), (a_s, (oc6 10 4 a_sn e_s)), (a_sn, (arI G 40 f_s))] sz)) 0 0 (va_A [(a_h, (oc1 e_wa e_le e_st e_fo e_lc a_l a_g a_b a_s a_p a_w e_gb a_bb)), (a_s, (oc6 10 4 a_sn e_s)), (a_sn, (arI G 40 f_s))] sz) := by
  refine Met.ofW (cc := cX1_countSeen) (maxL := 3) (ret := (some .int)) (by decide) rfl ?_
  intro p e s m args below meth c s₁ B hml hv
  obtain ⟨rfl, hsz, hP, hK, hD0, hN, hT⟩ := hv
  have hx := B.exec
  have hb := B.bytes
  have hr := B.returns
  have hts : ∀ w ∈ tblG, w.before _ s = true := fun w h => atoms_spec (ws := (wsG yX1_countSeen cX1_countSeen 3 (some .int))) B.pre w (List.mem_cons_of_mem _ h)
  have hown : s.vm.findClass RX1 = some m.cls := findClass_of_methodNamed B.named
  have hlocks := B.notSynchronized
  subst hsz
  have hD := hD0.self (sz := s.heap.size)
  generalize hAe : va_A [(a_h, (oc1 e_wa e_le e_st e_fo e_lc a_l a_g a_b a_s a_p a_w e_gb a_bb)), (a_s, (oc6 10 4 a_sn e_s)), (a_sn, (arI G 40 f_s))] s.heap.size = A at hD hT ⊢
  have hA : ∀ q : Nat, s.heap.size ≤ q → A q := fun q h => by rw [← hAe]; exact Or.inr h
  have hS : va_S A s.heap s.heap [] := va_S.rf
  have hP : va_P G.1 vwCl [(a_h, (oc1 e_wa e_le e_st e_fo e_lc a_l a_g a_b a_s a_p a_w e_gb a_bb)), (a_s, (oc6 10 4 a_sn e_s)), (a_sn, (arI G 40 f_s))] s.heap := hP
  have hl := lv_entry ([.ref a_h]) (n := 3) (Nat.le_of_ble_eq_true rfl)
  rw [lg_entry_eq]
  generalize (lg_sl ([.ref a_h]) ++ List.replicate (3 - (lg_sl ([.ref a_h])).length) Slot.unset).toArray = ls at hl ⊢
  have hl : lv_has ls 3 [(0, .ref a_h)] := hl
  refine lv_iconst (v := 0) hx hb dX1_countSeen_0 (by decide) ?_
  refine lv_istore_n (lv' := [(1, .int 0), (0, .ref a_h)]) hx hb dX1_countSeen_1 rfl hl (by decide) rfl (fun ls hl => ?_)
  refine lv_iconst (v := 0) hx hb dX1_countSeen_2 (by decide) ?_
  refine lv_istore_n (lv' := [(2, .int 0), (1, .int 0), (0, .ref a_h)]) hx hb dX1_countSeen_3 rfl hl (by decide) rfl (fun ls hl => ?_)
  refine g5_loop (α := (Int32) × (Int32)) (fun (q : (Int32) × (Int32)) (ls : Array Slot) (H : Heap) (locs : List Loc) => match q with | (k_i, k_s) => lv_has ls 3 [(1, .int k_s), (2, .int k_i), (0, .ref a_h)] ∧ va_P G.1 vwCl [(a_h, (oc1 e_wa e_le e_st e_fo e_lc a_l a_g a_b a_s a_p a_w e_gb a_bb)), (a_s, (oc6 10 4 a_sn e_s)), (a_sn, (arI G 40 f_s))] H ∧ va_D A [(a_h, (oc1 e_wa e_le e_st e_fo e_lc a_l a_g a_b a_s a_p a_w e_gb a_bb)), (a_s, (oc6 10 4 a_sn e_s)), (a_sn, (arI G 40 f_s))] ∧ va_S A s.heap H locs ∧ (0 ≤ k_i.toInt ∧ k_i.toInt ≤ 10) ∧ (0 ≤ k_s.toInt ∧ k_s.toInt ≤ 10) ∧ (k_i.toInt ≤ e_s.toInt) ∧ (k_s.toInt ≤ k_i.toInt) ∧ (k_s.toInt = snS f_s e_s.toInt k_i.toInt.toNat)) (fun (q : (Int32) × (Int32)) => match q with | (k_i, k_s) => Int.toNat (10 - k_i.toInt)) (0, 0) ⟨lv_sub hl [1, 0, 2] rfl, hP, hD, hS, ⟨by decide, by decide⟩, ⟨by decide, by decide⟩, by have z0 : (0 : Int32).toInt = 0 := (by decide); omega, Int.le_refl _, h_snS0⟩ ?_
  rintro ⟨k_i, k_s⟩ ls H locs ⟨hl, hP, hD, hS, i_1, i_2, i_3, i_4, i_5⟩ ih_4_6
  have hl : lv_has ls 3 [(1, .int k_s), (2, .int k_i), (0, .ref a_h)] := hl
  have i_1 : 0 ≤ k_i.toInt ∧ k_i.toInt ≤ 10 := i_1
  have i_2 : 0 ≤ k_s.toInt ∧ k_s.toInt ≤ 10 := i_2
  have i_3 : k_i.toInt ≤ e_s.toInt := i_3
  have i_4 : k_s.toInt ≤ k_i.toInt := i_4
  have i_5 : k_s.toInt = snS f_s e_s.toInt k_i.toInt.toNat := i_5
  refine g5_rs [(a_h, (oc1 e_wa e_le e_st e_fo e_lc a_l a_g a_b a_s a_p a_w e_gb a_bb)), (a_s, (oc6 10 4 a_sn e_s)), (a_sn, (arI G 40 f_s))] hP hD (fun hP hD => ?_)
  refine lv_iload_n hx hb dX1_countSeen_4 rfl (lv_at hl 1 rfl) ?_
  refine lv_aload_n hx hb dX1_countSeen_5 rfl (lv_at hl 2 rfl) ?_
  refine va_get (D := G.1) (ci := 1) (v := .ref a_s) (C := RX1) (T := TX1) (N := 13) hx hb hts inG_X1 hown hK hP 0 rfl rfl 8 (by decide) (hts _ fl_X1_46) (fun _ h9 => h9) rfl dX1_countSeen_6 ?_
  refine va_get (D := G.1) (ci := 6) (v := .int e_s) (C := RX6) (T := TX6) (N := 4) hx hb hts inG_X6 hown hK hP 1 rfl rfl 3 (by decide) (hts _ fl_X1_74) (fun _ h9 => h9) rfl dX1_countSeen_9 ?_
  refine lv_icmp_ge (tgt := 33) hx hb dX1_countSeen_12 (by decide) (fun c_7 => ?_) (fun c_7 => ?_)
  ·
    have i_7 : k_i.toInt ≥ e_s.toInt := by have z := g5_ge (a := k_i.toInt) (b := e_s.toInt) (by rfl) (by rfl) c_7; omega
    refine lv_iload_n hx hb dX1_countSeen_33 rfl (lv_at hl 0 rfl) ?_
    exact W.iret (v := k_s) hx hb hr (fun t ht hW => ⟨⟨k_s, [(a_h, (oc1 e_wa e_le e_st e_fo e_lc a_l a_g a_b a_s a_p a_w e_gb a_bb)), (a_s, (oc6 10 4 a_sn e_s)), (a_sn, (arI G 40 f_s))], rfl, ⟨k_s, i_2, by rw [i_5, show k_i.toInt = e_s.toInt by omega], rfl, rfl⟩, by rw [ht]; exact hP.sub [0, 1, 2] rfl, hD.sub [0, 1, 2] (by decide) rfl⟩, hS.F ht⟩) hS.2.2 dX1_countSeen_34
  ·
    have i_7 : k_i.toInt < e_s.toInt := by have z := g5_geN (a := k_i.toInt) (b := e_s.toInt) (by rfl) (by rfl) c_7; omega
    refine lv_iload_n hx hb dX1_countSeen_15 rfl (lv_at hl 0 rfl) ?_
    refine lv_aload_n hx hb dX1_countSeen_16 rfl (lv_at hl 2 rfl) ?_
    refine va_get (D := G.1) (ci := 1) (v := .ref a_s) (C := RX1) (T := TX1) (N := 13) hx hb hts inG_X1 hown hK hP 0 rfl rfl 8 (by decide) (hts _ fl_X1_46) (fun _ h9 => h9) rfl dX1_countSeen_17 ?_
    refine lv_iload_n hx hb dX1_countSeen_20 rfl (lv_at hl 1 rfl) ?_
    refine lv_iconst (v := 3) hx hb dX1_countSeen_21 (by decide) ?_
    obtain ⟨hPc, hDc, hFc⟩ := g5_sub3 (wc := [(a_s, (oc6 10 4 a_sn e_s)), (a_sn, (arI G 40 f_s))]) hP hD hS hA [1, 2] (by decide) rfl
    refine va_calli (va_runV (As := [.int k_i, .int 3]) (rest := [.int k_s]) ⟨hx, hb, hml, hown, hts⟩ (t_get_S l G a_s a_sn H.size e_s k_i 3 f_s h_e_s) (cwV 2 hts gV_X1_77 rfl rfl rfl hv_X6_get ⟨Nat.le_of_ble_eq_true rfl, Nat.le_of_ble_eq_true rfl⟩) (g5_preV hPc hK hDc hN hT hS hFc (ci := 6) (q0 := 0) rfl rfl) rfl rfl hl.1 rfl (lv_room (Nat.le_of_ble_eq_true rfl)) dX1_countSeen_22 ⟨Nat.le_of_ble_eq_true rfl, Nat.le_of_ble_eq_true rfl⟩) hS (fun q _ h => hFc q h) hFc (fun r u t H1 locs ht hvm hw hB hz1 hk1 hS => ?_)
    obtain ⟨hP1, hD1⟩ := hB
    rw [ht] at hP1
    obtain ⟨z9, i_8, y10, rfl⟩ := hw
    have i_8 : z9 = tget f_s e_s.toInt 4 k_i.toInt (3 : Int32).toInt := i_8
    obtain ⟨hP, hD⟩ := va_join (wr := [(a_h, (oc1 e_wa e_le e_st e_fo e_lc a_l a_g a_b a_s a_p a_w e_gb a_bb))]) hP hD [1, 2] [0] rfl rfl (by decide) (by decide) hk1 hFc hP1 hD1
    generalize H1 = H at hP hS ⊢
    refine g5_rs [(a_h, (oc1 e_wa e_le e_st e_fo e_lc a_l a_g a_b a_s a_p a_w e_gb a_bb)), (a_s, (oc6 10 4 a_sn e_s)), (a_sn, (arI G 40 f_s))] hP hD (fun hP hD => ?_)
    refine g5_ti (v := z9) y10 ?_
    have hz_11 : 0 ≤ z9.toInt ∧ z9.toInt ≤ 1 := by rw [i_8]; exact e_h k_i.toInt (by omega) (by omega)
    refine lv_iadd hx hb dX1_countSeen_25 ?_
    have t_12 : (k_s + z9).toInt = k_s.toInt + z9.toInt := g5_iadd (a := k_s.toInt) (b := z9.toInt) (by rfl) (by rfl) (by omega) (by omega)
    refine lv_istore_n (lv' := [(1, .int (k_s + z9)), (2, .int k_i), (0, .ref a_h)]) hx hb dX1_countSeen_26 rfl hl (by decide) rfl (fun ls hl => ?_)
    refine lv_iinc (v := (k_i + 1)) (lv' := [(2, .int (k_i + 1)), (1, .int (k_s + z9)), (0, .ref a_h)]) hx hb dX1_countSeen_27 hl (k := 1) rfl rfl (by decide) rfl (fun ls hl => ?_)
    have t_13 : (k_i + 1).toInt = k_i.toInt + 1 := g5_iadd (a := k_i.toInt) (b := 1) rfl (by decide) (by omega) (by omega)
    refine lv_goto (tgt := 4) hx hb dX1_countSeen_30 (by decide) ?_
    exact ih_4_6 ((k_i + 1), (k_s + z9)) ls H locs (show Int.toNat (10 - (k_i + 1).toInt) < Int.toNat (10 - k_i.toInt) from g_up (show k_i.toInt < (k_i + 1).toInt by omega) (show k_i.toInt < 10 by omega)) ⟨lv_sub hl [1, 0, 2] rfl, hP, hD, hS, ⟨by omega, by omega⟩, ⟨by omega, by omega⟩, by omega, by omega, h_snS i_5 i_8 e_h (by omega) (by omega) (by omega)⟩
theorem dgX1_put_0 : ∀ r ∈ ([(0, (.iload_n 2, 1)), (1, (.istore 5, 2)), (3, (.iload 5, 2)), (5, (.iload_n 3, 1)), (6, (.if_icmp .gt 86, 3)), (9, (.aload_n 0, 1)), (10, (.getfield 43, 3)), (13, (.iload_n 1, 1)), (14, (.iload 5, 2)), (16, (.iload 4, 2)), (18, (.invokevirtual 70, 3)), (21, (.lconst 0, 1)), (22, (.lstore 6, 2)), (24, (.iconst 0, 1)), (25, (.istore 8, 2)), (27, (.iload 8, 2)), (29, (.aload_n 0, 1)), (30, (.getfield 43, 3)), (33, (.getfield 74, 3)), (36, (.if_icmp .ge 41, 3)), (39, (.aload_n 0, 1)), (40, (.getfield 43, 3)), (43, (.iload 8, 2)), (45, (.iload 5, 2)), (47, (.invokevirtual 77, 3)), (50, (.istore 9, 2)), (52, (.lload 6, 2)), (54, (.iload 9, 2)), (56, (.iconst (-1), 1)), (57, (.if_icmp .ne 7, 3)), (60, (.lconst 0, 1)), (61, (.goto 7, 3)), (64, (.lconst 1, 1)), (65, (.iload 9, 2)), (67, (.lshl, 1)), (68, (.lor, 1)), (69, (.lstore 6, 2)), (71, (.iinc 8 1, 3)), (74, (.goto (-47), 3)), (77, (.aload_n 0, 1))] : List (Nat × (Instr × Nat))), decode cX1_put r.1 = .ok r.2 := by decide +kernel
theorem dX1_put_0 : decode cX1_put 0 = .ok (.iload_n 2, 1) := dgX1_put_0 (0, (.iload_n 2, 1)) (List.mem_of_getElem? (i := 0) rfl)
theorem dX1_put_1 : decode cX1_put 1 = .ok (.istore 5, 2) := dgX1_put_0 (1, (.istore 5, 2)) (List.mem_of_getElem? (i := 1) rfl)
theorem dX1_put_3 : decode cX1_put 3 = .ok (.iload 5, 2) := dgX1_put_0 (3, (.iload 5, 2)) (List.mem_of_getElem? (i := 2) rfl)
theorem dX1_put_5 : decode cX1_put 5 = .ok (.iload_n 3, 1) := dgX1_put_0 (5, (.iload_n 3, 1)) (List.mem_of_getElem? (i := 3) rfl)
theorem dX1_put_6 : decode cX1_put 6 = .ok (.if_icmp .gt 86, 3) := dgX1_put_0 (6, (.if_icmp .gt 86, 3)) (List.mem_of_getElem? (i := 4) rfl)
theorem dX1_put_9 : decode cX1_put 9 = .ok (.aload_n 0, 1) := dgX1_put_0 (9, (.aload_n 0, 1)) (List.mem_of_getElem? (i := 5) rfl)
theorem dX1_put_10 : decode cX1_put 10 = .ok (.getfield 43, 3) := dgX1_put_0 (10, (.getfield 43, 3)) (List.mem_of_getElem? (i := 6) rfl)
theorem dX1_put_13 : decode cX1_put 13 = .ok (.iload_n 1, 1) := dgX1_put_0 (13, (.iload_n 1, 1)) (List.mem_of_getElem? (i := 7) rfl)
theorem dX1_put_14 : decode cX1_put 14 = .ok (.iload 5, 2) := dgX1_put_0 (14, (.iload 5, 2)) (List.mem_of_getElem? (i := 8) rfl)
theorem dX1_put_16 : decode cX1_put 16 = .ok (.iload 4, 2) := dgX1_put_0 (16, (.iload 4, 2)) (List.mem_of_getElem? (i := 9) rfl)
theorem dX1_put_18 : decode cX1_put 18 = .ok (.invokevirtual 70, 3) := dgX1_put_0 (18, (.invokevirtual 70, 3)) (List.mem_of_getElem? (i := 10) rfl)
theorem dX1_put_21 : decode cX1_put 21 = .ok (.lconst 0, 1) := dgX1_put_0 (21, (.lconst 0, 1)) (List.mem_of_getElem? (i := 11) rfl)
theorem dX1_put_22 : decode cX1_put 22 = .ok (.lstore 6, 2) := dgX1_put_0 (22, (.lstore 6, 2)) (List.mem_of_getElem? (i := 12) rfl)
theorem dX1_put_24 : decode cX1_put 24 = .ok (.iconst 0, 1) := dgX1_put_0 (24, (.iconst 0, 1)) (List.mem_of_getElem? (i := 13) rfl)
theorem dX1_put_25 : decode cX1_put 25 = .ok (.istore 8, 2) := dgX1_put_0 (25, (.istore 8, 2)) (List.mem_of_getElem? (i := 14) rfl)
theorem dX1_put_27 : decode cX1_put 27 = .ok (.iload 8, 2) := dgX1_put_0 (27, (.iload 8, 2)) (List.mem_of_getElem? (i := 15) rfl)
theorem dX1_put_29 : decode cX1_put 29 = .ok (.aload_n 0, 1) := dgX1_put_0 (29, (.aload_n 0, 1)) (List.mem_of_getElem? (i := 16) rfl)
theorem dX1_put_30 : decode cX1_put 30 = .ok (.getfield 43, 3) := dgX1_put_0 (30, (.getfield 43, 3)) (List.mem_of_getElem? (i := 17) rfl)
theorem dX1_put_33 : decode cX1_put 33 = .ok (.getfield 74, 3) := dgX1_put_0 (33, (.getfield 74, 3)) (List.mem_of_getElem? (i := 18) rfl)
theorem dX1_put_36 : decode cX1_put 36 = .ok (.if_icmp .ge 41, 3) := dgX1_put_0 (36, (.if_icmp .ge 41, 3)) (List.mem_of_getElem? (i := 19) rfl)
theorem dX1_put_39 : decode cX1_put 39 = .ok (.aload_n 0, 1) := dgX1_put_0 (39, (.aload_n 0, 1)) (List.mem_of_getElem? (i := 20) rfl)
theorem dX1_put_40 : decode cX1_put 40 = .ok (.getfield 43, 3) := dgX1_put_0 (40, (.getfield 43, 3)) (List.mem_of_getElem? (i := 21) rfl)
theorem dX1_put_43 : decode cX1_put 43 = .ok (.iload 8, 2) := dgX1_put_0 (43, (.iload 8, 2)) (List.mem_of_getElem? (i := 22) rfl)
theorem dX1_put_45 : decode cX1_put 45 = .ok (.iload 5, 2) := dgX1_put_0 (45, (.iload 5, 2)) (List.mem_of_getElem? (i := 23) rfl)
theorem dX1_put_47 : decode cX1_put 47 = .ok (.invokevirtual 77, 3) := dgX1_put_0 (47, (.invokevirtual 77, 3)) (List.mem_of_getElem? (i := 24) rfl)
theorem dX1_put_50 : decode cX1_put 50 = .ok (.istore 9, 2) := dgX1_put_0 (50, (.istore 9, 2)) (List.mem_of_getElem? (i := 25) rfl)
theorem dX1_put_52 : decode cX1_put 52 = .ok (.lload 6, 2) := dgX1_put_0 (52, (.lload 6, 2)) (List.mem_of_getElem? (i := 26) rfl)
theorem dX1_put_54 : decode cX1_put 54 = .ok (.iload 9, 2) := dgX1_put_0 (54, (.iload 9, 2)) (List.mem_of_getElem? (i := 27) rfl)
theorem dX1_put_56 : decode cX1_put 56 = .ok (.iconst (-1), 1) := dgX1_put_0 (56, (.iconst (-1), 1)) (List.mem_of_getElem? (i := 28) rfl)
theorem dX1_put_57 : decode cX1_put 57 = .ok (.if_icmp .ne 7, 3) := dgX1_put_0 (57, (.if_icmp .ne 7, 3)) (List.mem_of_getElem? (i := 29) rfl)
theorem dX1_put_60 : decode cX1_put 60 = .ok (.lconst 0, 1) := dgX1_put_0 (60, (.lconst 0, 1)) (List.mem_of_getElem? (i := 30) rfl)
theorem dX1_put_61 : decode cX1_put 61 = .ok (.goto 7, 3) := dgX1_put_0 (61, (.goto 7, 3)) (List.mem_of_getElem? (i := 31) rfl)
theorem dX1_put_64 : decode cX1_put 64 = .ok (.lconst 1, 1) := dgX1_put_0 (64, (.lconst 1, 1)) (List.mem_of_getElem? (i := 32) rfl)
theorem dX1_put_65 : decode cX1_put 65 = .ok (.iload 9, 2) := dgX1_put_0 (65, (.iload 9, 2)) (List.mem_of_getElem? (i := 33) rfl)
theorem dX1_put_67 : decode cX1_put 67 = .ok (.lshl, 1) := dgX1_put_0 (67, (.lshl, 1)) (List.mem_of_getElem? (i := 34) rfl)
theorem dX1_put_68 : decode cX1_put 68 = .ok (.lor, 1) := dgX1_put_0 (68, (.lor, 1)) (List.mem_of_getElem? (i := 35) rfl)
theorem dX1_put_69 : decode cX1_put 69 = .ok (.lstore 6, 2) := dgX1_put_0 (69, (.lstore 6, 2)) (List.mem_of_getElem? (i := 36) rfl)
theorem dX1_put_71 : decode cX1_put 71 = .ok (.iinc 8 1, 3) := dgX1_put_0 (71, (.iinc 8 1, 3)) (List.mem_of_getElem? (i := 37) rfl)
theorem dX1_put_74 : decode cX1_put 74 = .ok (.goto (-47), 3) := dgX1_put_0 (74, (.goto (-47), 3)) (List.mem_of_getElem? (i := 38) rfl)
theorem dX1_put_77 : decode cX1_put 77 = .ok (.aload_n 0, 1) := dgX1_put_0 (77, (.aload_n 0, 1)) (List.mem_of_getElem? (i := 39) rfl)
theorem dgX1_put_1 : ∀ r ∈ ([(78, (.getfield 58, 3)), (81, (.iload 5, 2)), (83, (.lload 6, 2)), (85, (.lastore, 1)), (86, (.iinc 5 1, 3)), (89, (.goto (-86), 3)), (92, (.return_, 1))] : List (Nat × (Instr × Nat))), decode cX1_put r.1 = .ok r.2 := by decide +kernel
theorem dX1_put_78 : decode cX1_put 78 = .ok (.getfield 58, 3) := dgX1_put_1 (78, (.getfield 58, 3)) (List.mem_of_getElem? (i := 0) rfl)
theorem dX1_put_81 : decode cX1_put 81 = .ok (.iload 5, 2) := dgX1_put_1 (81, (.iload 5, 2)) (List.mem_of_getElem? (i := 1) rfl)
theorem dX1_put_83 : decode cX1_put 83 = .ok (.lload 6, 2) := dgX1_put_1 (83, (.lload 6, 2)) (List.mem_of_getElem? (i := 2) rfl)
theorem dX1_put_85 : decode cX1_put 85 = .ok (.lastore, 1) := dgX1_put_1 (85, (.lastore, 1)) (List.mem_of_getElem? (i := 3) rfl)
theorem dX1_put_86 : decode cX1_put 86 = .ok (.iinc 5 1, 3) := dgX1_put_1 (86, (.iinc 5 1, 3)) (List.mem_of_getElem? (i := 4) rfl)
theorem dX1_put_89 : decode cX1_put 89 = .ok (.goto (-86), 3) := dgX1_put_1 (89, (.goto (-86), 3)) (List.mem_of_getElem? (i := 5) rfl)
theorem dX1_put_92 : decode cX1_put 92 = .ok (.return_, 1) := dgX1_put_1 (92, (.return_, 1)) (List.mem_of_getElem? (i := 6) rfl)
theorem fl_X1_43 : Cond.fieldLink RX1 43 "LateGlass$House" "bodies" "LLateGlass$Table;" ∈ tblG := tg 173 (by decide +kernel) (by decide +kernel)
theorem ml_X1_70 : Cond.methodLink RX1 70 yX6_set ∈ tblG := tg 602 (by decide +kernel) (by decide +kernel)
theorem gV_X1_70 : GoodIn tblG (wsV RX1 70 RX6 yX6_set (wsG yX6_set cX6_set 4 none)) := tgV ml_X1_70 im_X6_set se_X6_set ini_X6 gW_X6_set
set_option maxHeartbeats 4000000 in
set_option maxRecDepth 100000 in
theorem h_put (l : Launch) (G : g5_G) (a_h a_b a_bn a_bb a_l a_g a_s a_p a_w : Nat) (sz : Nat) (e_le : Int32) (e_st : Int32) (e_fo : Int32) (e_lc : Int32) (e_b : Int32) (p_r : Int32) (p_f : Int32) (p_t : Int32) (p_v : Int32) (e_wa : Int64) (e_gb : Int64) (f_b : Nat → Int32) (f_bb : Nat → Int64) (h_e_b : 0 ≤ e_b.toInt ∧ e_b.toInt ≤ 5) (h_p_f : 0 ≤ p_f.toInt ∧ p_f.toInt ≤ 23) (h_p_t : 0 ≤ p_t.toInt ∧ p_t.toInt ≤ 23) (e_ft : p_f.toInt ≤ p_t.toInt) (e_bo : ∀ c : Nat, c < 24 → f_bb c = bbd f_b e_b.toInt c e_b.toInt.toNat) : Met l yX1_put (wsG yX1_put cX1_put 10 none) ({ frames := 2, cells := 0, slots := 0, locals := 44 }) (va_Pc [.ref a_h, .int p_r, .int p_f, .int p_t, .int p_v] (g5_P G [(a_h, (oc1 e_wa e_le e_st e_fo e_lc a_l a_g a_b a_s a_p a_w e_gb a_bb)), (a_b, (oc6 5 24 a_bn e_b)), (a_bn, (arI G 120 f_b)), (a_bb, (arJ G 24 f_bb))] sz)) (va_Qv (fun (u : va_W) => (∃ (o_f : Nat → Int32) (o_b : Nat → Int64), (o_f = bput f_b e_b.toInt p_r.toInt p_f.toInt (p_t.toInt + 1) p_v) ∧ (∀ c : Nat, c < 24 → o_b c = bbd o_f e_b.toInt c e_b.toInt.toNat) ∧ (u = [(a_h, (oc1 e_wa e_le e_st e_fo e_lc a_l a_g a_b a_s a_p a_w e_gb a_bb)), (a_b, (oc6 5 24 a_bn e_b)), (a_bn, (arI G 120 o_f)), (a_bb, (arJ G 24 o_b))]))) (g5_B G (va_A [(a_h, (oc1 e_wa e_le e_st e_fo e_lc a_l a_g a_b a_s a_p a_w e_gb a_bb)), (a_b, (oc6 5 24 a_bn e_b)), (a_bn, (arI G 120 f_b)), (a_bb, (arJ G 24 f_bb))] sz)) (va_A [(a_h, (oc1 e_wa e_le e_st e_fo e_lc a_l a_g a_b a_s a_p a_w e_gb a_bb)), (a_b, (oc6 5 24 a_bn e_b)), (a_bn, (arI G 120 f_b)), (a_bb, (arJ G 24 f_bb))] sz)) 0 0 (va_A [(a_h, (oc1 e_wa e_le e_st e_fo e_lc a_l a_g a_b a_s a_p a_w e_gb a_bb)), (a_b, (oc6 5 24 a_bn e_b)), (a_bn, (arI G 120 f_b)), (a_bb, (arJ G 24 f_bb))] sz) := by
  refine Met.ofW (cc := cX1_put) (maxL := 10) (ret := none) (by decide) rfl ?_
  intro p e s m args below meth c s₁ B hml hv
  obtain ⟨rfl, hsz, hP, hK, hD0, hN, hT⟩ := hv
  have hx := B.exec
  have hb := B.bytes
  have hr := B.returns
  have hts : ∀ w ∈ tblG, w.before _ s = true := fun w h => atoms_spec (ws := (wsG yX1_put cX1_put 10 none)) B.pre w (List.mem_cons_of_mem _ h)
  have hown : s.vm.findClass RX1 = some m.cls := findClass_of_methodNamed B.named
  have hlocks := B.notSynchronized
  subst hsz
  have hD := hD0.self (sz := s.heap.size)
  generalize hAe : va_A [(a_h, (oc1 e_wa e_le e_st e_fo e_lc a_l a_g a_b a_s a_p a_w e_gb a_bb)), (a_b, (oc6 5 24 a_bn e_b)), (a_bn, (arI G 120 f_b)), (a_bb, (arJ G 24 f_bb))] s.heap.size = A at hD hT ⊢
  have hA : ∀ q : Nat, s.heap.size ≤ q → A q := fun q h => by rw [← hAe]; exact Or.inr h
  have hS : va_S A s.heap s.heap [] := va_S.rf
  have hP : va_P G.1 vwCl [(a_h, (oc1 e_wa e_le e_st e_fo e_lc a_l a_g a_b a_s a_p a_w e_gb a_bb)), (a_b, (oc6 5 24 a_bn e_b)), (a_bn, (arI G 120 f_b)), (a_bb, (arJ G 24 f_bb))] s.heap := hP
  have hl := lv_entry ([.ref a_h, .int p_r, .int p_f, .int p_t, .int p_v]) (n := 10) (Nat.le_of_ble_eq_true rfl)
  rw [lg_entry_eq]
  generalize (lg_sl ([.ref a_h, .int p_r, .int p_f, .int p_t, .int p_v]) ++ List.replicate (10 - (lg_sl ([.ref a_h, .int p_r, .int p_f, .int p_t, .int p_v])).length) Slot.unset).toArray = ls at hl ⊢
  have hl : lv_has ls 10 [(0, .ref a_h), (1, .int p_r), (2, .int p_f), (3, .int p_t), (4, .int p_v)] := hl
  refine lv_iload_n hx hb dX1_put_0 rfl (lv_at hl 2 rfl) ?_
  refine lv_istore (lv' := [(5, .int p_f), (0, .ref a_h), (1, .int p_r), (2, .int p_f), (3, .int p_t), (4, .int p_v)]) hx hb dX1_put_1 hl (by decide) rfl (fun ls hl => ?_)
  refine g5_loop (α := (Int32) × (Nat → Int32) × (Nat → Int64)) (fun (q : (Int32) × (Nat → Int32) × (Nat → Int64)) (ls : Array Slot) (H : Heap) (locs : List Loc) => match q with | (k_h, k_f, k_b) => lv_has ls 10 [(5, .int k_h), (0, .ref a_h), (1, .int p_r), (2, .int p_f), (3, .int p_t), (4, .int p_v)] ∧ va_P G.1 vwCl [(a_h, (oc1 e_wa e_le e_st e_fo e_lc a_l a_g a_b a_s a_p a_w e_gb a_bb)), (a_b, (oc6 5 24 a_bn e_b)), (a_bn, (arI G 120 k_f)), (a_bb, (arJ G 24 k_b))] H ∧ va_D A [(a_h, (oc1 e_wa e_le e_st e_fo e_lc a_l a_g a_b a_s a_p a_w e_gb a_bb)), (a_b, (oc6 5 24 a_bn e_b)), (a_bn, (arI G 120 k_f)), (a_bb, (arJ G 24 k_b))] ∧ va_S A s.heap H locs ∧ (0 ≤ k_h.toInt ∧ k_h.toInt ≤ 24) ∧ (p_f.toInt ≤ k_h.toInt ∧ k_h.toInt ≤ p_t.toInt + 1) ∧ (k_f = bput f_b e_b.toInt p_r.toInt p_f.toInt k_h.toInt p_v) ∧ (∀ c : Nat, c < 24 → k_b c = bbd k_f e_b.toInt c e_b.toInt.toNat)) (fun (q : (Int32) × (Nat → Int32) × (Nat → Int64)) => match q with | (k_h, k_f, k_b) => Int.toNat (24 - k_h.toInt)) (p_f, f_b, f_bb) ⟨lv_sub hl [0, 1, 2, 3, 4, 5] rfl, hP, hD, hS, ⟨by omega, by omega⟩, ⟨by omega, by omega⟩, b_put0, e_bo⟩ ?_
  rintro ⟨k_h, k_f, k_b⟩ ls H locs ⟨hl, hP, hD, hS, i_1, i_2, i_3, i_4⟩ ih_3_5
  have hl : lv_has ls 10 [(5, .int k_h), (0, .ref a_h), (1, .int p_r), (2, .int p_f), (3, .int p_t), (4, .int p_v)] := hl
  have i_1 : 0 ≤ k_h.toInt ∧ k_h.toInt ≤ 24 := i_1
  have i_2 : p_f.toInt ≤ k_h.toInt ∧ k_h.toInt ≤ p_t.toInt + 1 := i_2
  have i_3 : k_f = bput f_b e_b.toInt p_r.toInt p_f.toInt k_h.toInt p_v := i_3
  have i_4 : ∀ c : Nat, c < 24 → k_b c = bbd k_f e_b.toInt c e_b.toInt.toNat := i_4
  refine g5_rs [(a_h, (oc1 e_wa e_le e_st e_fo e_lc a_l a_g a_b a_s a_p a_w e_gb a_bb)), (a_b, (oc6 5 24 a_bn e_b)), (a_bn, (arI G 120 k_f)), (a_bb, (arJ G 24 k_b))] hP hD (fun hP hD => ?_)
  refine lv_iload hx hb dX1_put_3 (lv_at hl 0 rfl) ?_
  refine lv_iload_n hx hb dX1_put_5 rfl (lv_at hl 4 rfl) ?_
  refine lv_icmp_gt (tgt := 92) hx hb dX1_put_6 (by decide) (fun c_6 => ?_) (fun c_6 => ?_)
  ·
    have i_6 : k_h.toInt > p_t.toInt := by have z := g5_gt (a := k_h.toInt) (b := p_t.toInt) (by rfl) (by rfl) c_6; omega
    exact W.vret hx hb hr (fun t ht hW => ⟨⟨[(a_h, (oc1 e_wa e_le e_st e_fo e_lc a_l a_g a_b a_s a_p a_w e_gb a_bb)), (a_b, (oc6 5 24 a_bn e_b)), (a_bn, (arI G 120 k_f)), (a_bb, (arJ G 24 k_b))], rfl, ⟨k_f, k_b, by rw [i_3, show k_h.toInt = p_t.toInt + 1 by omega], i_4, rfl⟩, by rw [ht]; exact hP.sub [0, 1, 2, 3] rfl, hD.sub [0, 1, 2, 3] (by decide) rfl⟩, hS.F ht⟩) hS.2.2 dX1_put_92
  ·
    have i_6 : k_h.toInt ≤ p_t.toInt := by have z := g5_gtN (a := k_h.toInt) (b := p_t.toInt) (by rfl) (by rfl) c_6; omega
    refine lv_aload_n hx hb dX1_put_9 rfl (lv_at hl 1 rfl) ?_
    refine va_get (D := G.1) (ci := 1) (v := .ref a_b) (C := RX1) (T := TX1) (N := 13) hx hb hts inG_X1 hown hK hP 0 rfl rfl 7 (by decide) (hts _ fl_X1_43) (fun _ h9 => h9) rfl dX1_put_10 ?_
    refine lv_iload_n hx hb dX1_put_13 rfl (lv_at hl 2 rfl) ?_
    refine lv_iload hx hb dX1_put_14 (lv_at hl 0 rfl) ?_
    refine lv_iload hx hb dX1_put_16 (lv_at hl 5 rfl) ?_
    obtain ⟨hPc, hDc, hFc⟩ := g5_sub3 (wc := [(a_b, (oc6 5 24 a_bn e_b)), (a_bn, (arI G 120 k_f))]) hP hD hS hA [1, 2] (by decide) rfl
    refine va_callv (va_runV (As := [.int p_r, .int k_h, .int p_v]) (rest := []) ⟨hx, hb, hml, hown, hts⟩ (t_set_B l G a_b a_bn H.size e_b p_r k_h p_v k_f h_e_b) (cwV 3 hts gV_X1_70 rfl rfl rfl hv_X6_set ⟨Nat.le_of_ble_eq_true rfl, Nat.le_of_ble_eq_true rfl⟩) (g5_preV hPc hK hDc hN hT hS hFc (ci := 6) (q0 := 0) rfl rfl) rfl rfl hl.1 rfl (lv_room (Nat.le_of_ble_eq_true rfl)) dX1_put_18 ⟨Nat.le_of_ble_eq_true rfl, Nat.le_of_ble_eq_true rfl⟩) hS (fun q _ h => hFc q h) hFc (fun u t H1 locs ht hvm hw hB hz1 hk1 hS => ?_)
    obtain ⟨hP1, hD1⟩ := hB
    rw [ht] at hP1
    obtain ⟨z8, i_7, rfl⟩ := hw
    have i_7 : z8 = tset k_f e_b.toInt 24 p_r.toInt k_h.toInt p_v := i_7
    obtain ⟨hP, hD⟩ := va_join (wr := [(a_h, (oc1 e_wa e_le e_st e_fo e_lc a_l a_g a_b a_s a_p a_w e_gb a_bb)), (a_bb, (arJ G 24 k_b))]) hP hD [1, 2] [0, 3] rfl rfl (by decide) (by decide) hk1 hFc hP1 hD1
    generalize H1 = H at hP hS ⊢
    refine g5_rs [(a_h, (oc1 e_wa e_le e_st e_fo e_lc a_l a_g a_b a_s a_p a_w e_gb a_bb)), (a_bb, (arJ G 24 k_b)), (a_b, (oc6 5 24 a_bn e_b)), (a_bn, (arI G 120 z8))] hP hD (fun hP hD => ?_)
    refine lv_lconst (v := 0) hx hb dX1_put_21 (by decide) ?_
    refine lv_lstore (lv' := [(6, .long 0), (5, .int k_h), (0, .ref a_h), (1, .int p_r), (2, .int p_f), (3, .int p_t), (4, .int p_v)]) hx hb dX1_put_22 hl (by decide) rfl (fun ls hl => ?_)
    refine lv_iconst (v := 0) hx hb dX1_put_24 (by decide) ?_
    refine lv_istore (lv' := [(8, .int 0), (6, .long 0), (5, .int k_h), (0, .ref a_h), (1, .int p_r), (2, .int p_f), (3, .int p_t), (4, .int p_v)]) hx hb dX1_put_25 hl (by decide) rfl (fun ls hl => ?_)
    refine g5_loop (α := (Int32) × (Int64)) (fun (q : (Int32) × (Int64)) (ls : Array Slot) (H : Heap) (locs : List Loc) => match q with | (k_o, k_x) => lv_has ls 10 [(6, .long k_x), (8, .int k_o), (5, .int k_h), (0, .ref a_h), (1, .int p_r), (2, .int p_f), (3, .int p_t), (4, .int p_v)] ∧ va_P G.1 vwCl [(a_h, (oc1 e_wa e_le e_st e_fo e_lc a_l a_g a_b a_s a_p a_w e_gb a_bb)), (a_bb, (arJ G 24 k_b)), (a_b, (oc6 5 24 a_bn e_b)), (a_bn, (arI G 120 z8))] H ∧ va_D A [(a_h, (oc1 e_wa e_le e_st e_fo e_lc a_l a_g a_b a_s a_p a_w e_gb a_bb)), (a_bb, (arJ G 24 k_b)), (a_b, (oc6 5 24 a_bn e_b)), (a_bn, (arI G 120 z8))] ∧ va_S A s.heap H locs ∧ (0 ≤ k_o.toInt ∧ k_o.toInt ≤ 5) ∧ (k_o.toInt ≤ e_b.toInt) ∧ (k_x = bbd z8 e_b.toInt k_h.toInt k_o.toInt.toNat)) (fun (q : (Int32) × (Int64)) => match q with | (k_o, k_x) => Int.toNat (5 - k_o.toInt)) (0, 0) ⟨lv_sub hl [1, 0, 2, 3, 4, 5, 6, 7] rfl, hP, hD, hS, ⟨by decide, by decide⟩, by have z0 : (0 : Int32).toInt = 0 := (by decide); omega, b_bbd0⟩ ?_
    rintro ⟨k_o, k_x⟩ ls H locs ⟨hl, hP, hD, hS, i_9, i_10, i_11⟩ ih_27_12
    have hl : lv_has ls 10 [(6, .long k_x), (8, .int k_o), (5, .int k_h), (0, .ref a_h), (1, .int p_r), (2, .int p_f), (3, .int p_t), (4, .int p_v)] := hl
    have i_9 : 0 ≤ k_o.toInt ∧ k_o.toInt ≤ 5 := i_9
    have i_10 : k_o.toInt ≤ e_b.toInt := i_10
    have i_11 : k_x = bbd z8 e_b.toInt k_h.toInt k_o.toInt.toNat := i_11
    refine g5_rs [(a_h, (oc1 e_wa e_le e_st e_fo e_lc a_l a_g a_b a_s a_p a_w e_gb a_bb)), (a_bb, (arJ G 24 k_b)), (a_b, (oc6 5 24 a_bn e_b)), (a_bn, (arI G 120 z8))] hP hD (fun hP hD => ?_)
    refine lv_iload hx hb dX1_put_27 (lv_at hl 1 rfl) ?_
    refine lv_aload_n hx hb dX1_put_29 rfl (lv_at hl 3 rfl) ?_
    refine va_get (D := G.1) (ci := 1) (v := .ref a_b) (C := RX1) (T := TX1) (N := 13) hx hb hts inG_X1 hown hK hP 0 rfl rfl 7 (by decide) (hts _ fl_X1_43) (fun _ h9 => h9) rfl dX1_put_30 ?_
    refine va_get (D := G.1) (ci := 6) (v := .int e_b) (C := RX6) (T := TX6) (N := 4) hx hb hts inG_X6 hown hK hP 2 rfl rfl 3 (by decide) (hts _ fl_X1_74) (fun _ h9 => h9) rfl dX1_put_33 ?_
    refine lv_icmp_ge (tgt := 77) hx hb dX1_put_36 (by decide) (fun c_13 => ?_) (fun c_13 => ?_)
    ·
      have i_13 : k_o.toInt ≥ e_b.toInt := by have z := g5_ge (a := k_o.toInt) (b := e_b.toInt) (by rfl) (by rfl) c_13; omega
      refine lv_aload_n hx hb dX1_put_77 rfl (lv_at hl 3 rfl) ?_
      refine va_get (D := G.1) (ci := 1) (v := .ref a_bb) (C := RX1) (T := TX1) (N := 13) hx hb hts inG_X1 hown hK hP 0 rfl rfl 12 (by decide) (hts _ fl_X1_58) (fun _ h9 => h9) rfl dX1_put_78 ?_
      refine lv_iload hx hb dX1_put_81 (lv_at hl 2 rfl) ?_
      refine lv_lload hx hb dX1_put_83 (lv_at hl 0 rfl) ?_
      refine va_last hx hb hK hP hD hS 1 1 rfl rfl (i := k_h) (x := k_x) (vp_in_iff.mpr ⟨by omega, by omega⟩) dX1_put_85 (fun H locs hP hD hS => ?_)
      refine g5_rs [(a_h, (oc1 e_wa e_le e_st e_fo e_lc a_l a_g a_b a_s a_p a_w e_gb a_bb)), (a_bb, (arJ G 24 (vp_updL k_b k_h.toNatClampNeg k_x))), (a_b, (oc6 5 24 a_bn e_b)), (a_bn, (arI G 120 z8))] hP hD (fun hP hD => ?_)
      refine lv_iinc (v := (k_h + 1)) (lv' := [(5, .int (k_h + 1)), (6, .long k_x), (8, .int k_o), (0, .ref a_h), (1, .int p_r), (2, .int p_f), (3, .int p_t), (4, .int p_v)]) hx hb dX1_put_86 hl (k := 2) rfl rfl (by decide) rfl (fun ls hl => ?_)
      have t_14 : (k_h + 1).toInt = k_h.toInt + 1 := g5_iadd (a := k_h.toInt) (b := 1) rfl (by decide) (by omega) (by omega)
      refine lv_goto (tgt := 3) hx hb dX1_put_89 (by decide) ?_
      exact ih_3_5 ((k_h + 1), z8, (vp_updL k_b k_h.toNatClampNeg k_x)) ls H locs (show Int.toNat (24 - (k_h + 1).toInt) < Int.toNat (24 - k_h.toInt) from g_up (show k_h.toInt < (k_h + 1).toInt by omega) (show k_h.toInt < 24 by omega)) ⟨lv_sub hl [0, 3, 4, 5, 6, 7] rfl, hP.sub [0, 2, 3, 1] rfl, hD.sub [0, 2, 3, 1] (by decide) rfl, hS, ⟨by omega, by omega⟩, ⟨by omega, by omega⟩, i_7.trans (b_putS i_3 (by omega) (by omega) (by omega) (by omega)), by rw [i_7]; exact b_step (by omega) i_4 (by rw [← i_7, i_11, show k_o.toInt = e_b.toInt by omega])⟩
    ·
      have i_13 : k_o.toInt < e_b.toInt := by have z := g5_geN (a := k_o.toInt) (b := e_b.toInt) (by rfl) (by rfl) c_13; omega
      refine lv_aload_n hx hb dX1_put_39 rfl (lv_at hl 3 rfl) ?_
      refine va_get (D := G.1) (ci := 1) (v := .ref a_b) (C := RX1) (T := TX1) (N := 13) hx hb hts inG_X1 hown hK hP 0 rfl rfl 7 (by decide) (hts _ fl_X1_43) (fun _ h9 => h9) rfl dX1_put_40 ?_
      refine lv_iload hx hb dX1_put_43 (lv_at hl 1 rfl) ?_
      refine lv_iload hx hb dX1_put_45 (lv_at hl 2 rfl) ?_
      obtain ⟨hPc, hDc, hFc⟩ := g5_sub3 (wc := [(a_b, (oc6 5 24 a_bn e_b)), (a_bn, (arI G 120 z8))]) hP hD hS hA [2, 3] (by decide) rfl
      refine va_calli (va_runV (As := [.int k_o, .int k_h]) (rest := []) ⟨hx, hb, hml, hown, hts⟩ (t_get_B l G a_b a_bn H.size e_b k_o k_h z8 h_e_b) (cwV 2 hts gV_X1_77 rfl rfl rfl hv_X6_get ⟨Nat.le_of_ble_eq_true rfl, Nat.le_of_ble_eq_true rfl⟩) (g5_preV hPc hK hDc hN hT hS hFc (ci := 6) (q0 := 0) rfl rfl) rfl rfl hl.1 rfl (lv_room (Nat.le_of_ble_eq_true rfl)) dX1_put_47 ⟨Nat.le_of_ble_eq_true rfl, Nat.le_of_ble_eq_true rfl⟩) hS (fun q _ h => hFc q h) hFc (fun r u t H1 locs ht hvm hw hB hz1 hk1 hS => ?_)
      obtain ⟨hP1, hD1⟩ := hB
      rw [ht] at hP1
      obtain ⟨z16, i_15, y17, rfl⟩ := hw
      have i_15 : z16 = tget z8 e_b.toInt 24 k_o.toInt k_h.toInt := i_15
      obtain ⟨hP, hD⟩ := va_join (wr := [(a_h, (oc1 e_wa e_le e_st e_fo e_lc a_l a_g a_b a_s a_p a_w e_gb a_bb)), (a_bb, (arJ G 24 k_b))]) hP hD [2, 3] [0, 1] rfl rfl (by decide) (by decide) hk1 hFc hP1 hD1
      generalize H1 = H at hP hS ⊢
      refine g5_rs [(a_h, (oc1 e_wa e_le e_st e_fo e_lc a_l a_g a_b a_s a_p a_w e_gb a_bb)), (a_bb, (arJ G 24 k_b)), (a_b, (oc6 5 24 a_bn e_b)), (a_bn, (arI G 120 z8))] hP hD (fun hP hD => ?_)
      refine g5_ti (v := z16) y17 ?_
      refine lv_istore (lv' := [(9, .int z16), (6, .long k_x), (8, .int k_o), (5, .int k_h), (0, .ref a_h), (1, .int p_r), (2, .int p_f), (3, .int p_t), (4, .int p_v)]) hx hb dX1_put_50 hl (by decide) rfl (fun ls hl => ?_)
      refine lv_lload hx hb dX1_put_52 (lv_at hl 1 rfl) ?_
      refine lv_iload hx hb dX1_put_54 (lv_at hl 0 rfl) ?_
      refine lv_iconst (v := (-1)) hx hb dX1_put_56 (by decide) ?_
      refine lv_icmp_ne (tgt := 64) hx hb dX1_put_57 (by decide) (fun c_18 => ?_) (fun c_18 => ?_)
      ·
        have n_18 : gNe (z16.toInt) ((-1)) := by have z := g5_ne (a := z16.toInt) (b := (-1)) (by rfl) (by decide) c_18; unfold gNe; omega
        refine lv_lconst (v := 1) hx hb dX1_put_64 (by decide) ?_
        refine lv_iload hx hb dX1_put_65 (lv_at hl 0 rfl) ?_
        refine lv_lshl (v := ((1 : Int64) <<< (z16.toInt64 &&& 63))) hx hb dX1_put_67 rfl ?_
        refine lv_lor hx hb dX1_put_68 ?_
        refine lv_lstore (lv' := [(6, .long (k_x ||| ((1 : Int64) <<< (z16.toInt64 &&& 63)))), (9, .int z16), (8, .int k_o), (5, .int k_h), (0, .ref a_h), (1, .int p_r), (2, .int p_f), (3, .int p_t), (4, .int p_v)]) hx hb dX1_put_69 hl (by decide) rfl (fun ls hl => ?_)
        refine lv_iinc (v := (k_o + 1)) (lv' := [(8, .int (k_o + 1)), (6, .long (k_x ||| ((1 : Int64) <<< (z16.toInt64 &&& 63)))), (9, .int z16), (5, .int k_h), (0, .ref a_h), (1, .int p_r), (2, .int p_f), (3, .int p_t), (4, .int p_v)]) hx hb dX1_put_71 hl (k := 2) rfl rfl (by decide) rfl (fun ls hl => ?_)
        have t_19 : (k_o + 1).toInt = k_o.toInt + 1 := g5_iadd (a := k_o.toInt) (b := 1) rfl (by decide) (by omega) (by omega)
        refine lv_goto (tgt := 27) hx hb dX1_put_74 (by decide) ?_
        exact ih_27_12 ((k_o + 1), (k_x ||| ((1 : Int64) <<< (z16.toInt64 &&& 63)))) ls H locs (show Int.toNat (5 - (k_o + 1).toInt) < Int.toNat (5 - k_o.toInt) from g_up (show k_o.toInt < (k_o + 1).toInt by omega) (show k_o.toInt < 5 by omega)) ⟨lv_sub hl [1, 0, 3, 4, 5, 6, 7, 8] rfl, hP, hD, hS, ⟨by omega, by omega⟩, by omega, b_bbdS i_11 i_15 n_18 (by omega) (by omega)⟩
      ·
        have i_18 : z16.toInt = (-1) := by have z := g5_neN (a := z16.toInt) (b := (-1)) (by rfl) (by decide) c_18; omega
        refine lv_lconst (v := 0) hx hb dX1_put_60 (by decide) ?_
        refine lv_goto (tgt := 68) hx hb dX1_put_61 (by decide) ?_
        refine lv_lor hx hb dX1_put_68 ?_
        refine g5_tl (v := k_x) (by simp) ?_
        refine lv_lstore (lv' := [(6, .long k_x), (9, .int z16), (8, .int k_o), (5, .int k_h), (0, .ref a_h), (1, .int p_r), (2, .int p_f), (3, .int p_t), (4, .int p_v)]) hx hb dX1_put_69 hl (by decide) rfl (fun ls hl => ?_)
        refine lv_iinc (v := (k_o + 1)) (lv' := [(8, .int (k_o + 1)), (6, .long k_x), (9, .int z16), (5, .int k_h), (0, .ref a_h), (1, .int p_r), (2, .int p_f), (3, .int p_t), (4, .int p_v)]) hx hb dX1_put_71 hl (k := 2) rfl rfl (by decide) rfl (fun ls hl => ?_)
        have t_20 : (k_o + 1).toInt = k_o.toInt + 1 := g5_iadd (a := k_o.toInt) (b := 1) rfl (by decide) (by omega) (by omega)
        refine lv_goto (tgt := 27) hx hb dX1_put_74 (by decide) ?_
        exact ih_27_12 ((k_o + 1), k_x) ls H locs (show Int.toNat (5 - (k_o + 1).toInt) < Int.toNat (5 - k_o.toInt) from g_up (show k_o.toInt < (k_o + 1).toInt by omega) (show k_o.toInt < 5 by omega)) ⟨lv_sub hl [1, 0, 3, 4, 5, 6, 7, 8] rfl, hP, hD, hS, ⟨by omega, by omega⟩, by omega, b_bbdN i_11 i_15 (by omega) (by omega) (by omega)⟩
