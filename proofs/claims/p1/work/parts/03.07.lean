set_option maxHeartbeats 4000000 in
set_option maxRecDepth 100000 in
theorem kX11_isDust (l : Launch) (G : g5_G) (sz : Nat) (n0 : Int32) : Met l yX11_isDust (wsG yX11_isDust cX11_isDust 1 (some .boolean)) ({ frames := 0, cells := 0, slots := 0, locals := 0 }) (va_Pc [.int n0] (g5_P G [] sz)) (va_Qi (fun (r : Int32) (u : va_W) => ((n0.toInt < 0) ∧ (r = 0) ∧ (u = [])) ∨ ((n0.toInt ≥ 0) ∧ (n0.toInt > 10) ∧ (r = 0) ∧ (u = [])) ∨ ((n0.toInt ≥ 0) ∧ (n0.toInt ≤ 10) ∧ (r = 1) ∧ (u = []))) (g5_B G (va_A [] sz)) (va_A [] sz)) 0 0 (va_A [] sz) := by
  refine Met.ofW (cc := cX11_isDust) (maxL := 1) (ret := (some .boolean)) (by decide) rfl ?_
  intro p e s m args below meth c s₁ B hml hv
  obtain ⟨rfl, hsz, hP, hK, hD0, hN, hT⟩ := hv
  have hx := B.exec
  have hb := B.bytes
  have hr := B.returns
  have hts : ∀ w ∈ tblG, w.before _ s = true := fun w h => atoms_spec (ws := (wsG yX11_isDust cX11_isDust 1 (some .boolean))) B.pre w (List.mem_cons_of_mem _ h)
  have hown : s.vm.findClass RX11 = some m.cls := findClass_of_methodNamed B.named
  have hlocks := B.notSynchronized
  subst hsz
  have hD := hD0.self (sz := s.heap.size)
  generalize hAe : va_A [] s.heap.size = A at hD hT ⊢
  have hA : ∀ q : Nat, s.heap.size ≤ q → A q := fun q h => by rw [← hAe]; exact Or.inr h
  have hS : va_S A s.heap s.heap [] := va_S.rf
  have hP : va_P G.1 vwCl [] s.heap := hP
  have hl := lv_entry ([.int n0]) (n := 1) (Nat.le_of_ble_eq_true rfl)
  rw [lg_entry_eq]
  generalize (lg_sl ([.int n0]) ++ List.replicate (1 - (lg_sl ([.int n0])).length) Slot.unset).toArray = ls at hl ⊢
  have hl : lv_has ls 1 [(0, .int n0)] := hl
  refine lv_iload_n hx hb dX11_isDust_0 rfl (lv_at hl 0 rfl) ?_
  refine lv_if_lt (tgt := 14) hx hb dX11_isDust_1 (by decide) (fun c_1 => ?_) (fun c_1 => ?_)
  ·
    have i_1 : n0.toInt < 0 := by have z := g5_lt (a := n0.toInt) (b := 0) (by rfl) (by decide) c_1; omega
    refine lv_iconst (v := 0) hx hb dX11_isDust_14 (by decide) ?_
    exact W.zret (v := 0) hx hb hr rfl (fun t ht hW => ⟨⟨0, [], rfl, Or.inl (⟨i_1, rfl, rfl⟩), by rw [ht]; exact hP, hD⟩, hS.F ht⟩) hS.2.2 dX11_isDust_15
  ·
    have i_1 : n0.toInt ≥ 0 := by have z := g5_ltN (a := n0.toInt) (b := 0) (by rfl) (by decide) c_1; omega
    refine lv_iload_n hx hb dX11_isDust_4 rfl (lv_at hl 0 rfl) ?_
    refine lv_bipush (v := 10) hx hb dX11_isDust_5 (by decide) ?_
    refine lv_icmp_gt (tgt := 14) hx hb dX11_isDust_7 (by decide) (fun c_2 => ?_) (fun c_2 => ?_)
    ·
      have i_2 : n0.toInt > 10 := by have z := g5_gt (a := n0.toInt) (b := 10) (by rfl) (by decide) c_2; omega
      refine lv_iconst (v := 0) hx hb dX11_isDust_14 (by decide) ?_
      exact W.zret (v := 0) hx hb hr rfl (fun t ht hW => ⟨⟨0, [], rfl, Or.inr (Or.inl (⟨i_1, i_2, rfl, rfl⟩)), by rw [ht]; exact hP, hD⟩, hS.F ht⟩) hS.2.2 dX11_isDust_15
    ·
      have i_2 : n0.toInt ≤ 10 := by have z := g5_gtN (a := n0.toInt) (b := 10) (by rfl) (by decide) c_2; omega
      refine lv_iconst (v := 1) hx hb dX11_isDust_10 (by decide) ?_
      refine lv_goto (tgt := 15) hx hb dX11_isDust_11 (by decide) ?_
      exact W.zret (v := 1) hx hb hr rfl (fun t ht hW => ⟨⟨1, [], rfl, Or.inr (Or.inr (⟨i_1, i_2, rfl, rfl⟩)), by rw [ht]; exact hP, hD⟩, hS.F ht⟩) hS.2.2 dX11_isDust_15
theorem ml_X11_130 : Cond.methodLink RX11 130 yX11_isDust ∈ tblG := tg 541 (by decide +kernel) (by decide +kernel)
theorem st_X11_isDust : Cond.static yX11_isDust ∈ tblG := tg 542 (by decide +kernel) (by decide +kernel)
theorem cd_X11_isDust : Cond.code yX11_isDust cX11_isDust 1 (some .boolean) ∈ tblG := tg 543 (by decide +kernel) (by decide +kernel)
theorem gW_X11_isDust : GoodIn tblG (wsG yX11_isDust cX11_isDust 1 (some .boolean)) := tgi cd_X11_isDust
theorem gS_X11_130 : GoodIn tblG (va_wsS RX11 130 yX11_isDust (wsG yX11_isDust cX11_isDust 1 (some .boolean))) := tgS ml_X11_130 st_X11_isDust ini_X11 gW_X11_isDust
theorem hs_X11_isDust : yX11_isDust.cls ≠ "java/lang/invoke/MethodHandle" ∧ yX11_isDust.cls ≠ "java/lang/invoke/VarHandle" ∧ (parseMethodDescriptor yX11_isDust.desc).map (fun d => d.parameters.length) = some 1 := by decide +kernel
theorem dX1_canHang_0 : decode cX1_canHang 0 = .ok (.aload_n 0, 1) := by decide +kernel
theorem dX1_canHang_1 : decode cX1_canHang 1 = .ok (.getfield 9, 3) := by decide +kernel
theorem dX1_canHang_4 : decode cX1_canHang 4 = .ok (.aload_n 0, 1) := by decide +kernel
theorem dX1_canHang_5 : decode cX1_canHang 5 = .ok (.getfield 55, 3) := by decide +kernel
theorem dX1_canHang_8 : decode cX1_canHang 8 = .ok (.lor, 1) := by decide +kernel
theorem dX1_canHang_9 : decode cX1_canHang 9 = .ok (.iload_n 1, 1) := by decide +kernel
theorem dX1_canHang_10 : decode cX1_canHang 10 = .ok (.invokestatic 62, 3) := by decide +kernel
theorem dX1_canHang_13 : decode cX1_canHang 13 = .ok (.ifCond .ne 20, 3) := by decide +kernel
theorem dX1_canHang_16 : decode cX1_canHang 16 = .ok (.aload_n 0, 1) := by decide +kernel
theorem dX1_canHang_17 : decode cX1_canHang 17 = .ok (.getfield 49, 3) := by decide +kernel
theorem dX1_canHang_20 : decode cX1_canHang 20 = .ok (.iconst 0, 1) := by decide +kernel
theorem dX1_canHang_21 : decode cX1_canHang 21 = .ok (.iload_n 1, 1) := by decide +kernel
theorem dX1_canHang_22 : decode cX1_canHang 22 = .ok (.invokevirtual 66, 3) := by decide +kernel
theorem dX1_canHang_25 : decode cX1_canHang 25 = .ok (.iconst (-1), 1) := by decide +kernel
theorem dX1_canHang_26 : decode cX1_canHang 26 = .ok (.if_icmp .ne 7, 3) := by decide +kernel
theorem dX1_canHang_29 : decode cX1_canHang 29 = .ok (.iconst 1, 1) := by decide +kernel
theorem dX1_canHang_30 : decode cX1_canHang 30 = .ok (.goto 4, 3) := by decide +kernel
theorem dX1_canHang_33 : decode cX1_canHang 33 = .ok (.iconst 0, 1) := by decide +kernel
theorem dX1_canHang_34 : decode cX1_canHang 34 = .ok (.ireturn, 1) := by decide +kernel
set_option maxHeartbeats 4000000 in
set_option maxRecDepth 100000 in
theorem kX1_canHang (l : Launch) (G : g5_G) (a0 a1 a2 a3 a4 a5 a6 a7 a8 : Nat) (sz : Nat) (n0 : Int32) (h_n0 : 0 ≤ n0.toInt ∧ n0.toInt ≤ 63) : Met l yX1_canHang (wsG yX1_canHang cX1_canHang 2 (some .boolean)) ({ frames := 1, cells := 0, slots := 0, locals := 23 }) (va_Pc [.ref a0, .int n0] (g5_P G [(a0, .inr (1, [.long 0, .int 1000, .int (-1), .int (-1), .int 0, .ref a1, .ref a2, .ref a3, .ref a4, .ref a5, .ref a6, .long 0, .ref a7])), (a5, .inr (6, [.int 8, .int 5, .ref a8, .int 0]))] sz)) (va_Qi (fun (r : Int32) (u : va_W) => ((r = 1) ∧ (u = [(a0, .inr (1, [.long 0, .int 1000, .int (-1), .int (-1), .int 0, .ref a1, .ref a2, .ref a3, .ref a4, .ref a5, .ref a6, .long 0, .ref a7])), (a5, .inr (6, [.int 8, .int 5, .ref a8, .int 0]))]))) (g5_B G (va_A [(a0, .inr (1, [.long 0, .int 1000, .int (-1), .int (-1), .int 0, .ref a1, .ref a2, .ref a3, .ref a4, .ref a5, .ref a6, .long 0, .ref a7])), (a5, .inr (6, [.int 8, .int 5, .ref a8, .int 0]))] sz)) (va_A [(a0, .inr (1, [.long 0, .int 1000, .int (-1), .int (-1), .int 0, .ref a1, .ref a2, .ref a3, .ref a4, .ref a5, .ref a6, .long 0, .ref a7])), (a5, .inr (6, [.int 8, .int 5, .ref a8, .int 0]))] sz)) 0 0 (va_A [(a0, .inr (1, [.long 0, .int 1000, .int (-1), .int (-1), .int 0, .ref a1, .ref a2, .ref a3, .ref a4, .ref a5, .ref a6, .long 0, .ref a7])), (a5, .inr (6, [.int 8, .int 5, .ref a8, .int 0]))] sz) := by
  refine Met.ofW (cc := cX1_canHang) (maxL := 2) (ret := (some .boolean)) (by decide) rfl ?_
  intro p e s m args below meth c s₁ B hml hv
  obtain ⟨rfl, hsz, hP, hK, hD0, hN, hT⟩ := hv
  have hx := B.exec
  have hb := B.bytes
  have hr := B.returns
  have hts : ∀ w ∈ tblG, w.before _ s = true := fun w h => atoms_spec (ws := (wsG yX1_canHang cX1_canHang 2 (some .boolean))) B.pre w (List.mem_cons_of_mem _ h)
  have hown : s.vm.findClass RX1 = some m.cls := findClass_of_methodNamed B.named
  have hlocks := B.notSynchronized
  subst hsz
  have hD := hD0.self (sz := s.heap.size)
  generalize hAe : va_A [(a0, .inr (1, [.long 0, .int 1000, .int (-1), .int (-1), .int 0, .ref a1, .ref a2, .ref a3, .ref a4, .ref a5, .ref a6, .long 0, .ref a7])), (a5, .inr (6, [.int 8, .int 5, .ref a8, .int 0]))] s.heap.size = A at hD hT ⊢
  have hA : ∀ q : Nat, s.heap.size ≤ q → A q := fun q h => by rw [← hAe]; exact Or.inr h
  have hS : va_S A s.heap s.heap [] := va_S.rf
  have hP : va_P G.1 vwCl [(a0, .inr (1, [.long 0, .int 1000, .int (-1), .int (-1), .int 0, .ref a1, .ref a2, .ref a3, .ref a4, .ref a5, .ref a6, .long 0, .ref a7])), (a5, .inr (6, [.int 8, .int 5, .ref a8, .int 0]))] s.heap := hP
  have hl := lv_entry ([.ref a0, .int n0]) (n := 2) (Nat.le_of_ble_eq_true rfl)
  rw [lg_entry_eq]
  generalize (lg_sl ([.ref a0, .int n0]) ++ List.replicate (2 - (lg_sl ([.ref a0, .int n0])).length) Slot.unset).toArray = ls at hl ⊢
  have hl : lv_has ls 2 [(0, .ref a0), (1, .int n0)] := hl
  refine lv_aload_n hx hb dX1_canHang_0 rfl (lv_at hl 0 rfl) ?_
  refine va_get (D := G.1) (ci := 1) (v := .long 0) (C := RX1) (T := TX1) (N := 13) hx hb hts inG_X1 hown hK hP 0 rfl rfl 0 (by decide) (hts _ fl_X1_9) (fun _ h9 => h9) rfl dX1_canHang_1 ?_
  refine lv_aload_n hx hb dX1_canHang_4 rfl (lv_at hl 0 rfl) ?_
  refine va_get (D := G.1) (ci := 1) (v := .long 0) (C := RX1) (T := TX1) (N := 13) hx hb hts inG_X1 hown hK hP 0 rfl rfl 11 (by decide) (hts _ fl_X1_55) (fun _ h9 => h9) rfl dX1_canHang_5 ?_
  refine lv_lor hx hb dX1_canHang_8 ?_
  refine g5_tl (v := 0) (by decide) ?_
  refine lv_iload_n hx hb dX1_canHang_9 rfl (lv_at hl 1 rfl) ?_
  have hPc := hP.sub (ws' := []) [] rfl
  have hDc := hD.sub (ws' := []) [] (by decide) rfl
  have hFc := va_free (wc := []) hD hS hA [] rfl
  refine va_calli (va_runSN (As := [.long 0, .int n0]) (rest := []) ⟨hx, hb, hml, hown, hts⟩ (kX11_isOn_5 l G s.heap.size n0 ⟨by omega, by omega⟩) ⟨va_cnB 2 hts gW_X11_isOn rfl rfl rfl (hN.1 _ g5_nw_X1_62) (hts _ ini_X11) hs_X11_isOn ⟨Nat.le_of_ble_eq_true rfl, Nat.le_of_ble_eq_true rfl⟩, hts _ st_X11_isOn, trivial⟩ (g5_preS hPc hK hDc hN hT hS hFc) rfl rfl hl.1 rfl (lv_room (Nat.le_of_ble_eq_true rfl)) dX1_canHang_10 ⟨Nat.le_of_ble_eq_true rfl, Nat.le_of_ble_eq_true rfl⟩) hS (fun q _ h => hFc q h) hFc (fun r u t H1 locs ht hvm hw hB hz1 hk1 hS => ?_)
  obtain ⟨hP1, hD1⟩ := hB
  rw [ht] at hP1
  obtain ⟨rfl, rfl⟩ := hw
  have hP := g5_same hP hk1
  generalize H1 = H at hP hS ⊢
  refine lv_if_ne (tgt := 33) hx hb dX1_canHang_13 (by decide) (fun c_1 => ?_) (fun c_1 => ?_)
  ·
    exact absurd c_1 (by decide)
  ·
    refine lv_aload_n hx hb dX1_canHang_16 rfl (lv_at hl 0 rfl) ?_
    refine va_get (D := G.1) (ci := 1) (v := .ref a5) (C := RX1) (T := TX1) (N := 13) hx hb hts inG_X1 hown hK hP 0 rfl rfl 9 (by decide) (hts _ fl_X1_49) (fun _ h9 => h9) rfl dX1_canHang_17 ?_
    refine lv_iconst (v := 0) hx hb dX1_canHang_20 (by decide) ?_
    refine lv_iload_n hx hb dX1_canHang_21 rfl (lv_at hl 1 rfl) ?_
    have hPc := hP.sub (ws' := [(a5, .inr (6, [.int 8, .int 5, .ref a8, .int 0]))]) [1] rfl
    have hDc := hD.sub (ws' := [(a5, .inr (6, [.int 8, .int 5, .ref a8, .int 0]))]) [1] (by decide) rfl
    have hFc := va_free (wc := [(a5, .inr (6, [.int 8, .int 5, .ref a8, .int 0]))]) hD hS hA [1] rfl
    refine va_calli (va_runV (As := [.int 0, .int n0]) (rest := []) ⟨hx, hb, hml, hown, hts⟩ (kX6_find l G a5 a8 H.size n0 ⟨by omega, by omega⟩) (cwV 2 hts gV_X1_66 rfl rfl rfl hv_X6_find ⟨Nat.le_of_ble_eq_true rfl, Nat.le_of_ble_eq_true rfl⟩) (g5_preV hPc hK hDc hN hT hS hFc (ci := 6) (q0 := 0) rfl rfl) rfl rfl hl.1 rfl (lv_room (Nat.le_of_ble_eq_true rfl)) dX1_canHang_22 ⟨Nat.le_of_ble_eq_true rfl, Nat.le_of_ble_eq_true rfl⟩) hS (fun q _ h => hFc q h) hFc (fun r u t H1 locs ht hvm hw hB hz1 hk1 hS => ?_)
    obtain ⟨hP1, hD1⟩ := hB
    rw [ht] at hP1
    obtain ⟨rfl, rfl⟩ := hw
    obtain ⟨hP, hD⟩ := va_join (wr := [(a0, .inr (1, [.long 0, .int 1000, .int (-1), .int (-1), .int 0, .ref a1, .ref a2, .ref a3, .ref a4, .ref a5, .ref a6, .long 0, .ref a7]))]) (w1 := [(a5, .inr (6, [.int 8, .int 5, .ref a8, .int 0]))]) hP hD [1] [0] rfl rfl (by decide) (by decide) hk1 hFc hP1 hD1
    generalize H1 = H at hP hS ⊢
    have hP : va_P G.1 vwCl [(a0, .inr (1, [.long 0, .int 1000, .int (-1), .int (-1), .int 0, .ref a1, .ref a2, .ref a3, .ref a4, .ref a5, .ref a6, .long 0, .ref a7])), (a5, .inr (6, [.int 8, .int 5, .ref a8, .int 0]))] H := hP
    have hD : va_D A [(a0, .inr (1, [.long 0, .int 1000, .int (-1), .int (-1), .int 0, .ref a1, .ref a2, .ref a3, .ref a4, .ref a5, .ref a6, .long 0, .ref a7])), (a5, .inr (6, [.int 8, .int 5, .ref a8, .int 0]))] := hD
    refine lv_iconst (v := (-1)) hx hb dX1_canHang_25 (by decide) ?_
    refine lv_icmp_ne (tgt := 33) hx hb dX1_canHang_26 (by decide) (fun c_2 => ?_) (fun c_2 => ?_)
    ·
      exact absurd c_2 (by decide)
    ·
      refine lv_iconst (v := 1) hx hb dX1_canHang_29 (by decide) ?_
      refine lv_goto (tgt := 34) hx hb dX1_canHang_30 (by decide) ?_
      exact W.zret (v := 1) hx hb hr rfl (fun t ht hW => ⟨⟨1, [(a0, .inr (1, [.long 0, .int 1000, .int (-1), .int (-1), .int 0, .ref a1, .ref a2, .ref a3, .ref a4, .ref a5, .ref a6, .long 0, .ref a7])), (a5, .inr (6, [.int 8, .int 5, .ref a8, .int 0]))], rfl, ⟨rfl, rfl⟩, by rw [ht]; exact hP, hD⟩, hS.F ht⟩) hS.2.2 dX1_canHang_34
theorem ml_X11_133 : Cond.methodLink RX11 133 yX1_canHang ∈ tblG := tg 544 (by decide +kernel) (by decide +kernel)
theorem im_X1_canHang : Cond.instanceMethod yX1_canHang ∈ tblG := tg 545 (by decide +kernel) (by decide +kernel)
theorem se_X1_canHang : Cond.selects RX1 yX1_canHang yX1_canHang ∈ tblG := tg 546 (by decide +kernel) (by decide +kernel)
theorem cd_X1_canHang : Cond.code yX1_canHang cX1_canHang 2 (some .boolean) ∈ tblG := tg 547 (by decide +kernel) (by decide +kernel)
theorem gW_X1_canHang : GoodIn tblG (wsG yX1_canHang cX1_canHang 2 (some .boolean)) := tgi cd_X1_canHang
theorem gV_X11_133 : GoodIn tblG (wsV RX11 133 RX1 yX1_canHang (wsG yX1_canHang cX1_canHang 2 (some .boolean))) := tgV ml_X11_133 im_X1_canHang se_X1_canHang ini_X1 gW_X1_canHang
theorem hv_X1_canHang : yX1_canHang.cls = RX1 ∧ yX1_canHang.cls ≠ "java/lang/invoke/MethodHandle" ∧ yX1_canHang.cls ≠ "java/lang/invoke/VarHandle" ∧ (parseMethodDescriptor yX1_canHang.desc).map (fun d => d.parameters.length) = some 1 := by decide +kernel
theorem fl_X11_136 : Cond.fieldLink RX11 136 "LateGlass$House" "glasses" "LLateGlass$Table;" ∈ tblG := tg 171 (by decide +kernel) (by decide +kernel)
theorem dX6_isFull_0 : decode cX6_isFull 0 = .ok (.aload_n 0, 1) := by decide +kernel
theorem dX6_isFull_1 : decode cX6_isFull 1 = .ok (.getfield 9, 3) := by decide +kernel
theorem dX6_isFull_4 : decode cX6_isFull 4 = .ok (.aload_n 0, 1) := by decide +kernel
theorem dX6_isFull_5 : decode cX6_isFull 5 = .ok (.getfield 15, 3) := by decide +kernel
theorem dX6_isFull_8 : decode cX6_isFull 8 = .ok (.if_icmp .lt 7, 3) := by decide +kernel
theorem dX6_isFull_11 : decode cX6_isFull 11 = .ok (.iconst 1, 1) := by decide +kernel
theorem dX6_isFull_12 : decode cX6_isFull 12 = .ok (.goto 4, 3) := by decide +kernel
theorem dX6_isFull_15 : decode cX6_isFull 15 = .ok (.iconst 0, 1) := by decide +kernel
theorem dX6_isFull_16 : decode cX6_isFull 16 = .ok (.ireturn, 1) := by decide +kernel
set_option maxHeartbeats 4000000 in
set_option maxRecDepth 100000 in
theorem kX6_isFull (l : Launch) (G : g5_G) (a0 a1 : Nat) (sz : Nat) : Met l yX6_isFull (wsG yX6_isFull cX6_isFull 1 (some .boolean)) ({ frames := 0, cells := 0, slots := 0, locals := 0 }) (va_Pc [.ref a0] (g5_P G [(a0, .inr (6, [.int 6, .int 5, .ref a1, .int 0]))] sz)) (va_Qi (fun (r : Int32) (u : va_W) => ((r = 0) ∧ (u = [(a0, .inr (6, [.int 6, .int 5, .ref a1, .int 0]))]))) (g5_B G (va_A [(a0, .inr (6, [.int 6, .int 5, .ref a1, .int 0]))] sz)) (va_A [(a0, .inr (6, [.int 6, .int 5, .ref a1, .int 0]))] sz)) 0 0 (va_A [(a0, .inr (6, [.int 6, .int 5, .ref a1, .int 0]))] sz) := by
  refine Met.ofW (cc := cX6_isFull) (maxL := 1) (ret := (some .boolean)) (by decide) rfl ?_
  intro p e s m args below meth c s₁ B hml hv
  obtain ⟨rfl, hsz, hP, hK, hD0, hN, hT⟩ := hv
  have hx := B.exec
  have hb := B.bytes
  have hr := B.returns
  have hts : ∀ w ∈ tblG, w.before _ s = true := fun w h => atoms_spec (ws := (wsG yX6_isFull cX6_isFull 1 (some .boolean))) B.pre w (List.mem_cons_of_mem _ h)
  have hown : s.vm.findClass RX6 = some m.cls := findClass_of_methodNamed B.named
  have hlocks := B.notSynchronized
  subst hsz
  have hD := hD0.self (sz := s.heap.size)
  generalize hAe : va_A [(a0, .inr (6, [.int 6, .int 5, .ref a1, .int 0]))] s.heap.size = A at hD hT ⊢
  have hA : ∀ q : Nat, s.heap.size ≤ q → A q := fun q h => by rw [← hAe]; exact Or.inr h
  have hS : va_S A s.heap s.heap [] := va_S.rf
  have hP : va_P G.1 vwCl [(a0, .inr (6, [.int 6, .int 5, .ref a1, .int 0]))] s.heap := hP
  have hl := lv_entry ([.ref a0]) (n := 1) (Nat.le_of_ble_eq_true rfl)
  rw [lg_entry_eq]
  generalize (lg_sl ([.ref a0]) ++ List.replicate (1 - (lg_sl ([.ref a0])).length) Slot.unset).toArray = ls at hl ⊢
  have hl : lv_has ls 1 [(0, .ref a0)] := hl
  refine lv_aload_n hx hb dX6_isFull_0 rfl (lv_at hl 0 rfl) ?_
  refine va_get (D := G.1) (ci := 6) (v := .int 0) (C := RX6) (T := TX6) (N := 4) hx hb hts inG_X6 hown hK hP 0 rfl rfl 3 (by decide) (hts _ fl_X6_9) (fun _ h9 => h9) rfl dX6_isFull_1 ?_
  refine lv_aload_n hx hb dX6_isFull_4 rfl (lv_at hl 0 rfl) ?_
  refine va_get (D := G.1) (ci := 6) (v := .int 6) (C := RX6) (T := TX6) (N := 4) hx hb hts inG_X6 hown hK hP 0 rfl rfl 0 (by decide) (hts _ fl_X6_15) (fun _ h9 => h9) rfl dX6_isFull_5 ?_
  refine lv_icmp_lt (tgt := 15) hx hb dX6_isFull_8 (by decide) (fun c_1 => ?_) (fun c_1 => ?_)
  ·
    refine lv_iconst (v := 0) hx hb dX6_isFull_15 (by decide) ?_
    exact W.zret (v := 0) hx hb hr rfl (fun t ht hW => ⟨⟨0, [(a0, .inr (6, [.int 6, .int 5, .ref a1, .int 0]))], rfl, ⟨rfl, rfl⟩, by rw [ht]; exact hP, hD⟩, hS.F ht⟩) hS.2.2 dX6_isFull_16
  ·
    exact absurd c_1 (by decide)
theorem ml_X11_140 : Cond.methodLink RX11 140 yX6_isFull ∈ tblG := tg 548 (by decide +kernel) (by decide +kernel)
theorem im_X6_isFull : Cond.instanceMethod yX6_isFull ∈ tblG := tg 549 (by decide +kernel) (by decide +kernel)
theorem se_X6_isFull : Cond.selects RX6 yX6_isFull yX6_isFull ∈ tblG := tg 550 (by decide +kernel) (by decide +kernel)
theorem cd_X6_isFull : Cond.code yX6_isFull cX6_isFull 1 (some .boolean) ∈ tblG := tg 551 (by decide +kernel) (by decide +kernel)
theorem gW_X6_isFull : GoodIn tblG (wsG yX6_isFull cX6_isFull 1 (some .boolean)) := tgi cd_X6_isFull
theorem gV_X11_140 : GoodIn tblG (wsV RX11 140 RX6 yX6_isFull (wsG yX6_isFull cX6_isFull 1 (some .boolean))) := tgV ml_X11_140 im_X6_isFull se_X6_isFull ini_X6 gW_X6_isFull
theorem hv_X6_isFull : yX6_isFull.cls = RX6 ∧ yX6_isFull.cls ≠ "java/lang/invoke/MethodHandle" ∧ yX6_isFull.cls ≠ "java/lang/invoke/VarHandle" ∧ (parseMethodDescriptor yX6_isFull.desc).map (fun d => d.parameters.length) = some 0 := by decide +kernel
theorem ml_X6_33 : Cond.methodLink RX6 33 yX6_isFull ∈ tblG := tg 556 (by decide +kernel) (by decide +kernel)
theorem gV_X6_33 : GoodIn tblG (wsV RX6 33 RX6 yX6_isFull (wsG yX6_isFull cX6_isFull 1 (some .boolean))) := tgV ml_X6_33 im_X6_isFull se_X6_isFull ini_X6 gW_X6_isFull
theorem dX6_has_0 : decode cX6_has 0 = .ok (.iload_n 1, 1) := by decide +kernel
theorem dX6_has_1 : decode cX6_has 1 = .ok (.ifCond .lt 15, 3) := by decide +kernel
theorem dX6_has_4 : decode cX6_has 4 = .ok (.iload_n 1, 1) := by decide +kernel
theorem dX6_has_5 : decode cX6_has 5 = .ok (.aload_n 0, 1) := by decide +kernel
theorem dX6_has_6 : decode cX6_has 6 = .ok (.getfield 9, 3) := by decide +kernel
theorem dX6_has_9 : decode cX6_has 9 = .ok (.if_icmp .ge 7, 3) := by decide +kernel
theorem dX6_has_12 : decode cX6_has 12 = .ok (.iconst 1, 1) := by decide +kernel
theorem dX6_has_13 : decode cX6_has 13 = .ok (.goto 4, 3) := by decide +kernel
theorem dX6_has_16 : decode cX6_has 16 = .ok (.iconst 0, 1) := by decide +kernel
theorem dX6_has_17 : decode cX6_has 17 = .ok (.ireturn, 1) := by decide +kernel
set_option maxHeartbeats 4000000 in
set_option maxRecDepth 100000 in
theorem kX6_has (l : Launch) (G : g5_G) (a0 a1 : Nat) (sz : Nat) : Met l yX6_has (wsG yX6_has cX6_has 2 (some .boolean)) ({ frames := 0, cells := 0, slots := 0, locals := 0 }) (va_Pc [.ref a0, .int 0] (g5_P G [(a0, .inr (6, [.int 6, .int 5, .ref a1, .int 1]))] sz)) (va_Qi (fun (r : Int32) (u : va_W) => ((r = 1) ∧ (u = [(a0, .inr (6, [.int 6, .int 5, .ref a1, .int 1]))]))) (g5_B G (va_A [(a0, .inr (6, [.int 6, .int 5, .ref a1, .int 1]))] sz)) (va_A [(a0, .inr (6, [.int 6, .int 5, .ref a1, .int 1]))] sz)) 0 0 (va_A [(a0, .inr (6, [.int 6, .int 5, .ref a1, .int 1]))] sz) := by
  refine Met.ofW (cc := cX6_has) (maxL := 2) (ret := (some .boolean)) (by decide) rfl ?_
  intro p e s m args below meth c s₁ B hml hv
  obtain ⟨rfl, hsz, hP, hK, hD0, hN, hT⟩ := hv
  have hx := B.exec
  have hb := B.bytes
  have hr := B.returns
  have hts : ∀ w ∈ tblG, w.before _ s = true := fun w h => atoms_spec (ws := (wsG yX6_has cX6_has 2 (some .boolean))) B.pre w (List.mem_cons_of_mem _ h)
  have hown : s.vm.findClass RX6 = some m.cls := findClass_of_methodNamed B.named
  have hlocks := B.notSynchronized
  subst hsz
  have hD := hD0.self (sz := s.heap.size)
  generalize hAe : va_A [(a0, .inr (6, [.int 6, .int 5, .ref a1, .int 1]))] s.heap.size = A at hD hT ⊢
  have hA : ∀ q : Nat, s.heap.size ≤ q → A q := fun q h => by rw [← hAe]; exact Or.inr h
  have hS : va_S A s.heap s.heap [] := va_S.rf
  have hP : va_P G.1 vwCl [(a0, .inr (6, [.int 6, .int 5, .ref a1, .int 1]))] s.heap := hP
  have hl := lv_entry ([.ref a0, .int 0]) (n := 2) (Nat.le_of_ble_eq_true rfl)
  rw [lg_entry_eq]
  generalize (lg_sl ([.ref a0, .int 0]) ++ List.replicate (2 - (lg_sl ([.ref a0, .int 0])).length) Slot.unset).toArray = ls at hl ⊢
  have hl : lv_has ls 2 [(0, .ref a0), (1, .int 0)] := hl
  refine lv_iload_n hx hb dX6_has_0 rfl (lv_at hl 1 rfl) ?_
  refine lv_if_lt (tgt := 16) hx hb dX6_has_1 (by decide) (fun c_1 => ?_) (fun c_1 => ?_)
  ·
    exact absurd c_1 (by decide)
  ·
    refine lv_iload_n hx hb dX6_has_4 rfl (lv_at hl 1 rfl) ?_
    refine lv_aload_n hx hb dX6_has_5 rfl (lv_at hl 0 rfl) ?_
    refine va_get (D := G.1) (ci := 6) (v := .int 1) (C := RX6) (T := TX6) (N := 4) hx hb hts inG_X6 hown hK hP 0 rfl rfl 3 (by decide) (hts _ fl_X6_9) (fun _ h9 => h9) rfl dX6_has_6 ?_
    refine lv_icmp_ge (tgt := 16) hx hb dX6_has_9 (by decide) (fun c_2 => ?_) (fun c_2 => ?_)
    ·
      exact absurd c_2 (by decide)
    ·
      refine lv_iconst (v := 1) hx hb dX6_has_12 (by decide) ?_
      refine lv_goto (tgt := 17) hx hb dX6_has_13 (by decide) ?_
      exact W.zret (v := 1) hx hb hr rfl (fun t ht hW => ⟨⟨1, [(a0, .inr (6, [.int 6, .int 5, .ref a1, .int 1]))], rfl, ⟨rfl, rfl⟩, by rw [ht]; exact hP, hD⟩, hS.F ht⟩) hS.2.2 dX6_has_17
theorem ml_X6_25 : Cond.methodLink RX6 25 yX6_has ∈ tblG := tg 561 (by decide +kernel) (by decide +kernel)
theorem im_X6_has : Cond.instanceMethod yX6_has ∈ tblG := tg 562 (by decide +kernel) (by decide +kernel)
theorem se_X6_has : Cond.selects RX6 yX6_has yX6_has ∈ tblG := tg 563 (by decide +kernel) (by decide +kernel)
theorem cd_X6_has : Cond.code yX6_has cX6_has 2 (some .boolean) ∈ tblG := tg 564 (by decide +kernel) (by decide +kernel)
theorem gW_X6_has : GoodIn tblG (wsG yX6_has cX6_has 2 (some .boolean)) := tgi cd_X6_has
theorem gV_X6_25 : GoodIn tblG (wsV RX6 25 RX6 yX6_has (wsG yX6_has cX6_has 2 (some .boolean))) := tgV ml_X6_25 im_X6_has se_X6_has ini_X6 gW_X6_has
theorem hv_X6_has : yX6_has.cls = RX6 ∧ yX6_has.cls ≠ "java/lang/invoke/MethodHandle" ∧ yX6_has.cls ≠ "java/lang/invoke/VarHandle" ∧ (parseMethodDescriptor yX6_has.desc).map (fun d => d.parameters.length) = some 1 := by decide +kernel
theorem dX6_set_0 : decode cX6_set 0 = .ok (.aload_n 0, 1) := by decide +kernel
theorem dX6_set_1 : decode cX6_set 1 = .ok (.iload_n 1, 1) := by decide +kernel
theorem dX6_set_2 : decode cX6_set 2 = .ok (.invokevirtual 25, 3) := by decide +kernel
theorem dX6_set_5 : decode cX6_set 5 = .ok (.ifCond .eq 29, 3) := by decide +kernel
theorem dX6_set_8 : decode cX6_set 8 = .ok (.iload_n 2, 1) := by decide +kernel
theorem dX6_set_9 : decode cX6_set 9 = .ok (.ifCond .lt 25, 3) := by decide +kernel
theorem dX6_set_12 : decode cX6_set 12 = .ok (.iload_n 2, 1) := by decide +kernel
theorem dX6_set_13 : decode cX6_set 13 = .ok (.aload_n 0, 1) := by decide +kernel
theorem dX6_set_14 : decode cX6_set 14 = .ok (.getfield 18, 3) := by decide +kernel
theorem dX6_set_17 : decode cX6_set 17 = .ok (.if_icmp .ge 17, 3) := by decide +kernel
theorem dX6_set_20 : decode cX6_set 20 = .ok (.aload_n 0, 1) := by decide +kernel
theorem dX6_set_21 : decode cX6_set 21 = .ok (.getfield 21, 3) := by decide +kernel
theorem dX6_set_24 : decode cX6_set 24 = .ok (.iload_n 1, 1) := by decide +kernel
theorem dX6_set_25 : decode cX6_set 25 = .ok (.aload_n 0, 1) := by decide +kernel
theorem dX6_set_26 : decode cX6_set 26 = .ok (.getfield 18, 3) := by decide +kernel
theorem dX6_set_29 : decode cX6_set 29 = .ok (.imul, 1) := by decide +kernel
theorem dX6_set_30 : decode cX6_set 30 = .ok (.iload_n 2, 1) := by decide +kernel
theorem dX6_set_31 : decode cX6_set 31 = .ok (.iadd, 1) := by decide +kernel
theorem dX6_set_32 : decode cX6_set 32 = .ok (.iload_n 3, 1) := by decide +kernel
theorem dX6_set_33 : decode cX6_set 33 = .ok (.iastore, 1) := by decide +kernel
theorem dX6_set_34 : decode cX6_set 34 = .ok (.return_, 1) := by decide +kernel
set_option maxHeartbeats 4000000 in
set_option maxRecDepth 100000 in
theorem kX6_set (l : Launch) (G : g5_G) (a0 a1 : Nat) (sz : Nat) : Met l yX6_set (wsG yX6_set cX6_set 4 none) ({ frames := 1, cells := 0, slots := 0, locals := 21 }) (va_Pc [.ref a0, .int 0, .int 0, .int 0] (g5_P G [(a0, .inr (6, [.int 6, .int 5, .ref a1, .int 1])), (a1, .inl (G.2 0, 30, .inl (fun _ => 0)))] sz)) (va_Qv (fun (u : va_W) => ((u = [(a1, .inl (G.2 0, 30, .inl (upd (fun _ => 0) 0 0))), (a0, .inr (6, [.int 6, .int 5, .ref a1, .int 1]))]))) (g5_B G (va_A [(a0, .inr (6, [.int 6, .int 5, .ref a1, .int 1])), (a1, .inl (G.2 0, 30, .inl (fun _ => 0)))] sz)) (va_A [(a0, .inr (6, [.int 6, .int 5, .ref a1, .int 1])), (a1, .inl (G.2 0, 30, .inl (fun _ => 0)))] sz)) 0 0 (va_A [(a0, .inr (6, [.int 6, .int 5, .ref a1, .int 1])), (a1, .inl (G.2 0, 30, .inl (fun _ => 0)))] sz) := by
  refine Met.ofW (cc := cX6_set) (maxL := 4) (ret := none) (by decide) rfl ?_
  intro p e s m args below meth c s₁ B hml hv
  obtain ⟨rfl, hsz, hP, hK, hD0, hN, hT⟩ := hv
  have hx := B.exec
  have hb := B.bytes
  have hr := B.returns
  have hts : ∀ w ∈ tblG, w.before _ s = true := fun w h => atoms_spec (ws := (wsG yX6_set cX6_set 4 none)) B.pre w (List.mem_cons_of_mem _ h)
  have hown : s.vm.findClass RX6 = some m.cls := findClass_of_methodNamed B.named
  have hlocks := B.notSynchronized
  subst hsz
  have hD := hD0.self (sz := s.heap.size)
  generalize hAe : va_A [(a0, .inr (6, [.int 6, .int 5, .ref a1, .int 1])), (a1, .inl (G.2 0, 30, .inl (fun _ => 0)))] s.heap.size = A at hD hT ⊢
  have hA : ∀ q : Nat, s.heap.size ≤ q → A q := fun q h => by rw [← hAe]; exact Or.inr h
  have hS : va_S A s.heap s.heap [] := va_S.rf
  have hP : va_P G.1 vwCl [(a0, .inr (6, [.int 6, .int 5, .ref a1, .int 1])), (a1, .inl (G.2 0, 30, .inl (fun _ => 0)))] s.heap := hP
  have hl := lv_entry ([.ref a0, .int 0, .int 0, .int 0]) (n := 4) (Nat.le_of_ble_eq_true rfl)
  rw [lg_entry_eq]
  generalize (lg_sl ([.ref a0, .int 0, .int 0, .int 0]) ++ List.replicate (4 - (lg_sl ([.ref a0, .int 0, .int 0, .int 0])).length) Slot.unset).toArray = ls at hl ⊢
  have hl : lv_has ls 4 [(0, .ref a0), (1, .int 0), (2, .int 0), (3, .int 0)] := hl
  refine lv_aload_n hx hb dX6_set_0 rfl (lv_at hl 0 rfl) ?_
  refine lv_iload_n hx hb dX6_set_1 rfl (lv_at hl 1 rfl) ?_
  have hPc := hP.sub (ws' := [(a0, .inr (6, [.int 6, .int 5, .ref a1, .int 1]))]) [0] rfl
  have hDc := hD.sub (ws' := [(a0, .inr (6, [.int 6, .int 5, .ref a1, .int 1]))]) [0] (by decide) rfl
  have hFc := va_free (wc := [(a0, .inr (6, [.int 6, .int 5, .ref a1, .int 1]))]) hD hS hA [0] rfl
  refine va_calli (va_runV (As := [.int 0]) (rest := []) ⟨hx, hb, hml, hown, hts⟩ (kX6_has l G a0 a1 s.heap.size) (cwV 1 hts gV_X6_25 rfl rfl rfl hv_X6_has ⟨Nat.le_of_ble_eq_true rfl, Nat.le_of_ble_eq_true rfl⟩) (g5_preV hPc hK hDc hN hT hS hFc (ci := 6) (q0 := 0) rfl rfl) rfl rfl hl.1 rfl (lv_room (Nat.le_of_ble_eq_true rfl)) dX6_set_2 ⟨Nat.le_of_ble_eq_true rfl, Nat.le_of_ble_eq_true rfl⟩) hS (fun q _ h => hFc q h) hFc (fun r u t H1 locs ht hvm hw hB hz1 hk1 hS => ?_)
  obtain ⟨hP1, hD1⟩ := hB
  rw [ht] at hP1
  obtain ⟨rfl, rfl⟩ := hw
  obtain ⟨hP, hD⟩ := va_join (wr := [(a1, .inl (G.2 0, 30, .inl (fun _ => 0)))]) (w1 := [(a0, .inr (6, [.int 6, .int 5, .ref a1, .int 1]))]) hP hD [0] [1] rfl rfl (by decide) (by decide) hk1 hFc hP1 hD1
  generalize H1 = H at hP hS ⊢
  have hP : va_P G.1 vwCl [(a1, .inl (G.2 0, 30, .inl (fun _ => 0))), (a0, .inr (6, [.int 6, .int 5, .ref a1, .int 1]))] H := hP
  have hD : va_D A [(a1, .inl (G.2 0, 30, .inl (fun _ => 0))), (a0, .inr (6, [.int 6, .int 5, .ref a1, .int 1]))] := hD
  refine lv_if_eq (tgt := 34) hx hb dX6_set_5 (by decide) (fun c_1 => ?_) (fun c_1 => ?_)
  ·
    exact absurd c_1 (by decide)
  ·
    refine lv_iload_n hx hb dX6_set_8 rfl (lv_at hl 2 rfl) ?_
    refine lv_if_lt (tgt := 34) hx hb dX6_set_9 (by decide) (fun c_2 => ?_) (fun c_2 => ?_)
    ·
      exact absurd c_2 (by decide)
    ·
      refine lv_iload_n hx hb dX6_set_12 rfl (lv_at hl 2 rfl) ?_
      refine lv_aload_n hx hb dX6_set_13 rfl (lv_at hl 0 rfl) ?_
      refine va_get (D := G.1) (ci := 6) (v := .int 5) (C := RX6) (T := TX6) (N := 4) hx hb hts inG_X6 hown hK hP 1 rfl rfl 1 (by decide) (hts _ fl_X6_18) (fun _ h9 => h9) rfl dX6_set_14 ?_
      refine lv_icmp_ge (tgt := 34) hx hb dX6_set_17 (by decide) (fun c_3 => ?_) (fun c_3 => ?_)
      ·
        exact absurd c_3 (by decide)
      ·
        refine lv_aload_n hx hb dX6_set_20 rfl (lv_at hl 0 rfl) ?_
        refine va_get (D := G.1) (ci := 6) (v := .ref a1) (C := RX6) (T := TX6) (N := 4) hx hb hts inG_X6 hown hK hP 1 rfl rfl 2 (by decide) (hts _ fl_X6_21) (fun _ h9 => h9) rfl dX6_set_21 ?_
        refine lv_iload_n hx hb dX6_set_24 rfl (lv_at hl 1 rfl) ?_
        refine lv_aload_n hx hb dX6_set_25 rfl (lv_at hl 0 rfl) ?_
        refine va_get (D := G.1) (ci := 6) (v := .int 5) (C := RX6) (T := TX6) (N := 4) hx hb hts inG_X6 hown hK hP 1 rfl rfl 1 (by decide) (hts _ fl_X6_18) (fun _ h9 => h9) rfl dX6_set_26 ?_
        refine lv_imul hx hb dX6_set_29 ?_
        refine g5_ti (v := 0) (by decide) ?_
        refine lv_iload_n hx hb dX6_set_30 rfl (lv_at hl 2 rfl) ?_
        refine lv_iadd hx hb dX6_set_31 ?_
        refine g5_ti (v := 0) (by decide) ?_
        refine lv_iload_n hx hb dX6_set_32 rfl (lv_at hl 3 rfl) ?_
        refine va_iast hx hb hK hP hD hS 0 0 rfl rfl (i := 0) (x := 0) (by unfold vp_in; decide) dX6_set_33 (fun H locs hP hD hS => ?_)
        have hP : va_P G.1 vwCl [(a1, .inl (G.2 0, 30, .inl (upd (fun _ => 0) 0 0))), (a0, .inr (6, [.int 6, .int 5, .ref a1, .int 1]))] H := hP
        have hD : va_D A [(a1, .inl (G.2 0, 30, .inl (upd (fun _ => 0) 0 0))), (a0, .inr (6, [.int 6, .int 5, .ref a1, .int 1]))] := hD
        exact W.vret hx hb hr (fun t ht hW => ⟨⟨[(a1, .inl (G.2 0, 30, .inl (upd (fun _ => 0) 0 0))), (a0, .inr (6, [.int 6, .int 5, .ref a1, .int 1]))], rfl, rfl, by rw [ht]; exact hP, hD⟩, hS.F ht⟩) hS.2.2 dX6_set_34
theorem ml_X6_29 : Cond.methodLink RX6 29 yX6_set ∈ tblG := tg 557 (by decide +kernel) (by decide +kernel)
theorem im_X6_set : Cond.instanceMethod yX6_set ∈ tblG := tg 558 (by decide +kernel) (by decide +kernel)
theorem se_X6_set : Cond.selects RX6 yX6_set yX6_set ∈ tblG := tg 559 (by decide +kernel) (by decide +kernel)
theorem cd_X6_set : Cond.code yX6_set cX6_set 4 none ∈ tblG := tg 560 (by decide +kernel) (by decide +kernel)
theorem gW_X6_set : GoodIn tblG (wsG yX6_set cX6_set 4 none) := tgi cd_X6_set
theorem gV_X6_29 : GoodIn tblG (wsV RX6 29 RX6 yX6_set (wsG yX6_set cX6_set 4 none)) := tgV ml_X6_29 im_X6_set se_X6_set ini_X6 gW_X6_set
theorem hv_X6_set : yX6_set.cls = RX6 ∧ yX6_set.cls ≠ "java/lang/invoke/MethodHandle" ∧ yX6_set.cls ≠ "java/lang/invoke/VarHandle" ∧ (parseMethodDescriptor yX6_set.desc).map (fun d => d.parameters.length) = some 3 := by decide +kernel
set_option maxHeartbeats 4000000 in
set_option maxRecDepth 100000 in
theorem kX6_set_2 (l : Launch) (G : g5_G) (a0 a1 : Nat) (sz : Nat) : Met l yX6_set (wsG yX6_set cX6_set 4 none) ({ frames := 1, cells := 0, slots := 0, locals := 21 }) (va_Pc [.ref a0, .int 0, .int 1, .int 0] (g5_P G [(a0, .inr (6, [.int 6, .int 5, .ref a1, .int 1])), (a1, .inl (G.2 0, 30, .inl (upd (fun _ => 0) 0 0)))] sz)) (va_Qv (fun (u : va_W) => ((u = [(a1, .inl (G.2 0, 30, .inl (upd (upd (fun _ => 0) 0 0) 1 0))), (a0, .inr (6, [.int 6, .int 5, .ref a1, .int 1]))]))) (g5_B G (va_A [(a0, .inr (6, [.int 6, .int 5, .ref a1, .int 1])), (a1, .inl (G.2 0, 30, .inl (upd (fun _ => 0) 0 0)))] sz)) (va_A [(a0, .inr (6, [.int 6, .int 5, .ref a1, .int 1])), (a1, .inl (G.2 0, 30, .inl (upd (fun _ => 0) 0 0)))] sz)) 0 0 (va_A [(a0, .inr (6, [.int 6, .int 5, .ref a1, .int 1])), (a1, .inl (G.2 0, 30, .inl (upd (fun _ => 0) 0 0)))] sz) := by
  refine Met.ofW (cc := cX6_set) (maxL := 4) (ret := none) (by decide) rfl ?_
  intro p e s m args below meth c s₁ B hml hv
  obtain ⟨rfl, hsz, hP, hK, hD0, hN, hT⟩ := hv
  have hx := B.exec
  have hb := B.bytes
  have hr := B.returns
  have hts : ∀ w ∈ tblG, w.before _ s = true := fun w h => atoms_spec (ws := (wsG yX6_set cX6_set 4 none)) B.pre w (List.mem_cons_of_mem _ h)
  have hown : s.vm.findClass RX6 = some m.cls := findClass_of_methodNamed B.named
  have hlocks := B.notSynchronized
  subst hsz
  have hD := hD0.self (sz := s.heap.size)
  generalize hAe : va_A [(a0, .inr (6, [.int 6, .int 5, .ref a1, .int 1])), (a1, .inl (G.2 0, 30, .inl (upd (fun _ => 0) 0 0)))] s.heap.size = A at hD hT ⊢
  have hA : ∀ q : Nat, s.heap.size ≤ q → A q := fun q h => by rw [← hAe]; exact Or.inr h
  have hS : va_S A s.heap s.heap [] := va_S.rf
  have hP : va_P G.1 vwCl [(a0, .inr (6, [.int 6, .int 5, .ref a1, .int 1])), (a1, .inl (G.2 0, 30, .inl (upd (fun _ => 0) 0 0)))] s.heap := hP
  have hl := lv_entry ([.ref a0, .int 0, .int 1, .int 0]) (n := 4) (Nat.le_of_ble_eq_true rfl)
  rw [lg_entry_eq]
  generalize (lg_sl ([.ref a0, .int 0, .int 1, .int 0]) ++ List.replicate (4 - (lg_sl ([.ref a0, .int 0, .int 1, .int 0])).length) Slot.unset).toArray = ls at hl ⊢
  have hl : lv_has ls 4 [(0, .ref a0), (1, .int 0), (2, .int 1), (3, .int 0)] := hl
  refine lv_aload_n hx hb dX6_set_0 rfl (lv_at hl 0 rfl) ?_
  refine lv_iload_n hx hb dX6_set_1 rfl (lv_at hl 1 rfl) ?_
  have hPc := hP.sub (ws' := [(a0, .inr (6, [.int 6, .int 5, .ref a1, .int 1]))]) [0] rfl
  have hDc := hD.sub (ws' := [(a0, .inr (6, [.int 6, .int 5, .ref a1, .int 1]))]) [0] (by decide) rfl
  have hFc := va_free (wc := [(a0, .inr (6, [.int 6, .int 5, .ref a1, .int 1]))]) hD hS hA [0] rfl
  refine va_calli (va_runV (As := [.int 0]) (rest := []) ⟨hx, hb, hml, hown, hts⟩ (kX6_has l G a0 a1 s.heap.size) (cwV 1 hts gV_X6_25 rfl rfl rfl hv_X6_has ⟨Nat.le_of_ble_eq_true rfl, Nat.le_of_ble_eq_true rfl⟩) (g5_preV hPc hK hDc hN hT hS hFc (ci := 6) (q0 := 0) rfl rfl) rfl rfl hl.1 rfl (lv_room (Nat.le_of_ble_eq_true rfl)) dX6_set_2 ⟨Nat.le_of_ble_eq_true rfl, Nat.le_of_ble_eq_true rfl⟩) hS (fun q _ h => hFc q h) hFc (fun r u t H1 locs ht hvm hw hB hz1 hk1 hS => ?_)
  obtain ⟨hP1, hD1⟩ := hB
  rw [ht] at hP1
  obtain ⟨rfl, rfl⟩ := hw
  obtain ⟨hP, hD⟩ := va_join (wr := [(a1, .inl (G.2 0, 30, .inl (upd (fun _ => 0) 0 0)))]) (w1 := [(a0, .inr (6, [.int 6, .int 5, .ref a1, .int 1]))]) hP hD [0] [1] rfl rfl (by decide) (by decide) hk1 hFc hP1 hD1
  generalize H1 = H at hP hS ⊢
  have hP : va_P G.1 vwCl [(a1, .inl (G.2 0, 30, .inl (upd (fun _ => 0) 0 0))), (a0, .inr (6, [.int 6, .int 5, .ref a1, .int 1]))] H := hP
  have hD : va_D A [(a1, .inl (G.2 0, 30, .inl (upd (fun _ => 0) 0 0))), (a0, .inr (6, [.int 6, .int 5, .ref a1, .int 1]))] := hD
  refine lv_if_eq (tgt := 34) hx hb dX6_set_5 (by decide) (fun c_1 => ?_) (fun c_1 => ?_)
  ·
    exact absurd c_1 (by decide)
  ·
    refine lv_iload_n hx hb dX6_set_8 rfl (lv_at hl 2 rfl) ?_
    refine lv_if_lt (tgt := 34) hx hb dX6_set_9 (by decide) (fun c_2 => ?_) (fun c_2 => ?_)
    ·
      exact absurd c_2 (by decide)
    ·
      refine lv_iload_n hx hb dX6_set_12 rfl (lv_at hl 2 rfl) ?_
      refine lv_aload_n hx hb dX6_set_13 rfl (lv_at hl 0 rfl) ?_
      refine va_get (D := G.1) (ci := 6) (v := .int 5) (C := RX6) (T := TX6) (N := 4) hx hb hts inG_X6 hown hK hP 1 rfl rfl 1 (by decide) (hts _ fl_X6_18) (fun _ h9 => h9) rfl dX6_set_14 ?_
      refine lv_icmp_ge (tgt := 34) hx hb dX6_set_17 (by decide) (fun c_3 => ?_) (fun c_3 => ?_)
      ·
        exact absurd c_3 (by decide)
      ·
        refine lv_aload_n hx hb dX6_set_20 rfl (lv_at hl 0 rfl) ?_
        refine va_get (D := G.1) (ci := 6) (v := .ref a1) (C := RX6) (T := TX6) (N := 4) hx hb hts inG_X6 hown hK hP 1 rfl rfl 2 (by decide) (hts _ fl_X6_21) (fun _ h9 => h9) rfl dX6_set_21 ?_
        refine lv_iload_n hx hb dX6_set_24 rfl (lv_at hl 1 rfl) ?_
        refine lv_aload_n hx hb dX6_set_25 rfl (lv_at hl 0 rfl) ?_
        refine va_get (D := G.1) (ci := 6) (v := .int 5) (C := RX6) (T := TX6) (N := 4) hx hb hts inG_X6 hown hK hP 1 rfl rfl 1 (by decide) (hts _ fl_X6_18) (fun _ h9 => h9) rfl dX6_set_26 ?_
        refine lv_imul hx hb dX6_set_29 ?_
        refine g5_ti (v := 0) (by decide) ?_
        refine lv_iload_n hx hb dX6_set_30 rfl (lv_at hl 2 rfl) ?_
        refine lv_iadd hx hb dX6_set_31 ?_
        refine g5_ti (v := 1) (by decide) ?_
        refine lv_iload_n hx hb dX6_set_32 rfl (lv_at hl 3 rfl) ?_
        refine va_iast hx hb hK hP hD hS 0 0 rfl rfl (i := 1) (x := 0) (by unfold vp_in; decide) dX6_set_33 (fun H locs hP hD hS => ?_)
        have hP : va_P G.1 vwCl [(a1, .inl (G.2 0, 30, .inl (upd (upd (fun _ => 0) 0 0) 1 0))), (a0, .inr (6, [.int 6, .int 5, .ref a1, .int 1]))] H := hP
        have hD : va_D A [(a1, .inl (G.2 0, 30, .inl (upd (upd (fun _ => 0) 0 0) 1 0))), (a0, .inr (6, [.int 6, .int 5, .ref a1, .int 1]))] := hD
        exact W.vret hx hb hr (fun t ht hW => ⟨⟨[(a1, .inl (G.2 0, 30, .inl (upd (upd (fun _ => 0) 0 0) 1 0))), (a0, .inr (6, [.int 6, .int 5, .ref a1, .int 1]))], rfl, rfl, by rw [ht]; exact hP, hD⟩, hS.F ht⟩) hS.2.2 dX6_set_34
set_option maxHeartbeats 4000000 in
set_option maxRecDepth 100000 in
theorem kX6_set_3 (l : Launch) (G : g5_G) (a0 a1 : Nat) (sz : Nat) : Met l yX6_set (wsG yX6_set cX6_set 4 none) ({ frames := 1, cells := 0, slots := 0, locals := 21 }) (va_Pc [.ref a0, .int 0, .int 2, .int 0] (g5_P G [(a0, .inr (6, [.int 6, .int 5, .ref a1, .int 1])), (a1, .inl (G.2 0, 30, .inl (upd (upd (fun _ => 0) 0 0) 1 0)))] sz)) (va_Qv (fun (u : va_W) => ((u = [(a1, .inl (G.2 0, 30, .inl (upd (upd (upd (fun _ => 0) 0 0) 1 0) 2 0))), (a0, .inr (6, [.int 6, .int 5, .ref a1, .int 1]))]))) (g5_B G (va_A [(a0, .inr (6, [.int 6, .int 5, .ref a1, .int 1])), (a1, .inl (G.2 0, 30, .inl (upd (upd (fun _ => 0) 0 0) 1 0)))] sz)) (va_A [(a0, .inr (6, [.int 6, .int 5, .ref a1, .int 1])), (a1, .inl (G.2 0, 30, .inl (upd (upd (fun _ => 0) 0 0) 1 0)))] sz)) 0 0 (va_A [(a0, .inr (6, [.int 6, .int 5, .ref a1, .int 1])), (a1, .inl (G.2 0, 30, .inl (upd (upd (fun _ => 0) 0 0) 1 0)))] sz) := by
  refine Met.ofW (cc := cX6_set) (maxL := 4) (ret := none) (by decide) rfl ?_
  intro p e s m args below meth c s₁ B hml hv
  obtain ⟨rfl, hsz, hP, hK, hD0, hN, hT⟩ := hv
  have hx := B.exec
  have hb := B.bytes
  have hr := B.returns
  have hts : ∀ w ∈ tblG, w.before _ s = true := fun w h => atoms_spec (ws := (wsG yX6_set cX6_set 4 none)) B.pre w (List.mem_cons_of_mem _ h)
  have hown : s.vm.findClass RX6 = some m.cls := findClass_of_methodNamed B.named
  have hlocks := B.notSynchronized
  subst hsz
  have hD := hD0.self (sz := s.heap.size)
  generalize hAe : va_A [(a0, .inr (6, [.int 6, .int 5, .ref a1, .int 1])), (a1, .inl (G.2 0, 30, .inl (upd (upd (fun _ => 0) 0 0) 1 0)))] s.heap.size = A at hD hT ⊢
  have hA : ∀ q : Nat, s.heap.size ≤ q → A q := fun q h => by rw [← hAe]; exact Or.inr h
  have hS : va_S A s.heap s.heap [] := va_S.rf
  have hP : va_P G.1 vwCl [(a0, .inr (6, [.int 6, .int 5, .ref a1, .int 1])), (a1, .inl (G.2 0, 30, .inl (upd (upd (fun _ => 0) 0 0) 1 0)))] s.heap := hP
  have hl := lv_entry ([.ref a0, .int 0, .int 2, .int 0]) (n := 4) (Nat.le_of_ble_eq_true rfl)
  rw [lg_entry_eq]
  generalize (lg_sl ([.ref a0, .int 0, .int 2, .int 0]) ++ List.replicate (4 - (lg_sl ([.ref a0, .int 0, .int 2, .int 0])).length) Slot.unset).toArray = ls at hl ⊢
  have hl : lv_has ls 4 [(0, .ref a0), (1, .int 0), (2, .int 2), (3, .int 0)] := hl
  refine lv_aload_n hx hb dX6_set_0 rfl (lv_at hl 0 rfl) ?_
  refine lv_iload_n hx hb dX6_set_1 rfl (lv_at hl 1 rfl) ?_
  have hPc := hP.sub (ws' := [(a0, .inr (6, [.int 6, .int 5, .ref a1, .int 1]))]) [0] rfl
  have hDc := hD.sub (ws' := [(a0, .inr (6, [.int 6, .int 5, .ref a1, .int 1]))]) [0] (by decide) rfl
  have hFc := va_free (wc := [(a0, .inr (6, [.int 6, .int 5, .ref a1, .int 1]))]) hD hS hA [0] rfl
  refine va_calli (va_runV (As := [.int 0]) (rest := []) ⟨hx, hb, hml, hown, hts⟩ (kX6_has l G a0 a1 s.heap.size) (cwV 1 hts gV_X6_25 rfl rfl rfl hv_X6_has ⟨Nat.le_of_ble_eq_true rfl, Nat.le_of_ble_eq_true rfl⟩) (g5_preV hPc hK hDc hN hT hS hFc (ci := 6) (q0 := 0) rfl rfl) rfl rfl hl.1 rfl (lv_room (Nat.le_of_ble_eq_true rfl)) dX6_set_2 ⟨Nat.le_of_ble_eq_true rfl, Nat.le_of_ble_eq_true rfl⟩) hS (fun q _ h => hFc q h) hFc (fun r u t H1 locs ht hvm hw hB hz1 hk1 hS => ?_)
  obtain ⟨hP1, hD1⟩ := hB
  rw [ht] at hP1
  obtain ⟨rfl, rfl⟩ := hw
  obtain ⟨hP, hD⟩ := va_join (wr := [(a1, .inl (G.2 0, 30, .inl (upd (upd (fun _ => 0) 0 0) 1 0)))]) (w1 := [(a0, .inr (6, [.int 6, .int 5, .ref a1, .int 1]))]) hP hD [0] [1] rfl rfl (by decide) (by decide) hk1 hFc hP1 hD1
  generalize H1 = H at hP hS ⊢
  have hP : va_P G.1 vwCl [(a1, .inl (G.2 0, 30, .inl (upd (upd (fun _ => 0) 0 0) 1 0))), (a0, .inr (6, [.int 6, .int 5, .ref a1, .int 1]))] H := hP
  have hD : va_D A [(a1, .inl (G.2 0, 30, .inl (upd (upd (fun _ => 0) 0 0) 1 0))), (a0, .inr (6, [.int 6, .int 5, .ref a1, .int 1]))] := hD
  refine lv_if_eq (tgt := 34) hx hb dX6_set_5 (by decide) (fun c_1 => ?_) (fun c_1 => ?_)
  ·
    exact absurd c_1 (by decide)
  ·
    refine lv_iload_n hx hb dX6_set_8 rfl (lv_at hl 2 rfl) ?_
    refine lv_if_lt (tgt := 34) hx hb dX6_set_9 (by decide) (fun c_2 => ?_) (fun c_2 => ?_)
    ·
      exact absurd c_2 (by decide)
    ·
      refine lv_iload_n hx hb dX6_set_12 rfl (lv_at hl 2 rfl) ?_
      refine lv_aload_n hx hb dX6_set_13 rfl (lv_at hl 0 rfl) ?_
      refine va_get (D := G.1) (ci := 6) (v := .int 5) (C := RX6) (T := TX6) (N := 4) hx hb hts inG_X6 hown hK hP 1 rfl rfl 1 (by decide) (hts _ fl_X6_18) (fun _ h9 => h9) rfl dX6_set_14 ?_
      refine lv_icmp_ge (tgt := 34) hx hb dX6_set_17 (by decide) (fun c_3 => ?_) (fun c_3 => ?_)
      ·
        exact absurd c_3 (by decide)
      ·
        refine lv_aload_n hx hb dX6_set_20 rfl (lv_at hl 0 rfl) ?_
        refine va_get (D := G.1) (ci := 6) (v := .ref a1) (C := RX6) (T := TX6) (N := 4) hx hb hts inG_X6 hown hK hP 1 rfl rfl 2 (by decide) (hts _ fl_X6_21) (fun _ h9 => h9) rfl dX6_set_21 ?_
        refine lv_iload_n hx hb dX6_set_24 rfl (lv_at hl 1 rfl) ?_
        refine lv_aload_n hx hb dX6_set_25 rfl (lv_at hl 0 rfl) ?_
        refine va_get (D := G.1) (ci := 6) (v := .int 5) (C := RX6) (T := TX6) (N := 4) hx hb hts inG_X6 hown hK hP 1 rfl rfl 1 (by decide) (hts _ fl_X6_18) (fun _ h9 => h9) rfl dX6_set_26 ?_
        refine lv_imul hx hb dX6_set_29 ?_
        refine g5_ti (v := 0) (by decide) ?_
        refine lv_iload_n hx hb dX6_set_30 rfl (lv_at hl 2 rfl) ?_
        refine lv_iadd hx hb dX6_set_31 ?_
        refine g5_ti (v := 2) (by decide) ?_
        refine lv_iload_n hx hb dX6_set_32 rfl (lv_at hl 3 rfl) ?_
        refine va_iast hx hb hK hP hD hS 0 0 rfl rfl (i := 2) (x := 0) (by unfold vp_in; decide) dX6_set_33 (fun H locs hP hD hS => ?_)
        have hP : va_P G.1 vwCl [(a1, .inl (G.2 0, 30, .inl (upd (upd (upd (fun _ => 0) 0 0) 1 0) 2 0))), (a0, .inr (6, [.int 6, .int 5, .ref a1, .int 1]))] H := hP
        have hD : va_D A [(a1, .inl (G.2 0, 30, .inl (upd (upd (upd (fun _ => 0) 0 0) 1 0) 2 0))), (a0, .inr (6, [.int 6, .int 5, .ref a1, .int 1]))] := hD
        exact W.vret hx hb hr (fun t ht hW => ⟨⟨[(a1, .inl (G.2 0, 30, .inl (upd (upd (upd (fun _ => 0) 0 0) 1 0) 2 0))), (a0, .inr (6, [.int 6, .int 5, .ref a1, .int 1]))], rfl, rfl, by rw [ht]; exact hP, hD⟩, hS.F ht⟩) hS.2.2 dX6_set_34
set_option maxHeartbeats 4000000 in
set_option maxRecDepth 100000 in
theorem kX6_set_4 (l : Launch) (G : g5_G) (a0 a1 : Nat) (sz : Nat) : Met l yX6_set (wsG yX6_set cX6_set 4 none) ({ frames := 1, cells := 0, slots := 0, locals := 21 }) (va_Pc [.ref a0, .int 0, .int 3, .int 0] (g5_P G [(a0, .inr (6, [.int 6, .int 5, .ref a1, .int 1])), (a1, .inl (G.2 0, 30, .inl (upd (upd (upd (fun _ => 0) 0 0) 1 0) 2 0)))] sz)) (va_Qv (fun (u : va_W) => ((u = [(a1, .inl (G.2 0, 30, .inl (upd (upd (upd (upd (fun _ => 0) 0 0) 1 0) 2 0) 3 0))), (a0, .inr (6, [.int 6, .int 5, .ref a1, .int 1]))]))) (g5_B G (va_A [(a0, .inr (6, [.int 6, .int 5, .ref a1, .int 1])), (a1, .inl (G.2 0, 30, .inl (upd (upd (upd (fun _ => 0) 0 0) 1 0) 2 0)))] sz)) (va_A [(a0, .inr (6, [.int 6, .int 5, .ref a1, .int 1])), (a1, .inl (G.2 0, 30, .inl (upd (upd (upd (fun _ => 0) 0 0) 1 0) 2 0)))] sz)) 0 0 (va_A [(a0, .inr (6, [.int 6, .int 5, .ref a1, .int 1])), (a1, .inl (G.2 0, 30, .inl (upd (upd (upd (fun _ => 0) 0 0) 1 0) 2 0)))] sz) := by
  refine Met.ofW (cc := cX6_set) (maxL := 4) (ret := none) (by decide) rfl ?_
  intro p e s m args below meth c s₁ B hml hv
  obtain ⟨rfl, hsz, hP, hK, hD0, hN, hT⟩ := hv
  have hx := B.exec
  have hb := B.bytes
  have hr := B.returns
  have hts : ∀ w ∈ tblG, w.before _ s = true := fun w h => atoms_spec (ws := (wsG yX6_set cX6_set 4 none)) B.pre w (List.mem_cons_of_mem _ h)
  have hown : s.vm.findClass RX6 = some m.cls := findClass_of_methodNamed B.named
  have hlocks := B.notSynchronized
  subst hsz
  have hD := hD0.self (sz := s.heap.size)
  generalize hAe : va_A [(a0, .inr (6, [.int 6, .int 5, .ref a1, .int 1])), (a1, .inl (G.2 0, 30, .inl (upd (upd (upd (fun _ => 0) 0 0) 1 0) 2 0)))] s.heap.size = A at hD hT ⊢
  have hA : ∀ q : Nat, s.heap.size ≤ q → A q := fun q h => by rw [← hAe]; exact Or.inr h
  have hS : va_S A s.heap s.heap [] := va_S.rf
  have hP : va_P G.1 vwCl [(a0, .inr (6, [.int 6, .int 5, .ref a1, .int 1])), (a1, .inl (G.2 0, 30, .inl (upd (upd (upd (fun _ => 0) 0 0) 1 0) 2 0)))] s.heap := hP
  have hl := lv_entry ([.ref a0, .int 0, .int 3, .int 0]) (n := 4) (Nat.le_of_ble_eq_true rfl)
  rw [lg_entry_eq]
  generalize (lg_sl ([.ref a0, .int 0, .int 3, .int 0]) ++ List.replicate (4 - (lg_sl ([.ref a0, .int 0, .int 3, .int 0])).length) Slot.unset).toArray = ls at hl ⊢
  have hl : lv_has ls 4 [(0, .ref a0), (1, .int 0), (2, .int 3), (3, .int 0)] := hl
  refine lv_aload_n hx hb dX6_set_0 rfl (lv_at hl 0 rfl) ?_
  refine lv_iload_n hx hb dX6_set_1 rfl (lv_at hl 1 rfl) ?_
  have hPc := hP.sub (ws' := [(a0, .inr (6, [.int 6, .int 5, .ref a1, .int 1]))]) [0] rfl
  have hDc := hD.sub (ws' := [(a0, .inr (6, [.int 6, .int 5, .ref a1, .int 1]))]) [0] (by decide) rfl
  have hFc := va_free (wc := [(a0, .inr (6, [.int 6, .int 5, .ref a1, .int 1]))]) hD hS hA [0] rfl
  refine va_calli (va_runV (As := [.int 0]) (rest := []) ⟨hx, hb, hml, hown, hts⟩ (kX6_has l G a0 a1 s.heap.size) (cwV 1 hts gV_X6_25 rfl rfl rfl hv_X6_has ⟨Nat.le_of_ble_eq_true rfl, Nat.le_of_ble_eq_true rfl⟩) (g5_preV hPc hK hDc hN hT hS hFc (ci := 6) (q0 := 0) rfl rfl) rfl rfl hl.1 rfl (lv_room (Nat.le_of_ble_eq_true rfl)) dX6_set_2 ⟨Nat.le_of_ble_eq_true rfl, Nat.le_of_ble_eq_true rfl⟩) hS (fun q _ h => hFc q h) hFc (fun r u t H1 locs ht hvm hw hB hz1 hk1 hS => ?_)
  obtain ⟨hP1, hD1⟩ := hB
  rw [ht] at hP1
  obtain ⟨rfl, rfl⟩ := hw
  obtain ⟨hP, hD⟩ := va_join (wr := [(a1, .inl (G.2 0, 30, .inl (upd (upd (upd (fun _ => 0) 0 0) 1 0) 2 0)))]) (w1 := [(a0, .inr (6, [.int 6, .int 5, .ref a1, .int 1]))]) hP hD [0] [1] rfl rfl (by decide) (by decide) hk1 hFc hP1 hD1
  generalize H1 = H at hP hS ⊢
  have hP : va_P G.1 vwCl [(a1, .inl (G.2 0, 30, .inl (upd (upd (upd (fun _ => 0) 0 0) 1 0) 2 0))), (a0, .inr (6, [.int 6, .int 5, .ref a1, .int 1]))] H := hP
  have hD : va_D A [(a1, .inl (G.2 0, 30, .inl (upd (upd (upd (fun _ => 0) 0 0) 1 0) 2 0))), (a0, .inr (6, [.int 6, .int 5, .ref a1, .int 1]))] := hD
  refine lv_if_eq (tgt := 34) hx hb dX6_set_5 (by decide) (fun c_1 => ?_) (fun c_1 => ?_)
  ·
    exact absurd c_1 (by decide)
  ·
    refine lv_iload_n hx hb dX6_set_8 rfl (lv_at hl 2 rfl) ?_
    refine lv_if_lt (tgt := 34) hx hb dX6_set_9 (by decide) (fun c_2 => ?_) (fun c_2 => ?_)
    ·
      exact absurd c_2 (by decide)
    ·
      refine lv_iload_n hx hb dX6_set_12 rfl (lv_at hl 2 rfl) ?_
      refine lv_aload_n hx hb dX6_set_13 rfl (lv_at hl 0 rfl) ?_
      refine va_get (D := G.1) (ci := 6) (v := .int 5) (C := RX6) (T := TX6) (N := 4) hx hb hts inG_X6 hown hK hP 1 rfl rfl 1 (by decide) (hts _ fl_X6_18) (fun _ h9 => h9) rfl dX6_set_14 ?_
      refine lv_icmp_ge (tgt := 34) hx hb dX6_set_17 (by decide) (fun c_3 => ?_) (fun c_3 => ?_)
      ·
        exact absurd c_3 (by decide)
      ·
        refine lv_aload_n hx hb dX6_set_20 rfl (lv_at hl 0 rfl) ?_
        refine va_get (D := G.1) (ci := 6) (v := .ref a1) (C := RX6) (T := TX6) (N := 4) hx hb hts inG_X6 hown hK hP 1 rfl rfl 2 (by decide) (hts _ fl_X6_21) (fun _ h9 => h9) rfl dX6_set_21 ?_
        refine lv_iload_n hx hb dX6_set_24 rfl (lv_at hl 1 rfl) ?_
        refine lv_aload_n hx hb dX6_set_25 rfl (lv_at hl 0 rfl) ?_
        refine va_get (D := G.1) (ci := 6) (v := .int 5) (C := RX6) (T := TX6) (N := 4) hx hb hts inG_X6 hown hK hP 1 rfl rfl 1 (by decide) (hts _ fl_X6_18) (fun _ h9 => h9) rfl dX6_set_26 ?_
        refine lv_imul hx hb dX6_set_29 ?_
        refine g5_ti (v := 0) (by decide) ?_
        refine lv_iload_n hx hb dX6_set_30 rfl (lv_at hl 2 rfl) ?_
        refine lv_iadd hx hb dX6_set_31 ?_
        refine g5_ti (v := 3) (by decide) ?_
        refine lv_iload_n hx hb dX6_set_32 rfl (lv_at hl 3 rfl) ?_
        refine va_iast hx hb hK hP hD hS 0 0 rfl rfl (i := 3) (x := 0) (by unfold vp_in; decide) dX6_set_33 (fun H locs hP hD hS => ?_)
        have hP : va_P G.1 vwCl [(a1, .inl (G.2 0, 30, .inl (upd (upd (upd (upd (fun _ => 0) 0 0) 1 0) 2 0) 3 0))), (a0, .inr (6, [.int 6, .int 5, .ref a1, .int 1]))] H := hP
        have hD : va_D A [(a1, .inl (G.2 0, 30, .inl (upd (upd (upd (upd (fun _ => 0) 0 0) 1 0) 2 0) 3 0))), (a0, .inr (6, [.int 6, .int 5, .ref a1, .int 1]))] := hD
        exact W.vret hx hb hr (fun t ht hW => ⟨⟨[(a1, .inl (G.2 0, 30, .inl (upd (upd (upd (upd (fun _ => 0) 0 0) 1 0) 2 0) 3 0))), (a0, .inr (6, [.int 6, .int 5, .ref a1, .int 1]))], rfl, rfl, by rw [ht]; exact hP, hD⟩, hS.F ht⟩) hS.2.2 dX6_set_34
set_option maxHeartbeats 4000000 in
set_option maxRecDepth 100000 in
theorem kX6_set_5 (l : Launch) (G : g5_G) (a0 a1 : Nat) (sz : Nat) (f0 : Nat → Int32) : Met l yX6_set (wsG yX6_set cX6_set 4 none) ({ frames := 1, cells := 0, slots := 0, locals := 21 }) (va_Pc [.ref a0, .int 0, .int 4, .int 0] (g5_P G [(a0, .inr (6, [.int 6, .int 5, .ref a1, .int 1])), (a1, .inl (G.2 0, 30, .inl f0))] sz)) (va_Qv (fun (u : va_W) => ((u = [(a1, .inl (G.2 0, 30, .inl (upd f0 4 0))), (a0, .inr (6, [.int 6, .int 5, .ref a1, .int 1]))]))) (g5_B G (va_A [(a0, .inr (6, [.int 6, .int 5, .ref a1, .int 1])), (a1, .inl (G.2 0, 30, .inl f0))] sz)) (va_A [(a0, .inr (6, [.int 6, .int 5, .ref a1, .int 1])), (a1, .inl (G.2 0, 30, .inl f0))] sz)) 0 0 (va_A [(a0, .inr (6, [.int 6, .int 5, .ref a1, .int 1])), (a1, .inl (G.2 0, 30, .inl f0))] sz) := by
  refine Met.ofW (cc := cX6_set) (maxL := 4) (ret := none) (by decide) rfl ?_
  intro p e s m args below meth c s₁ B hml hv
  obtain ⟨rfl, hsz, hP, hK, hD0, hN, hT⟩ := hv
  have hx := B.exec
  have hb := B.bytes
  have hr := B.returns
  have hts : ∀ w ∈ tblG, w.before _ s = true := fun w h => atoms_spec (ws := (wsG yX6_set cX6_set 4 none)) B.pre w (List.mem_cons_of_mem _ h)
  have hown : s.vm.findClass RX6 = some m.cls := findClass_of_methodNamed B.named
  have hlocks := B.notSynchronized
  subst hsz
  have hD := hD0.self (sz := s.heap.size)
  generalize hAe : va_A [(a0, .inr (6, [.int 6, .int 5, .ref a1, .int 1])), (a1, .inl (G.2 0, 30, .inl f0))] s.heap.size = A at hD hT ⊢
  have hA : ∀ q : Nat, s.heap.size ≤ q → A q := fun q h => by rw [← hAe]; exact Or.inr h
  have hS : va_S A s.heap s.heap [] := va_S.rf
  have hP : va_P G.1 vwCl [(a0, .inr (6, [.int 6, .int 5, .ref a1, .int 1])), (a1, .inl (G.2 0, 30, .inl f0))] s.heap := hP
  have hl := lv_entry ([.ref a0, .int 0, .int 4, .int 0]) (n := 4) (Nat.le_of_ble_eq_true rfl)
  rw [lg_entry_eq]
  generalize (lg_sl ([.ref a0, .int 0, .int 4, .int 0]) ++ List.replicate (4 - (lg_sl ([.ref a0, .int 0, .int 4, .int 0])).length) Slot.unset).toArray = ls at hl ⊢
  have hl : lv_has ls 4 [(0, .ref a0), (1, .int 0), (2, .int 4), (3, .int 0)] := hl
  refine lv_aload_n hx hb dX6_set_0 rfl (lv_at hl 0 rfl) ?_
  refine lv_iload_n hx hb dX6_set_1 rfl (lv_at hl 1 rfl) ?_
  have hPc := hP.sub (ws' := [(a0, .inr (6, [.int 6, .int 5, .ref a1, .int 1]))]) [0] rfl
  have hDc := hD.sub (ws' := [(a0, .inr (6, [.int 6, .int 5, .ref a1, .int 1]))]) [0] (by decide) rfl
  have hFc := va_free (wc := [(a0, .inr (6, [.int 6, .int 5, .ref a1, .int 1]))]) hD hS hA [0] rfl
  refine va_calli (va_runV (As := [.int 0]) (rest := []) ⟨hx, hb, hml, hown, hts⟩ (kX6_has l G a0 a1 s.heap.size) (cwV 1 hts gV_X6_25 rfl rfl rfl hv_X6_has ⟨Nat.le_of_ble_eq_true rfl, Nat.le_of_ble_eq_true rfl⟩) (g5_preV hPc hK hDc hN hT hS hFc (ci := 6) (q0 := 0) rfl rfl) rfl rfl hl.1 rfl (lv_room (Nat.le_of_ble_eq_true rfl)) dX6_set_2 ⟨Nat.le_of_ble_eq_true rfl, Nat.le_of_ble_eq_true rfl⟩) hS (fun q _ h => hFc q h) hFc (fun r u t H1 locs ht hvm hw hB hz1 hk1 hS => ?_)
  obtain ⟨hP1, hD1⟩ := hB
  rw [ht] at hP1
  obtain ⟨rfl, rfl⟩ := hw
  obtain ⟨hP, hD⟩ := va_join (wr := [(a1, .inl (G.2 0, 30, .inl f0))]) (w1 := [(a0, .inr (6, [.int 6, .int 5, .ref a1, .int 1]))]) hP hD [0] [1] rfl rfl (by decide) (by decide) hk1 hFc hP1 hD1
  generalize H1 = H at hP hS ⊢
  have hP : va_P G.1 vwCl [(a1, .inl (G.2 0, 30, .inl f0)), (a0, .inr (6, [.int 6, .int 5, .ref a1, .int 1]))] H := hP
  have hD : va_D A [(a1, .inl (G.2 0, 30, .inl f0)), (a0, .inr (6, [.int 6, .int 5, .ref a1, .int 1]))] := hD
  refine lv_if_eq (tgt := 34) hx hb dX6_set_5 (by decide) (fun c_1 => ?_) (fun c_1 => ?_)
  ·
    exact absurd c_1 (by decide)
  ·
    refine lv_iload_n hx hb dX6_set_8 rfl (lv_at hl 2 rfl) ?_
    refine lv_if_lt (tgt := 34) hx hb dX6_set_9 (by decide) (fun c_2 => ?_) (fun c_2 => ?_)
    ·
      exact absurd c_2 (by decide)
    ·
      refine lv_iload_n hx hb dX6_set_12 rfl (lv_at hl 2 rfl) ?_
      refine lv_aload_n hx hb dX6_set_13 rfl (lv_at hl 0 rfl) ?_
      refine va_get (D := G.1) (ci := 6) (v := .int 5) (C := RX6) (T := TX6) (N := 4) hx hb hts inG_X6 hown hK hP 1 rfl rfl 1 (by decide) (hts _ fl_X6_18) (fun _ h9 => h9) rfl dX6_set_14 ?_
      refine lv_icmp_ge (tgt := 34) hx hb dX6_set_17 (by decide) (fun c_3 => ?_) (fun c_3 => ?_)
      ·
        exact absurd c_3 (by decide)
      ·
        refine lv_aload_n hx hb dX6_set_20 rfl (lv_at hl 0 rfl) ?_
        refine va_get (D := G.1) (ci := 6) (v := .ref a1) (C := RX6) (T := TX6) (N := 4) hx hb hts inG_X6 hown hK hP 1 rfl rfl 2 (by decide) (hts _ fl_X6_21) (fun _ h9 => h9) rfl dX6_set_21 ?_
        refine lv_iload_n hx hb dX6_set_24 rfl (lv_at hl 1 rfl) ?_
        refine lv_aload_n hx hb dX6_set_25 rfl (lv_at hl 0 rfl) ?_
        refine va_get (D := G.1) (ci := 6) (v := .int 5) (C := RX6) (T := TX6) (N := 4) hx hb hts inG_X6 hown hK hP 1 rfl rfl 1 (by decide) (hts _ fl_X6_18) (fun _ h9 => h9) rfl dX6_set_26 ?_
        refine lv_imul hx hb dX6_set_29 ?_
        refine g5_ti (v := 0) (by decide) ?_
        refine lv_iload_n hx hb dX6_set_30 rfl (lv_at hl 2 rfl) ?_
        refine lv_iadd hx hb dX6_set_31 ?_
        refine g5_ti (v := 4) (by decide) ?_
        refine lv_iload_n hx hb dX6_set_32 rfl (lv_at hl 3 rfl) ?_
        refine va_iast hx hb hK hP hD hS 0 0 rfl rfl (i := 4) (x := 0) (by unfold vp_in; decide) dX6_set_33 (fun H locs hP hD hS => ?_)
        have hP : va_P G.1 vwCl [(a1, .inl (G.2 0, 30, .inl (upd f0 4 0))), (a0, .inr (6, [.int 6, .int 5, .ref a1, .int 1]))] H := hP
        have hD : va_D A [(a1, .inl (G.2 0, 30, .inl (upd f0 4 0))), (a0, .inr (6, [.int 6, .int 5, .ref a1, .int 1]))] := hD
        exact W.vret hx hb hr (fun t ht hW => ⟨⟨[(a1, .inl (G.2 0, 30, .inl (upd f0 4 0))), (a0, .inr (6, [.int 6, .int 5, .ref a1, .int 1]))], rfl, rfl, by rw [ht]; exact hP, hD⟩, hS.F ht⟩) hS.2.2 dX6_set_34
theorem dX6_open_0 : decode cX6_open 0 = .ok (.aload_n 0, 1) := by decide +kernel
theorem dX6_open_1 : decode cX6_open 1 = .ok (.invokevirtual 33, 3) := by decide +kernel
theorem dX6_open_4 : decode cX6_open 4 = .ok (.ifCond .eq 5, 3) := by decide +kernel
theorem dX6_open_7 : decode cX6_open 7 = .ok (.iconst (-1), 1) := by decide +kernel
theorem dX6_open_8 : decode cX6_open 8 = .ok (.ireturn, 1) := by decide +kernel
theorem dX6_open_9 : decode cX6_open 9 = .ok (.aload_n 0, 1) := by decide +kernel
theorem dX6_open_10 : decode cX6_open 10 = .ok (.getfield 9, 3) := by decide +kernel
theorem dX6_open_13 : decode cX6_open 13 = .ok (.istore_n 2, 1) := by decide +kernel
theorem dX6_open_14 : decode cX6_open 14 = .ok (.aload_n 0, 1) := by decide +kernel
theorem dX6_open_15 : decode cX6_open 15 = .ok (.dup, 1) := by decide +kernel
theorem dX6_open_16 : decode cX6_open 16 = .ok (.getfield 9, 3) := by decide +kernel
theorem dX6_open_19 : decode cX6_open 19 = .ok (.iconst 1, 1) := by decide +kernel
theorem dX6_open_20 : decode cX6_open 20 = .ok (.iadd, 1) := by decide +kernel
theorem dX6_open_21 : decode cX6_open 21 = .ok (.putfield 9, 3) := by decide +kernel
theorem dX6_open_24 : decode cX6_open 24 = .ok (.iconst 0, 1) := by decide +kernel
theorem dX6_open_25 : decode cX6_open 25 = .ok (.istore_n 3, 1) := by decide +kernel
theorem dX6_open_26 : decode cX6_open 26 = .ok (.iload_n 3, 1) := by decide +kernel
theorem dX6_open_27 : decode cX6_open 27 = .ok (.aload_n 0, 1) := by decide +kernel
theorem dX6_open_28 : decode cX6_open 28 = .ok (.getfield 18, 3) := by decide +kernel
theorem dX6_open_31 : decode cX6_open 31 = .ok (.if_icmp .ge 16, 3) := by decide +kernel
theorem dX6_open_34 : decode cX6_open 34 = .ok (.aload_n 0, 1) := by decide +kernel
theorem dX6_open_35 : decode cX6_open 35 = .ok (.iload_n 2, 1) := by decide +kernel
theorem dX6_open_36 : decode cX6_open 36 = .ok (.iload_n 3, 1) := by decide +kernel
theorem dX6_open_37 : decode cX6_open 37 = .ok (.iload_n 1, 1) := by decide +kernel
theorem dX6_open_38 : decode cX6_open 38 = .ok (.invokevirtual 29, 3) := by decide +kernel
theorem dX6_open_41 : decode cX6_open 41 = .ok (.iinc 3 1, 3) := by decide +kernel
theorem dX6_open_44 : decode cX6_open 44 = .ok (.goto (-18), 3) := by decide +kernel
theorem dX6_open_47 : decode cX6_open 47 = .ok (.iload_n 2, 1) := by decide +kernel
theorem dX6_open_48 : decode cX6_open 48 = .ok (.ireturn, 1) := by decide +kernel
set_option maxHeartbeats 4000000 in
set_option maxRecDepth 100000 in
theorem kX6_open (l : Launch) (G : g5_G) (a0 a1 : Nat) (sz : Nat) : Met l yX6_open (wsG yX6_open cX6_open 4 (some .int)) ({ frames := 2, cells := 0, slots := 0, locals := 44 }) (va_Pc [.ref a0, .int 0] (g5_P G [(a0, .inr (6, [.int 6, .int 5, .ref a1, .int 0])), (a1, .inl (G.2 0, 30, .inl (fun _ => 0)))] sz)) (va_Qi (fun (r : Int32) (u : va_W) => ((r = 0) ∧ (u = [(a1, .inl (G.2 0, 30, .inl (upd (upd (upd (upd (upd (fun _ => 0) 0 0) 1 0) 2 0) 3 0) 4 0))), (a0, .inr (6, [.int 6, .int 5, .ref a1, .int 1]))]))) (g5_B G (va_A [(a0, .inr (6, [.int 6, .int 5, .ref a1, .int 0])), (a1, .inl (G.2 0, 30, .inl (fun _ => 0)))] sz)) (va_A [(a0, .inr (6, [.int 6, .int 5, .ref a1, .int 0])), (a1, .inl (G.2 0, 30, .inl (fun _ => 0)))] sz)) 0 0 (va_A [(a0, .inr (6, [.int 6, .int 5, .ref a1, .int 0])), (a1, .inl (G.2 0, 30, .inl (fun _ => 0)))] sz) := by
  refine Met.ofW (cc := cX6_open) (maxL := 4) (ret := (some .int)) (by decide) rfl ?_
  intro p e s m args below meth c s₁ B hml hv
  obtain ⟨rfl, hsz, hP, hK, hD0, hN, hT⟩ := hv
  have hx := B.exec
  have hb := B.bytes
  have hr := B.returns
  have hts : ∀ w ∈ tblG, w.before _ s = true := fun w h => atoms_spec (ws := (wsG yX6_open cX6_open 4 (some .int))) B.pre w (List.mem_cons_of_mem _ h)
  have hown : s.vm.findClass RX6 = some m.cls := findClass_of_methodNamed B.named
  have hlocks := B.notSynchronized
  subst hsz
  have hD := hD0.self (sz := s.heap.size)
  generalize hAe : va_A [(a0, .inr (6, [.int 6, .int 5, .ref a1, .int 0])), (a1, .inl (G.2 0, 30, .inl (fun _ => 0)))] s.heap.size = A at hD hT ⊢
  have hA : ∀ q : Nat, s.heap.size ≤ q → A q := fun q h => by rw [← hAe]; exact Or.inr h
  have hS : va_S A s.heap s.heap [] := va_S.rf
  have hP : va_P G.1 vwCl [(a0, .inr (6, [.int 6, .int 5, .ref a1, .int 0])), (a1, .inl (G.2 0, 30, .inl (fun _ => 0)))] s.heap := hP
  have hl := lv_entry ([.ref a0, .int 0]) (n := 4) (Nat.le_of_ble_eq_true rfl)
  rw [lg_entry_eq]
  generalize (lg_sl ([.ref a0, .int 0]) ++ List.replicate (4 - (lg_sl ([.ref a0, .int 0])).length) Slot.unset).toArray = ls at hl ⊢
  have hl : lv_has ls 4 [(0, .ref a0), (1, .int 0)] := hl
  refine lv_aload_n hx hb dX6_open_0 rfl (lv_at hl 0 rfl) ?_
  have hPc := hP.sub (ws' := [(a0, .inr (6, [.int 6, .int 5, .ref a1, .int 0]))]) [0] rfl
  have hDc := hD.sub (ws' := [(a0, .inr (6, [.int 6, .int 5, .ref a1, .int 0]))]) [0] (by decide) rfl
  have hFc := va_free (wc := [(a0, .inr (6, [.int 6, .int 5, .ref a1, .int 0]))]) hD hS hA [0] rfl
  refine va_calli (va_runV (As := []) (rest := []) ⟨hx, hb, hml, hown, hts⟩ (kX6_isFull l G a0 a1 s.heap.size) (cwV 0 hts gV_X6_33 rfl rfl rfl hv_X6_isFull ⟨Nat.le_of_ble_eq_true rfl, Nat.le_of_ble_eq_true rfl⟩) (g5_preV hPc hK hDc hN hT hS hFc (ci := 6) (q0 := 0) rfl rfl) rfl rfl hl.1 rfl (lv_room (Nat.le_of_ble_eq_true rfl)) dX6_open_1 ⟨Nat.le_of_ble_eq_true rfl, Nat.le_of_ble_eq_true rfl⟩) hS (fun q _ h => hFc q h) hFc (fun r u t H1 locs ht hvm hw hB hz1 hk1 hS => ?_)
  obtain ⟨hP1, hD1⟩ := hB
  rw [ht] at hP1
  obtain ⟨rfl, rfl⟩ := hw
  obtain ⟨hP, hD⟩ := va_join (wr := [(a1, .inl (G.2 0, 30, .inl (fun _ => 0)))]) (w1 := [(a0, .inr (6, [.int 6, .int 5, .ref a1, .int 0]))]) hP hD [0] [1] rfl rfl (by decide) (by decide) hk1 hFc hP1 hD1
  generalize H1 = H at hP hS ⊢
  have hP : va_P G.1 vwCl [(a1, .inl (G.2 0, 30, .inl (fun _ => 0))), (a0, .inr (6, [.int 6, .int 5, .ref a1, .int 0]))] H := hP
  have hD : va_D A [(a1, .inl (G.2 0, 30, .inl (fun _ => 0))), (a0, .inr (6, [.int 6, .int 5, .ref a1, .int 0]))] := hD
  refine lv_if_eq (tgt := 9) hx hb dX6_open_4 (by decide) (fun c_1 => ?_) (fun c_1 => ?_)
  ·
    refine lv_aload_n hx hb dX6_open_9 rfl (lv_at hl 0 rfl) ?_
    refine va_get (D := G.1) (ci := 6) (v := .int 0) (C := RX6) (T := TX6) (N := 4) hx hb hts inG_X6 hown hK hP 1 rfl rfl 3 (by decide) (hts _ fl_X6_9) (fun _ h9 => h9) rfl dX6_open_10 ?_
    refine lv_istore_n (lv' := [(2, .int 0), (0, .ref a0), (1, .int 0)]) hx hb dX6_open_13 rfl hl (by decide) rfl (fun ls hl => ?_)
    refine lv_aload_n hx hb dX6_open_14 rfl (lv_at hl 1 rfl) ?_
    refine lv_dup hx hb dX6_open_15 rfl ?_
    refine va_get (D := G.1) (ci := 6) (v := .int 0) (C := RX6) (T := TX6) (N := 4) hx hb hts inG_X6 hown hK hP 1 rfl rfl 3 (by decide) (hts _ fl_X6_9) (fun _ h9 => h9) rfl dX6_open_16 ?_
    refine lv_iconst (v := 1) hx hb dX6_open_19 (by decide) ?_
    refine lv_iadd hx hb dX6_open_20 ?_
    refine g5_ti (v := 1) (by decide) ?_
    refine va_put (D := G.1) (ci := 6) (v := .int 1) (ty := .int) (C := RX6) (T := TX6) (N := 4) hx hb hts inG_X6 tyX6 tyX6_ok nmX6 hown hK hP hD hS 1 rfl rfl 3 (by decide) (hts _ fl_X6_9) (fun _ h9 => h9) rfl (by decide +kernel) rfl rfl (Nat.le_of_ble_eq_true rfl) dX6_open_21 (fun H locs hP hD hS => ?_)
    have hP : va_P G.1 vwCl [(a1, .inl (G.2 0, 30, .inl (fun _ => 0))), (a0, .inr (6, [.int 6, .int 5, .ref a1, .int 1]))] H := hP
    have hD : va_D A [(a1, .inl (G.2 0, 30, .inl (fun _ => 0))), (a0, .inr (6, [.int 6, .int 5, .ref a1, .int 1]))] := hD
    refine lv_iconst (v := 0) hx hb dX6_open_24 (by decide) ?_
    refine lv_istore_n (lv' := [(3, .int 0), (2, .int 0), (0, .ref a0), (1, .int 0)]) hx hb dX6_open_25 rfl hl (by decide) rfl (fun ls hl => ?_)
    refine lv_iload_n hx hb dX6_open_26 rfl (lv_at hl 0 rfl) ?_
    refine lv_aload_n hx hb dX6_open_27 rfl (lv_at hl 2 rfl) ?_
    refine va_get (D := G.1) (ci := 6) (v := .int 5) (C := RX6) (T := TX6) (N := 4) hx hb hts inG_X6 hown hK hP 1 rfl rfl 1 (by decide) (hts _ fl_X6_18) (fun _ h9 => h9) rfl dX6_open_28 ?_
    refine lv_icmp_ge (tgt := 47) hx hb dX6_open_31 (by decide) (fun c_2 => ?_) (fun c_2 => ?_)
    ·
      exact absurd c_2 (by decide)
    ·
      refine lv_aload_n hx hb dX6_open_34 rfl (lv_at hl 2 rfl) ?_
      refine lv_iload_n hx hb dX6_open_35 rfl (lv_at hl 1 rfl) ?_
      refine lv_iload_n hx hb dX6_open_36 rfl (lv_at hl 0 rfl) ?_
      refine lv_iload_n hx hb dX6_open_37 rfl (lv_at hl 3 rfl) ?_
      have hPc := hP.sub (ws' := [(a0, .inr (6, [.int 6, .int 5, .ref a1, .int 1])), (a1, .inl (G.2 0, 30, .inl (fun _ => 0)))]) [1, 0] rfl
      have hDc := hD.sub (ws' := [(a0, .inr (6, [.int 6, .int 5, .ref a1, .int 1])), (a1, .inl (G.2 0, 30, .inl (fun _ => 0)))]) [1, 0] (by decide) rfl
      have hFc := va_free (wc := [(a0, .inr (6, [.int 6, .int 5, .ref a1, .int 1])), (a1, .inl (G.2 0, 30, .inl (fun _ => 0)))]) hD hS hA [1, 0] rfl
      refine va_callv (va_runV (As := [.int 0, .int 0, .int 0]) (rest := []) ⟨hx, hb, hml, hown, hts⟩ (kX6_set l G a0 a1 H.size) (cwV 3 hts gV_X6_29 rfl rfl rfl hv_X6_set ⟨Nat.le_of_ble_eq_true rfl, Nat.le_of_ble_eq_true rfl⟩) (g5_preV hPc hK hDc hN hT hS hFc (ci := 6) (q0 := 0) rfl rfl) rfl rfl hl.1 rfl (lv_room (Nat.le_of_ble_eq_true rfl)) dX6_open_38 ⟨Nat.le_of_ble_eq_true rfl, Nat.le_of_ble_eq_true rfl⟩) hS (fun q _ h => hFc q h) hFc (fun u t H1 locs ht hvm hw hB hz1 hk1 hS => ?_)
      obtain ⟨hP1, hD1⟩ := hB
      rw [ht] at hP1
      obtain rfl := hw
      obtain ⟨hP, hD⟩ := va_join (wr := []) (w1 := [(a1, .inl (G.2 0, 30, .inl (upd (fun _ => 0) 0 0))), (a0, .inr (6, [.int 6, .int 5, .ref a1, .int 1]))]) hP hD [1, 0] [] rfl rfl (by decide) (by decide) hk1 hFc hP1 hD1
      generalize H1 = H at hP hS ⊢
      have hP : va_P G.1 vwCl [(a1, .inl (G.2 0, 30, .inl (upd (fun _ => 0) 0 0))), (a0, .inr (6, [.int 6, .int 5, .ref a1, .int 1]))] H := hP
      have hD : va_D A [(a1, .inl (G.2 0, 30, .inl (upd (fun _ => 0) 0 0))), (a0, .inr (6, [.int 6, .int 5, .ref a1, .int 1]))] := hD
      refine lv_iinc (v := 1) (lv' := [(3, .int 1), (2, .int 0), (0, .ref a0), (1, .int 0)]) hx hb dX6_open_41 hl (k := 0) rfl (by decide) (by decide) rfl (fun ls hl => ?_)
      refine lv_goto (tgt := 26) hx hb dX6_open_44 (by decide) ?_
      refine lv_iload_n hx hb dX6_open_26 rfl (lv_at hl 0 rfl) ?_
      refine lv_aload_n hx hb dX6_open_27 rfl (lv_at hl 2 rfl) ?_
      refine va_get (D := G.1) (ci := 6) (v := .int 5) (C := RX6) (T := TX6) (N := 4) hx hb hts inG_X6 hown hK hP 1 rfl rfl 1 (by decide) (hts _ fl_X6_18) (fun _ h9 => h9) rfl dX6_open_28 ?_
      refine lv_icmp_ge (tgt := 47) hx hb dX6_open_31 (by decide) (fun c_3 => ?_) (fun c_3 => ?_)
      ·
        exact absurd c_3 (by decide)
      ·
        refine lv_aload_n hx hb dX6_open_34 rfl (lv_at hl 2 rfl) ?_
        refine lv_iload_n hx hb dX6_open_35 rfl (lv_at hl 1 rfl) ?_
        refine lv_iload_n hx hb dX6_open_36 rfl (lv_at hl 0 rfl) ?_
        refine lv_iload_n hx hb dX6_open_37 rfl (lv_at hl 3 rfl) ?_
        have hPc := hP.sub (ws' := [(a0, .inr (6, [.int 6, .int 5, .ref a1, .int 1])), (a1, .inl (G.2 0, 30, .inl (upd (fun _ => 0) 0 0)))]) [1, 0] rfl
        have hDc := hD.sub (ws' := [(a0, .inr (6, [.int 6, .int 5, .ref a1, .int 1])), (a1, .inl (G.2 0, 30, .inl (upd (fun _ => 0) 0 0)))]) [1, 0] (by decide) rfl
        have hFc := va_free (wc := [(a0, .inr (6, [.int 6, .int 5, .ref a1, .int 1])), (a1, .inl (G.2 0, 30, .inl (upd (fun _ => 0) 0 0)))]) hD hS hA [1, 0] rfl
        refine va_callv (va_runV (As := [.int 0, .int 1, .int 0]) (rest := []) ⟨hx, hb, hml, hown, hts⟩ (kX6_set_2 l G a0 a1 H.size) (cwV 3 hts gV_X6_29 rfl rfl rfl hv_X6_set ⟨Nat.le_of_ble_eq_true rfl, Nat.le_of_ble_eq_true rfl⟩) (g5_preV hPc hK hDc hN hT hS hFc (ci := 6) (q0 := 0) rfl rfl) rfl rfl hl.1 rfl (lv_room (Nat.le_of_ble_eq_true rfl)) dX6_open_38 ⟨Nat.le_of_ble_eq_true rfl, Nat.le_of_ble_eq_true rfl⟩) hS (fun q _ h => hFc q h) hFc (fun u t H1 locs ht hvm hw hB hz1 hk1 hS => ?_)
        obtain ⟨hP1, hD1⟩ := hB
        rw [ht] at hP1
        obtain rfl := hw
        obtain ⟨hP, hD⟩ := va_join (wr := []) (w1 := [(a1, .inl (G.2 0, 30, .inl (upd (upd (fun _ => 0) 0 0) 1 0))), (a0, .inr (6, [.int 6, .int 5, .ref a1, .int 1]))]) hP hD [1, 0] [] rfl rfl (by decide) (by decide) hk1 hFc hP1 hD1
        generalize H1 = H at hP hS ⊢
        have hP : va_P G.1 vwCl [(a1, .inl (G.2 0, 30, .inl (upd (upd (fun _ => 0) 0 0) 1 0))), (a0, .inr (6, [.int 6, .int 5, .ref a1, .int 1]))] H := hP
        have hD : va_D A [(a1, .inl (G.2 0, 30, .inl (upd (upd (fun _ => 0) 0 0) 1 0))), (a0, .inr (6, [.int 6, .int 5, .ref a1, .int 1]))] := hD
        refine lv_iinc (v := 2) (lv' := [(3, .int 2), (2, .int 0), (0, .ref a0), (1, .int 0)]) hx hb dX6_open_41 hl (k := 0) rfl (by decide) (by decide) rfl (fun ls hl => ?_)
        refine lv_goto (tgt := 26) hx hb dX6_open_44 (by decide) ?_
        refine lv_iload_n hx hb dX6_open_26 rfl (lv_at hl 0 rfl) ?_
        refine lv_aload_n hx hb dX6_open_27 rfl (lv_at hl 2 rfl) ?_
        refine va_get (D := G.1) (ci := 6) (v := .int 5) (C := RX6) (T := TX6) (N := 4) hx hb hts inG_X6 hown hK hP 1 rfl rfl 1 (by decide) (hts _ fl_X6_18) (fun _ h9 => h9) rfl dX6_open_28 ?_
        refine lv_icmp_ge (tgt := 47) hx hb dX6_open_31 (by decide) (fun c_4 => ?_) (fun c_4 => ?_)
        ·
          exact absurd c_4 (by decide)
        ·
          refine lv_aload_n hx hb dX6_open_34 rfl (lv_at hl 2 rfl) ?_
          refine lv_iload_n hx hb dX6_open_35 rfl (lv_at hl 1 rfl) ?_
          refine lv_iload_n hx hb dX6_open_36 rfl (lv_at hl 0 rfl) ?_
          refine lv_iload_n hx hb dX6_open_37 rfl (lv_at hl 3 rfl) ?_
          have hPc := hP.sub (ws' := [(a0, .inr (6, [.int 6, .int 5, .ref a1, .int 1])), (a1, .inl (G.2 0, 30, .inl (upd (upd (fun _ => 0) 0 0) 1 0)))]) [1, 0] rfl
          have hDc := hD.sub (ws' := [(a0, .inr (6, [.int 6, .int 5, .ref a1, .int 1])), (a1, .inl (G.2 0, 30, .inl (upd (upd (fun _ => 0) 0 0) 1 0)))]) [1, 0] (by decide) rfl
          have hFc := va_free (wc := [(a0, .inr (6, [.int 6, .int 5, .ref a1, .int 1])), (a1, .inl (G.2 0, 30, .inl (upd (upd (fun _ => 0) 0 0) 1 0)))]) hD hS hA [1, 0] rfl
          refine va_callv (va_runV (As := [.int 0, .int 2, .int 0]) (rest := []) ⟨hx, hb, hml, hown, hts⟩ (kX6_set_3 l G a0 a1 H.size) (cwV 3 hts gV_X6_29 rfl rfl rfl hv_X6_set ⟨Nat.le_of_ble_eq_true rfl, Nat.le_of_ble_eq_true rfl⟩) (g5_preV hPc hK hDc hN hT hS hFc (ci := 6) (q0 := 0) rfl rfl) rfl rfl hl.1 rfl (lv_room (Nat.le_of_ble_eq_true rfl)) dX6_open_38 ⟨Nat.le_of_ble_eq_true rfl, Nat.le_of_ble_eq_true rfl⟩) hS (fun q _ h => hFc q h) hFc (fun u t H1 locs ht hvm hw hB hz1 hk1 hS => ?_)
          obtain ⟨hP1, hD1⟩ := hB
          rw [ht] at hP1
          obtain rfl := hw
          obtain ⟨hP, hD⟩ := va_join (wr := []) (w1 := [(a1, .inl (G.2 0, 30, .inl (upd (upd (upd (fun _ => 0) 0 0) 1 0) 2 0))), (a0, .inr (6, [.int 6, .int 5, .ref a1, .int 1]))]) hP hD [1, 0] [] rfl rfl (by decide) (by decide) hk1 hFc hP1 hD1
          generalize H1 = H at hP hS ⊢
          have hP : va_P G.1 vwCl [(a1, .inl (G.2 0, 30, .inl (upd (upd (upd (fun _ => 0) 0 0) 1 0) 2 0))), (a0, .inr (6, [.int 6, .int 5, .ref a1, .int 1]))] H := hP
          have hD : va_D A [(a1, .inl (G.2 0, 30, .inl (upd (upd (upd (fun _ => 0) 0 0) 1 0) 2 0))), (a0, .inr (6, [.int 6, .int 5, .ref a1, .int 1]))] := hD
          refine lv_iinc (v := 3) (lv' := [(3, .int 3), (2, .int 0), (0, .ref a0), (1, .int 0)]) hx hb dX6_open_41 hl (k := 0) rfl (by decide) (by decide) rfl (fun ls hl => ?_)
          refine lv_goto (tgt := 26) hx hb dX6_open_44 (by decide) ?_
          refine lv_iload_n hx hb dX6_open_26 rfl (lv_at hl 0 rfl) ?_
          refine lv_aload_n hx hb dX6_open_27 rfl (lv_at hl 2 rfl) ?_
          refine va_get (D := G.1) (ci := 6) (v := .int 5) (C := RX6) (T := TX6) (N := 4) hx hb hts inG_X6 hown hK hP 1 rfl rfl 1 (by decide) (hts _ fl_X6_18) (fun _ h9 => h9) rfl dX6_open_28 ?_
          refine lv_icmp_ge (tgt := 47) hx hb dX6_open_31 (by decide) (fun c_5 => ?_) (fun c_5 => ?_)
          ·
            exact absurd c_5 (by decide)
          ·
            refine lv_aload_n hx hb dX6_open_34 rfl (lv_at hl 2 rfl) ?_
            refine lv_iload_n hx hb dX6_open_35 rfl (lv_at hl 1 rfl) ?_
            refine lv_iload_n hx hb dX6_open_36 rfl (lv_at hl 0 rfl) ?_
            refine lv_iload_n hx hb dX6_open_37 rfl (lv_at hl 3 rfl) ?_
            have hPc := hP.sub (ws' := [(a0, .inr (6, [.int 6, .int 5, .ref a1, .int 1])), (a1, .inl (G.2 0, 30, .inl (upd (upd (upd (fun _ => 0) 0 0) 1 0) 2 0)))]) [1, 0] rfl
            have hDc := hD.sub (ws' := [(a0, .inr (6, [.int 6, .int 5, .ref a1, .int 1])), (a1, .inl (G.2 0, 30, .inl (upd (upd (upd (fun _ => 0) 0 0) 1 0) 2 0)))]) [1, 0] (by decide) rfl
            have hFc := va_free (wc := [(a0, .inr (6, [.int 6, .int 5, .ref a1, .int 1])), (a1, .inl (G.2 0, 30, .inl (upd (upd (upd (fun _ => 0) 0 0) 1 0) 2 0)))]) hD hS hA [1, 0] rfl
            refine va_callv (va_runV (As := [.int 0, .int 3, .int 0]) (rest := []) ⟨hx, hb, hml, hown, hts⟩ (kX6_set_4 l G a0 a1 H.size) (cwV 3 hts gV_X6_29 rfl rfl rfl hv_X6_set ⟨Nat.le_of_ble_eq_true rfl, Nat.le_of_ble_eq_true rfl⟩) (g5_preV hPc hK hDc hN hT hS hFc (ci := 6) (q0 := 0) rfl rfl) rfl rfl hl.1 rfl (lv_room (Nat.le_of_ble_eq_true rfl)) dX6_open_38 ⟨Nat.le_of_ble_eq_true rfl, Nat.le_of_ble_eq_true rfl⟩) hS (fun q _ h => hFc q h) hFc (fun u t H1 locs ht hvm hw hB hz1 hk1 hS => ?_)
            obtain ⟨hP1, hD1⟩ := hB
            rw [ht] at hP1
            obtain rfl := hw
            obtain ⟨hP, hD⟩ := va_join (wr := []) (w1 := [(a1, .inl (G.2 0, 30, .inl (upd (upd (upd (upd (fun _ => 0) 0 0) 1 0) 2 0) 3 0))), (a0, .inr (6, [.int 6, .int 5, .ref a1, .int 1]))]) hP hD [1, 0] [] rfl rfl (by decide) (by decide) hk1 hFc hP1 hD1
            generalize H1 = H at hP hS ⊢
            have hP : va_P G.1 vwCl [(a1, .inl (G.2 0, 30, .inl (upd (upd (upd (upd (fun _ => 0) 0 0) 1 0) 2 0) 3 0))), (a0, .inr (6, [.int 6, .int 5, .ref a1, .int 1]))] H := hP
            have hD : va_D A [(a1, .inl (G.2 0, 30, .inl (upd (upd (upd (upd (fun _ => 0) 0 0) 1 0) 2 0) 3 0))), (a0, .inr (6, [.int 6, .int 5, .ref a1, .int 1]))] := hD
            refine lv_iinc (v := 4) (lv' := [(3, .int 4), (2, .int 0), (0, .ref a0), (1, .int 0)]) hx hb dX6_open_41 hl (k := 0) rfl (by decide) (by decide) rfl (fun ls hl => ?_)
            refine lv_goto (tgt := 26) hx hb dX6_open_44 (by decide) ?_
            refine lv_iload_n hx hb dX6_open_26 rfl (lv_at hl 0 rfl) ?_
            refine lv_aload_n hx hb dX6_open_27 rfl (lv_at hl 2 rfl) ?_
            refine va_get (D := G.1) (ci := 6) (v := .int 5) (C := RX6) (T := TX6) (N := 4) hx hb hts inG_X6 hown hK hP 1 rfl rfl 1 (by decide) (hts _ fl_X6_18) (fun _ h9 => h9) rfl dX6_open_28 ?_
            refine lv_icmp_ge (tgt := 47) hx hb dX6_open_31 (by decide) (fun c_6 => ?_) (fun c_6 => ?_)
            ·
              exact absurd c_6 (by decide)
            ·
              refine lv_aload_n hx hb dX6_open_34 rfl (lv_at hl 2 rfl) ?_
              refine lv_iload_n hx hb dX6_open_35 rfl (lv_at hl 1 rfl) ?_
              refine lv_iload_n hx hb dX6_open_36 rfl (lv_at hl 0 rfl) ?_
              refine lv_iload_n hx hb dX6_open_37 rfl (lv_at hl 3 rfl) ?_
              have hPc := hP.sub (ws' := [(a0, .inr (6, [.int 6, .int 5, .ref a1, .int 1])), (a1, .inl (G.2 0, 30, .inl (upd (upd (upd (upd (fun _ => 0) 0 0) 1 0) 2 0) 3 0)))]) [1, 0] rfl
              have hDc := hD.sub (ws' := [(a0, .inr (6, [.int 6, .int 5, .ref a1, .int 1])), (a1, .inl (G.2 0, 30, .inl (upd (upd (upd (upd (fun _ => 0) 0 0) 1 0) 2 0) 3 0)))]) [1, 0] (by decide) rfl
              have hFc := va_free (wc := [(a0, .inr (6, [.int 6, .int 5, .ref a1, .int 1])), (a1, .inl (G.2 0, 30, .inl (upd (upd (upd (upd (fun _ => 0) 0 0) 1 0) 2 0) 3 0)))]) hD hS hA [1, 0] rfl
              refine va_callv (va_runV (As := [.int 0, .int 4, .int 0]) (rest := []) ⟨hx, hb, hml, hown, hts⟩ (kX6_set_5 l G a0 a1 H.size (upd (upd (upd (upd (fun _ => 0) 0 0) 1 0) 2 0) 3 0)) (cwV 3 hts gV_X6_29 rfl rfl rfl hv_X6_set ⟨Nat.le_of_ble_eq_true rfl, Nat.le_of_ble_eq_true rfl⟩) (g5_preV hPc hK hDc hN hT hS hFc (ci := 6) (q0 := 0) rfl rfl) rfl rfl hl.1 rfl (lv_room (Nat.le_of_ble_eq_true rfl)) dX6_open_38 ⟨Nat.le_of_ble_eq_true rfl, Nat.le_of_ble_eq_true rfl⟩) hS (fun q _ h => hFc q h) hFc (fun u t H1 locs ht hvm hw hB hz1 hk1 hS => ?_)
              obtain ⟨hP1, hD1⟩ := hB
              rw [ht] at hP1
              obtain rfl := hw
              obtain ⟨hP, hD⟩ := va_join (wr := []) (w1 := [(a1, .inl (G.2 0, 30, .inl (upd (upd (upd (upd (upd (fun _ => 0) 0 0) 1 0) 2 0) 3 0) 4 0))), (a0, .inr (6, [.int 6, .int 5, .ref a1, .int 1]))]) hP hD [1, 0] [] rfl rfl (by decide) (by decide) hk1 hFc hP1 hD1
              generalize H1 = H at hP hS ⊢
              have hP : va_P G.1 vwCl [(a1, .inl (G.2 0, 30, .inl (upd (upd (upd (upd (upd (fun _ => 0) 0 0) 1 0) 2 0) 3 0) 4 0))), (a0, .inr (6, [.int 6, .int 5, .ref a1, .int 1]))] H := hP
              have hD : va_D A [(a1, .inl (G.2 0, 30, .inl (upd (upd (upd (upd (upd (fun _ => 0) 0 0) 1 0) 2 0) 3 0) 4 0))), (a0, .inr (6, [.int 6, .int 5, .ref a1, .int 1]))] := hD
              refine lv_iinc (v := 5) (lv' := [(3, .int 5), (2, .int 0), (0, .ref a0), (1, .int 0)]) hx hb dX6_open_41 hl (k := 0) rfl (by decide) (by decide) rfl (fun ls hl => ?_)
              refine lv_goto (tgt := 26) hx hb dX6_open_44 (by decide) ?_
              refine lv_iload_n hx hb dX6_open_26 rfl (lv_at hl 0 rfl) ?_
              refine lv_aload_n hx hb dX6_open_27 rfl (lv_at hl 2 rfl) ?_
              refine va_get (D := G.1) (ci := 6) (v := .int 5) (C := RX6) (T := TX6) (N := 4) hx hb hts inG_X6 hown hK hP 1 rfl rfl 1 (by decide) (hts _ fl_X6_18) (fun _ h9 => h9) rfl dX6_open_28 ?_
              refine lv_icmp_ge (tgt := 47) hx hb dX6_open_31 (by decide) (fun c_7 => ?_) (fun c_7 => ?_)
              ·
                refine lv_iload_n hx hb dX6_open_47 rfl (lv_at hl 1 rfl) ?_
                exact W.iret (v := 0) hx hb hr (fun t ht hW => ⟨⟨0, [(a1, .inl (G.2 0, 30, .inl (upd (upd (upd (upd (upd (fun _ => 0) 0 0) 1 0) 2 0) 3 0) 4 0))), (a0, .inr (6, [.int 6, .int 5, .ref a1, .int 1]))], rfl, ⟨rfl, rfl⟩, by rw [ht]; exact hP, hD⟩, hS.F ht⟩) hS.2.2 dX6_open_48
              ·
                exact absurd c_7 (by decide)
  ·
    exact absurd c_1 (by decide)
theorem ml_X11_146 : Cond.methodLink RX11 146 yX6_open ∈ tblG := tg 552 (by decide +kernel) (by decide +kernel)
theorem im_X6_open : Cond.instanceMethod yX6_open ∈ tblG := tg 553 (by decide +kernel) (by decide +kernel)
theorem se_X6_open : Cond.selects RX6 yX6_open yX6_open ∈ tblG := tg 554 (by decide +kernel) (by decide +kernel)
theorem cd_X6_open : Cond.code yX6_open cX6_open 4 (some .int) ∈ tblG := tg 555 (by decide +kernel) (by decide +kernel)
theorem gW_X6_open : GoodIn tblG (wsG yX6_open cX6_open 4 (some .int)) := tgi cd_X6_open
theorem gV_X11_146 : GoodIn tblG (wsV RX11 146 RX6 yX6_open (wsG yX6_open cX6_open 4 (some .int))) := tgV ml_X11_146 im_X6_open se_X6_open ini_X6 gW_X6_open
theorem hv_X6_open : yX6_open.cls = RX6 ∧ yX6_open.cls ≠ "java/lang/invoke/MethodHandle" ∧ yX6_open.cls ≠ "java/lang/invoke/VarHandle" ∧ (parseMethodDescriptor yX6_open.desc).map (fun d => d.parameters.length) = some 1 := by decide +kernel
set_option maxHeartbeats 4000000 in
set_option maxRecDepth 100000 in
theorem kX6_set_6 (l : Launch) (G : g5_G) (a0 a1 : Nat) (sz : Nat) (n0 : Int32) (f0 : Nat → Int32) (h_n0 : 0 ≤ n0.toInt ∧ n0.toInt ≤ 63) : Met l yX6_set (wsG yX6_set cX6_set 4 none) ({ frames := 1, cells := 0, slots := 0, locals := 21 }) (va_Pc [.ref a0, .int 0, .int 0, .int n0] (g5_P G [(a0, .inr (6, [.int 6, .int 5, .ref a1, .int 1])), (a1, .inl (G.2 0, 30, .inl f0))] sz)) (va_Qv (fun (u : va_W) => ((u = [(a1, .inl (G.2 0, 30, .inl (upd f0 0 n0))), (a0, .inr (6, [.int 6, .int 5, .ref a1, .int 1]))]))) (g5_B G (va_A [(a0, .inr (6, [.int 6, .int 5, .ref a1, .int 1])), (a1, .inl (G.2 0, 30, .inl f0))] sz)) (va_A [(a0, .inr (6, [.int 6, .int 5, .ref a1, .int 1])), (a1, .inl (G.2 0, 30, .inl f0))] sz)) 0 0 (va_A [(a0, .inr (6, [.int 6, .int 5, .ref a1, .int 1])), (a1, .inl (G.2 0, 30, .inl f0))] sz) := by
  refine Met.ofW (cc := cX6_set) (maxL := 4) (ret := none) (by decide) rfl ?_
  intro p e s m args below meth c s₁ B hml hv
  obtain ⟨rfl, hsz, hP, hK, hD0, hN, hT⟩ := hv
  have hx := B.exec
  have hb := B.bytes
  have hr := B.returns
  have hts : ∀ w ∈ tblG, w.before _ s = true := fun w h => atoms_spec (ws := (wsG yX6_set cX6_set 4 none)) B.pre w (List.mem_cons_of_mem _ h)
  have hown : s.vm.findClass RX6 = some m.cls := findClass_of_methodNamed B.named
  have hlocks := B.notSynchronized
  subst hsz
  have hD := hD0.self (sz := s.heap.size)
  generalize hAe : va_A [(a0, .inr (6, [.int 6, .int 5, .ref a1, .int 1])), (a1, .inl (G.2 0, 30, .inl f0))] s.heap.size = A at hD hT ⊢
  have hA : ∀ q : Nat, s.heap.size ≤ q → A q := fun q h => by rw [← hAe]; exact Or.inr h
  have hS : va_S A s.heap s.heap [] := va_S.rf
  have hP : va_P G.1 vwCl [(a0, .inr (6, [.int 6, .int 5, .ref a1, .int 1])), (a1, .inl (G.2 0, 30, .inl f0))] s.heap := hP
  have hl := lv_entry ([.ref a0, .int 0, .int 0, .int n0]) (n := 4) (Nat.le_of_ble_eq_true rfl)
  rw [lg_entry_eq]
  generalize (lg_sl ([.ref a0, .int 0, .int 0, .int n0]) ++ List.replicate (4 - (lg_sl ([.ref a0, .int 0, .int 0, .int n0])).length) Slot.unset).toArray = ls at hl ⊢
  have hl : lv_has ls 4 [(0, .ref a0), (1, .int 0), (2, .int 0), (3, .int n0)] := hl
  refine lv_aload_n hx hb dX6_set_0 rfl (lv_at hl 0 rfl) ?_
  refine lv_iload_n hx hb dX6_set_1 rfl (lv_at hl 1 rfl) ?_
  have hPc := hP.sub (ws' := [(a0, .inr (6, [.int 6, .int 5, .ref a1, .int 1]))]) [0] rfl
  have hDc := hD.sub (ws' := [(a0, .inr (6, [.int 6, .int 5, .ref a1, .int 1]))]) [0] (by decide) rfl
  have hFc := va_free (wc := [(a0, .inr (6, [.int 6, .int 5, .ref a1, .int 1]))]) hD hS hA [0] rfl
  refine va_calli (va_runV (As := [.int 0]) (rest := []) ⟨hx, hb, hml, hown, hts⟩ (kX6_has l G a0 a1 s.heap.size) (cwV 1 hts gV_X6_25 rfl rfl rfl hv_X6_has ⟨Nat.le_of_ble_eq_true rfl, Nat.le_of_ble_eq_true rfl⟩) (g5_preV hPc hK hDc hN hT hS hFc (ci := 6) (q0 := 0) rfl rfl) rfl rfl hl.1 rfl (lv_room (Nat.le_of_ble_eq_true rfl)) dX6_set_2 ⟨Nat.le_of_ble_eq_true rfl, Nat.le_of_ble_eq_true rfl⟩) hS (fun q _ h => hFc q h) hFc (fun r u t H1 locs ht hvm hw hB hz1 hk1 hS => ?_)
  obtain ⟨hP1, hD1⟩ := hB
  rw [ht] at hP1
  obtain ⟨rfl, rfl⟩ := hw
  obtain ⟨hP, hD⟩ := va_join (wr := [(a1, .inl (G.2 0, 30, .inl f0))]) (w1 := [(a0, .inr (6, [.int 6, .int 5, .ref a1, .int 1]))]) hP hD [0] [1] rfl rfl (by decide) (by decide) hk1 hFc hP1 hD1
  generalize H1 = H at hP hS ⊢
  have hP : va_P G.1 vwCl [(a1, .inl (G.2 0, 30, .inl f0)), (a0, .inr (6, [.int 6, .int 5, .ref a1, .int 1]))] H := hP
  have hD : va_D A [(a1, .inl (G.2 0, 30, .inl f0)), (a0, .inr (6, [.int 6, .int 5, .ref a1, .int 1]))] := hD
  refine lv_if_eq (tgt := 34) hx hb dX6_set_5 (by decide) (fun c_1 => ?_) (fun c_1 => ?_)
  ·
    exact absurd c_1 (by decide)
  ·
    refine lv_iload_n hx hb dX6_set_8 rfl (lv_at hl 2 rfl) ?_
    refine lv_if_lt (tgt := 34) hx hb dX6_set_9 (by decide) (fun c_2 => ?_) (fun c_2 => ?_)
    ·
      exact absurd c_2 (by decide)
    ·
      refine lv_iload_n hx hb dX6_set_12 rfl (lv_at hl 2 rfl) ?_
      refine lv_aload_n hx hb dX6_set_13 rfl (lv_at hl 0 rfl) ?_
      refine va_get (D := G.1) (ci := 6) (v := .int 5) (C := RX6) (T := TX6) (N := 4) hx hb hts inG_X6 hown hK hP 1 rfl rfl 1 (by decide) (hts _ fl_X6_18) (fun _ h9 => h9) rfl dX6_set_14 ?_
      refine lv_icmp_ge (tgt := 34) hx hb dX6_set_17 (by decide) (fun c_3 => ?_) (fun c_3 => ?_)
      ·
        exact absurd c_3 (by decide)
      ·
        refine lv_aload_n hx hb dX6_set_20 rfl (lv_at hl 0 rfl) ?_
        refine va_get (D := G.1) (ci := 6) (v := .ref a1) (C := RX6) (T := TX6) (N := 4) hx hb hts inG_X6 hown hK hP 1 rfl rfl 2 (by decide) (hts _ fl_X6_21) (fun _ h9 => h9) rfl dX6_set_21 ?_
        refine lv_iload_n hx hb dX6_set_24 rfl (lv_at hl 1 rfl) ?_
        refine lv_aload_n hx hb dX6_set_25 rfl (lv_at hl 0 rfl) ?_
        refine va_get (D := G.1) (ci := 6) (v := .int 5) (C := RX6) (T := TX6) (N := 4) hx hb hts inG_X6 hown hK hP 1 rfl rfl 1 (by decide) (hts _ fl_X6_18) (fun _ h9 => h9) rfl dX6_set_26 ?_
        refine lv_imul hx hb dX6_set_29 ?_
        refine g5_ti (v := 0) (by decide) ?_
        refine lv_iload_n hx hb dX6_set_30 rfl (lv_at hl 2 rfl) ?_
        refine lv_iadd hx hb dX6_set_31 ?_
        refine g5_ti (v := 0) (by decide) ?_
        refine lv_iload_n hx hb dX6_set_32 rfl (lv_at hl 3 rfl) ?_
        refine va_iast hx hb hK hP hD hS 0 0 rfl rfl (i := 0) (x := n0) (by unfold vp_in; decide) dX6_set_33 (fun H locs hP hD hS => ?_)
        have hP : va_P G.1 vwCl [(a1, .inl (G.2 0, 30, .inl (upd f0 0 n0))), (a0, .inr (6, [.int 6, .int 5, .ref a1, .int 1]))] H := hP
        have hD : va_D A [(a1, .inl (G.2 0, 30, .inl (upd f0 0 n0))), (a0, .inr (6, [.int 6, .int 5, .ref a1, .int 1]))] := hD
        exact W.vret hx hb hr (fun t ht hW => ⟨⟨[(a1, .inl (G.2 0, 30, .inl (upd f0 0 n0))), (a0, .inr (6, [.int 6, .int 5, .ref a1, .int 1]))], rfl, rfl, by rw [ht]; exact hP, hD⟩, hS.F ht⟩) hS.2.2 dX6_set_34
theorem ml_X11_149 : Cond.methodLink RX11 149 yX6_set ∈ tblG := tg 565 (by decide +kernel) (by decide +kernel)
theorem gV_X11_149 : GoodIn tblG (wsV RX11 149 RX6 yX6_set (wsG yX6_set cX6_set 4 none)) := tgV ml_X11_149 im_X6_set se_X6_set ini_X6 gW_X6_set
set_option maxHeartbeats 4000000 in
set_option maxRecDepth 100000 in
theorem kX6_set_7 (l : Launch) (G : g5_G) (a0 a1 : Nat) (sz : Nat) (n0 : Int32) (f0 : Nat → Int32) (h_n0 : 0 ≤ n0.toInt ∧ n0.toInt ≤ 5) : Met l yX6_set (wsG yX6_set cX6_set 4 none) ({ frames := 1, cells := 0, slots := 0, locals := 21 }) (va_Pc [.ref a0, .int 0, .int 1, .int n0] (g5_P G [(a0, .inr (6, [.int 6, .int 5, .ref a1, .int 1])), (a1, .inl (G.2 0, 30, .inl f0))] sz)) (va_Qv (fun (u : va_W) => ((u = [(a1, .inl (G.2 0, 30, .inl (upd f0 1 n0))), (a0, .inr (6, [.int 6, .int 5, .ref a1, .int 1]))]))) (g5_B G (va_A [(a0, .inr (6, [.int 6, .int 5, .ref a1, .int 1])), (a1, .inl (G.2 0, 30, .inl f0))] sz)) (va_A [(a0, .inr (6, [.int 6, .int 5, .ref a1, .int 1])), (a1, .inl (G.2 0, 30, .inl f0))] sz)) 0 0 (va_A [(a0, .inr (6, [.int 6, .int 5, .ref a1, .int 1])), (a1, .inl (G.2 0, 30, .inl f0))] sz) := by
  refine Met.ofW (cc := cX6_set) (maxL := 4) (ret := none) (by decide) rfl ?_
  intro p e s m args below meth c s₁ B hml hv
  obtain ⟨rfl, hsz, hP, hK, hD0, hN, hT⟩ := hv
  have hx := B.exec
  have hb := B.bytes
  have hr := B.returns
  have hts : ∀ w ∈ tblG, w.before _ s = true := fun w h => atoms_spec (ws := (wsG yX6_set cX6_set 4 none)) B.pre w (List.mem_cons_of_mem _ h)
  have hown : s.vm.findClass RX6 = some m.cls := findClass_of_methodNamed B.named
  have hlocks := B.notSynchronized
  subst hsz
  have hD := hD0.self (sz := s.heap.size)
  generalize hAe : va_A [(a0, .inr (6, [.int 6, .int 5, .ref a1, .int 1])), (a1, .inl (G.2 0, 30, .inl f0))] s.heap.size = A at hD hT ⊢
  have hA : ∀ q : Nat, s.heap.size ≤ q → A q := fun q h => by rw [← hAe]; exact Or.inr h
  have hS : va_S A s.heap s.heap [] := va_S.rf
  have hP : va_P G.1 vwCl [(a0, .inr (6, [.int 6, .int 5, .ref a1, .int 1])), (a1, .inl (G.2 0, 30, .inl f0))] s.heap := hP
  have hl := lv_entry ([.ref a0, .int 0, .int 1, .int n0]) (n := 4) (Nat.le_of_ble_eq_true rfl)
  rw [lg_entry_eq]
  generalize (lg_sl ([.ref a0, .int 0, .int 1, .int n0]) ++ List.replicate (4 - (lg_sl ([.ref a0, .int 0, .int 1, .int n0])).length) Slot.unset).toArray = ls at hl ⊢
  have hl : lv_has ls 4 [(0, .ref a0), (1, .int 0), (2, .int 1), (3, .int n0)] := hl
  refine lv_aload_n hx hb dX6_set_0 rfl (lv_at hl 0 rfl) ?_
  refine lv_iload_n hx hb dX6_set_1 rfl (lv_at hl 1 rfl) ?_
  have hPc := hP.sub (ws' := [(a0, .inr (6, [.int 6, .int 5, .ref a1, .int 1]))]) [0] rfl
  have hDc := hD.sub (ws' := [(a0, .inr (6, [.int 6, .int 5, .ref a1, .int 1]))]) [0] (by decide) rfl
  have hFc := va_free (wc := [(a0, .inr (6, [.int 6, .int 5, .ref a1, .int 1]))]) hD hS hA [0] rfl
  refine va_calli (va_runV (As := [.int 0]) (rest := []) ⟨hx, hb, hml, hown, hts⟩ (kX6_has l G a0 a1 s.heap.size) (cwV 1 hts gV_X6_25 rfl rfl rfl hv_X6_has ⟨Nat.le_of_ble_eq_true rfl, Nat.le_of_ble_eq_true rfl⟩) (g5_preV hPc hK hDc hN hT hS hFc (ci := 6) (q0 := 0) rfl rfl) rfl rfl hl.1 rfl (lv_room (Nat.le_of_ble_eq_true rfl)) dX6_set_2 ⟨Nat.le_of_ble_eq_true rfl, Nat.le_of_ble_eq_true rfl⟩) hS (fun q _ h => hFc q h) hFc (fun r u t H1 locs ht hvm hw hB hz1 hk1 hS => ?_)
  obtain ⟨hP1, hD1⟩ := hB
  rw [ht] at hP1
  obtain ⟨rfl, rfl⟩ := hw
  obtain ⟨hP, hD⟩ := va_join (wr := [(a1, .inl (G.2 0, 30, .inl f0))]) (w1 := [(a0, .inr (6, [.int 6, .int 5, .ref a1, .int 1]))]) hP hD [0] [1] rfl rfl (by decide) (by decide) hk1 hFc hP1 hD1
  generalize H1 = H at hP hS ⊢
  have hP : va_P G.1 vwCl [(a1, .inl (G.2 0, 30, .inl f0)), (a0, .inr (6, [.int 6, .int 5, .ref a1, .int 1]))] H := hP
  have hD : va_D A [(a1, .inl (G.2 0, 30, .inl f0)), (a0, .inr (6, [.int 6, .int 5, .ref a1, .int 1]))] := hD
  refine lv_if_eq (tgt := 34) hx hb dX6_set_5 (by decide) (fun c_1 => ?_) (fun c_1 => ?_)
  ·
    exact absurd c_1 (by decide)
  ·
    refine lv_iload_n hx hb dX6_set_8 rfl (lv_at hl 2 rfl) ?_
    refine lv_if_lt (tgt := 34) hx hb dX6_set_9 (by decide) (fun c_2 => ?_) (fun c_2 => ?_)
    ·
      exact absurd c_2 (by decide)
    ·
      refine lv_iload_n hx hb dX6_set_12 rfl (lv_at hl 2 rfl) ?_
      refine lv_aload_n hx hb dX6_set_13 rfl (lv_at hl 0 rfl) ?_
      refine va_get (D := G.1) (ci := 6) (v := .int 5) (C := RX6) (T := TX6) (N := 4) hx hb hts inG_X6 hown hK hP 1 rfl rfl 1 (by decide) (hts _ fl_X6_18) (fun _ h9 => h9) rfl dX6_set_14 ?_
      refine lv_icmp_ge (tgt := 34) hx hb dX6_set_17 (by decide) (fun c_3 => ?_) (fun c_3 => ?_)
      ·
        exact absurd c_3 (by decide)
      ·
        refine lv_aload_n hx hb dX6_set_20 rfl (lv_at hl 0 rfl) ?_
        refine va_get (D := G.1) (ci := 6) (v := .ref a1) (C := RX6) (T := TX6) (N := 4) hx hb hts inG_X6 hown hK hP 1 rfl rfl 2 (by decide) (hts _ fl_X6_21) (fun _ h9 => h9) rfl dX6_set_21 ?_
        refine lv_iload_n hx hb dX6_set_24 rfl (lv_at hl 1 rfl) ?_
        refine lv_aload_n hx hb dX6_set_25 rfl (lv_at hl 0 rfl) ?_
        refine va_get (D := G.1) (ci := 6) (v := .int 5) (C := RX6) (T := TX6) (N := 4) hx hb hts inG_X6 hown hK hP 1 rfl rfl 1 (by decide) (hts _ fl_X6_18) (fun _ h9 => h9) rfl dX6_set_26 ?_
        refine lv_imul hx hb dX6_set_29 ?_
        refine g5_ti (v := 0) (by decide) ?_
        refine lv_iload_n hx hb dX6_set_30 rfl (lv_at hl 2 rfl) ?_
        refine lv_iadd hx hb dX6_set_31 ?_
        refine g5_ti (v := 1) (by decide) ?_
        refine lv_iload_n hx hb dX6_set_32 rfl (lv_at hl 3 rfl) ?_
        refine va_iast hx hb hK hP hD hS 0 0 rfl rfl (i := 1) (x := n0) (by unfold vp_in; decide) dX6_set_33 (fun H locs hP hD hS => ?_)
        have hP : va_P G.1 vwCl [(a1, .inl (G.2 0, 30, .inl (upd f0 1 n0))), (a0, .inr (6, [.int 6, .int 5, .ref a1, .int 1]))] H := hP
        have hD : va_D A [(a1, .inl (G.2 0, 30, .inl (upd f0 1 n0))), (a0, .inr (6, [.int 6, .int 5, .ref a1, .int 1]))] := hD
        exact W.vret hx hb hr (fun t ht hW => ⟨⟨[(a1, .inl (G.2 0, 30, .inl (upd f0 1 n0))), (a0, .inr (6, [.int 6, .int 5, .ref a1, .int 1]))], rfl, rfl, by rw [ht]; exact hP, hD⟩, hS.F ht⟩) hS.2.2 dX6_set_34
set_option maxHeartbeats 4000000 in
set_option maxRecDepth 100000 in
theorem kX6_set_8 (l : Launch) (G : g5_G) (a0 a1 : Nat) (sz : Nat) (n0 : Int32) (f0 : Nat → Int32) (h_n0 : 0 ≤ n0.toInt ∧ n0.toInt ≤ 23) : Met l yX6_set (wsG yX6_set cX6_set 4 none) ({ frames := 1, cells := 0, slots := 0, locals := 21 }) (va_Pc [.ref a0, .int 0, .int 2, .int n0] (g5_P G [(a0, .inr (6, [.int 6, .int 5, .ref a1, .int 1])), (a1, .inl (G.2 0, 30, .inl f0))] sz)) (va_Qv (fun (u : va_W) => ((u = [(a1, .inl (G.2 0, 30, .inl (upd f0 2 n0))), (a0, .inr (6, [.int 6, .int 5, .ref a1, .int 1]))]))) (g5_B G (va_A [(a0, .inr (6, [.int 6, .int 5, .ref a1, .int 1])), (a1, .inl (G.2 0, 30, .inl f0))] sz)) (va_A [(a0, .inr (6, [.int 6, .int 5, .ref a1, .int 1])), (a1, .inl (G.2 0, 30, .inl f0))] sz)) 0 0 (va_A [(a0, .inr (6, [.int 6, .int 5, .ref a1, .int 1])), (a1, .inl (G.2 0, 30, .inl f0))] sz) := by
  refine Met.ofW (cc := cX6_set) (maxL := 4) (ret := none) (by decide) rfl ?_
  intro p e s m args below meth c s₁ B hml hv
  obtain ⟨rfl, hsz, hP, hK, hD0, hN, hT⟩ := hv
  have hx := B.exec
  have hb := B.bytes
  have hr := B.returns
  have hts : ∀ w ∈ tblG, w.before _ s = true := fun w h => atoms_spec (ws := (wsG yX6_set cX6_set 4 none)) B.pre w (List.mem_cons_of_mem _ h)
  have hown : s.vm.findClass RX6 = some m.cls := findClass_of_methodNamed B.named
  have hlocks := B.notSynchronized
  subst hsz
  have hD := hD0.self (sz := s.heap.size)
  generalize hAe : va_A [(a0, .inr (6, [.int 6, .int 5, .ref a1, .int 1])), (a1, .inl (G.2 0, 30, .inl f0))] s.heap.size = A at hD hT ⊢
  have hA : ∀ q : Nat, s.heap.size ≤ q → A q := fun q h => by rw [← hAe]; exact Or.inr h
  have hS : va_S A s.heap s.heap [] := va_S.rf
  have hP : va_P G.1 vwCl [(a0, .inr (6, [.int 6, .int 5, .ref a1, .int 1])), (a1, .inl (G.2 0, 30, .inl f0))] s.heap := hP
  have hl := lv_entry ([.ref a0, .int 0, .int 2, .int n0]) (n := 4) (Nat.le_of_ble_eq_true rfl)
  rw [lg_entry_eq]
  generalize (lg_sl ([.ref a0, .int 0, .int 2, .int n0]) ++ List.replicate (4 - (lg_sl ([.ref a0, .int 0, .int 2, .int n0])).length) Slot.unset).toArray = ls at hl ⊢
  have hl : lv_has ls 4 [(0, .ref a0), (1, .int 0), (2, .int 2), (3, .int n0)] := hl
  refine lv_aload_n hx hb dX6_set_0 rfl (lv_at hl 0 rfl) ?_
  refine lv_iload_n hx hb dX6_set_1 rfl (lv_at hl 1 rfl) ?_
  have hPc := hP.sub (ws' := [(a0, .inr (6, [.int 6, .int 5, .ref a1, .int 1]))]) [0] rfl
  have hDc := hD.sub (ws' := [(a0, .inr (6, [.int 6, .int 5, .ref a1, .int 1]))]) [0] (by decide) rfl
  have hFc := va_free (wc := [(a0, .inr (6, [.int 6, .int 5, .ref a1, .int 1]))]) hD hS hA [0] rfl
  refine va_calli (va_runV (As := [.int 0]) (rest := []) ⟨hx, hb, hml, hown, hts⟩ (kX6_has l G a0 a1 s.heap.size) (cwV 1 hts gV_X6_25 rfl rfl rfl hv_X6_has ⟨Nat.le_of_ble_eq_true rfl, Nat.le_of_ble_eq_true rfl⟩) (g5_preV hPc hK hDc hN hT hS hFc (ci := 6) (q0 := 0) rfl rfl) rfl rfl hl.1 rfl (lv_room (Nat.le_of_ble_eq_true rfl)) dX6_set_2 ⟨Nat.le_of_ble_eq_true rfl, Nat.le_of_ble_eq_true rfl⟩) hS (fun q _ h => hFc q h) hFc (fun r u t H1 locs ht hvm hw hB hz1 hk1 hS => ?_)
  obtain ⟨hP1, hD1⟩ := hB
  rw [ht] at hP1
  obtain ⟨rfl, rfl⟩ := hw
  obtain ⟨hP, hD⟩ := va_join (wr := [(a1, .inl (G.2 0, 30, .inl f0))]) (w1 := [(a0, .inr (6, [.int 6, .int 5, .ref a1, .int 1]))]) hP hD [0] [1] rfl rfl (by decide) (by decide) hk1 hFc hP1 hD1
  generalize H1 = H at hP hS ⊢
  have hP : va_P G.1 vwCl [(a1, .inl (G.2 0, 30, .inl f0)), (a0, .inr (6, [.int 6, .int 5, .ref a1, .int 1]))] H := hP
  have hD : va_D A [(a1, .inl (G.2 0, 30, .inl f0)), (a0, .inr (6, [.int 6, .int 5, .ref a1, .int 1]))] := hD
  refine lv_if_eq (tgt := 34) hx hb dX6_set_5 (by decide) (fun c_1 => ?_) (fun c_1 => ?_)
  ·
    exact absurd c_1 (by decide)
  ·
    refine lv_iload_n hx hb dX6_set_8 rfl (lv_at hl 2 rfl) ?_
    refine lv_if_lt (tgt := 34) hx hb dX6_set_9 (by decide) (fun c_2 => ?_) (fun c_2 => ?_)
    ·
      exact absurd c_2 (by decide)
    ·
      refine lv_iload_n hx hb dX6_set_12 rfl (lv_at hl 2 rfl) ?_
      refine lv_aload_n hx hb dX6_set_13 rfl (lv_at hl 0 rfl) ?_
      refine va_get (D := G.1) (ci := 6) (v := .int 5) (C := RX6) (T := TX6) (N := 4) hx hb hts inG_X6 hown hK hP 1 rfl rfl 1 (by decide) (hts _ fl_X6_18) (fun _ h9 => h9) rfl dX6_set_14 ?_
      refine lv_icmp_ge (tgt := 34) hx hb dX6_set_17 (by decide) (fun c_3 => ?_) (fun c_3 => ?_)
      ·
        exact absurd c_3 (by decide)
      ·
        refine lv_aload_n hx hb dX6_set_20 rfl (lv_at hl 0 rfl) ?_
        refine va_get (D := G.1) (ci := 6) (v := .ref a1) (C := RX6) (T := TX6) (N := 4) hx hb hts inG_X6 hown hK hP 1 rfl rfl 2 (by decide) (hts _ fl_X6_21) (fun _ h9 => h9) rfl dX6_set_21 ?_
        refine lv_iload_n hx hb dX6_set_24 rfl (lv_at hl 1 rfl) ?_
        refine lv_aload_n hx hb dX6_set_25 rfl (lv_at hl 0 rfl) ?_
        refine va_get (D := G.1) (ci := 6) (v := .int 5) (C := RX6) (T := TX6) (N := 4) hx hb hts inG_X6 hown hK hP 1 rfl rfl 1 (by decide) (hts _ fl_X6_18) (fun _ h9 => h9) rfl dX6_set_26 ?_
        refine lv_imul hx hb dX6_set_29 ?_
        refine g5_ti (v := 0) (by decide) ?_
        refine lv_iload_n hx hb dX6_set_30 rfl (lv_at hl 2 rfl) ?_
        refine lv_iadd hx hb dX6_set_31 ?_
        refine g5_ti (v := 2) (by decide) ?_
        refine lv_iload_n hx hb dX6_set_32 rfl (lv_at hl 3 rfl) ?_
        refine va_iast hx hb hK hP hD hS 0 0 rfl rfl (i := 2) (x := n0) (by unfold vp_in; decide) dX6_set_33 (fun H locs hP hD hS => ?_)
        have hP : va_P G.1 vwCl [(a1, .inl (G.2 0, 30, .inl (upd f0 2 n0))), (a0, .inr (6, [.int 6, .int 5, .ref a1, .int 1]))] H := hP
        have hD : va_D A [(a1, .inl (G.2 0, 30, .inl (upd f0 2 n0))), (a0, .inr (6, [.int 6, .int 5, .ref a1, .int 1]))] := hD
        exact W.vret hx hb hr (fun t ht hW => ⟨⟨[(a1, .inl (G.2 0, 30, .inl (upd f0 2 n0))), (a0, .inr (6, [.int 6, .int 5, .ref a1, .int 1]))], rfl, rfl, by rw [ht]; exact hP, hD⟩, hS.F ht⟩) hS.2.2 dX6_set_34
set_option maxHeartbeats 4000000 in
set_option maxRecDepth 100000 in
theorem kX6_set_9 (l : Launch) (G : g5_G) (a0 a1 : Nat) (sz : Nat) (n0 : Int32) (f0 : Nat → Int32) (h_n0 : 0 ≤ n0.toInt ∧ n0.toInt ≤ 10) : Met l yX6_set (wsG yX6_set cX6_set 4 none) ({ frames := 1, cells := 0, slots := 0, locals := 21 }) (va_Pc [.ref a0, .int 0, .int 3, .int n0] (g5_P G [(a0, .inr (6, [.int 6, .int 5, .ref a1, .int 1])), (a1, .inl (G.2 0, 30, .inl f0))] sz)) (va_Qv (fun (u : va_W) => ((u = [(a1, .inl (G.2 0, 30, .inl (upd f0 3 n0))), (a0, .inr (6, [.int 6, .int 5, .ref a1, .int 1]))]))) (g5_B G (va_A [(a0, .inr (6, [.int 6, .int 5, .ref a1, .int 1])), (a1, .inl (G.2 0, 30, .inl f0))] sz)) (va_A [(a0, .inr (6, [.int 6, .int 5, .ref a1, .int 1])), (a1, .inl (G.2 0, 30, .inl f0))] sz)) 0 0 (va_A [(a0, .inr (6, [.int 6, .int 5, .ref a1, .int 1])), (a1, .inl (G.2 0, 30, .inl f0))] sz) := by
  refine Met.ofW (cc := cX6_set) (maxL := 4) (ret := none) (by decide) rfl ?_
  intro p e s m args below meth c s₁ B hml hv
  obtain ⟨rfl, hsz, hP, hK, hD0, hN, hT⟩ := hv
  have hx := B.exec
  have hb := B.bytes
  have hr := B.returns
  have hts : ∀ w ∈ tblG, w.before _ s = true := fun w h => atoms_spec (ws := (wsG yX6_set cX6_set 4 none)) B.pre w (List.mem_cons_of_mem _ h)
  have hown : s.vm.findClass RX6 = some m.cls := findClass_of_methodNamed B.named
  have hlocks := B.notSynchronized
  subst hsz
  have hD := hD0.self (sz := s.heap.size)
  generalize hAe : va_A [(a0, .inr (6, [.int 6, .int 5, .ref a1, .int 1])), (a1, .inl (G.2 0, 30, .inl f0))] s.heap.size = A at hD hT ⊢
  have hA : ∀ q : Nat, s.heap.size ≤ q → A q := fun q h => by rw [← hAe]; exact Or.inr h
  have hS : va_S A s.heap s.heap [] := va_S.rf
  have hP : va_P G.1 vwCl [(a0, .inr (6, [.int 6, .int 5, .ref a1, .int 1])), (a1, .inl (G.2 0, 30, .inl f0))] s.heap := hP
  have hl := lv_entry ([.ref a0, .int 0, .int 3, .int n0]) (n := 4) (Nat.le_of_ble_eq_true rfl)
  rw [lg_entry_eq]
  generalize (lg_sl ([.ref a0, .int 0, .int 3, .int n0]) ++ List.replicate (4 - (lg_sl ([.ref a0, .int 0, .int 3, .int n0])).length) Slot.unset).toArray = ls at hl ⊢
  have hl : lv_has ls 4 [(0, .ref a0), (1, .int 0), (2, .int 3), (3, .int n0)] := hl
  refine lv_aload_n hx hb dX6_set_0 rfl (lv_at hl 0 rfl) ?_
  refine lv_iload_n hx hb dX6_set_1 rfl (lv_at hl 1 rfl) ?_
  have hPc := hP.sub (ws' := [(a0, .inr (6, [.int 6, .int 5, .ref a1, .int 1]))]) [0] rfl
  have hDc := hD.sub (ws' := [(a0, .inr (6, [.int 6, .int 5, .ref a1, .int 1]))]) [0] (by decide) rfl
  have hFc := va_free (wc := [(a0, .inr (6, [.int 6, .int 5, .ref a1, .int 1]))]) hD hS hA [0] rfl
  refine va_calli (va_runV (As := [.int 0]) (rest := []) ⟨hx, hb, hml, hown, hts⟩ (kX6_has l G a0 a1 s.heap.size) (cwV 1 hts gV_X6_25 rfl rfl rfl hv_X6_has ⟨Nat.le_of_ble_eq_true rfl, Nat.le_of_ble_eq_true rfl⟩) (g5_preV hPc hK hDc hN hT hS hFc (ci := 6) (q0 := 0) rfl rfl) rfl rfl hl.1 rfl (lv_room (Nat.le_of_ble_eq_true rfl)) dX6_set_2 ⟨Nat.le_of_ble_eq_true rfl, Nat.le_of_ble_eq_true rfl⟩) hS (fun q _ h => hFc q h) hFc (fun r u t H1 locs ht hvm hw hB hz1 hk1 hS => ?_)
  obtain ⟨hP1, hD1⟩ := hB
  rw [ht] at hP1
  obtain ⟨rfl, rfl⟩ := hw
  obtain ⟨hP, hD⟩ := va_join (wr := [(a1, .inl (G.2 0, 30, .inl f0))]) (w1 := [(a0, .inr (6, [.int 6, .int 5, .ref a1, .int 1]))]) hP hD [0] [1] rfl rfl (by decide) (by decide) hk1 hFc hP1 hD1
  generalize H1 = H at hP hS ⊢
  have hP : va_P G.1 vwCl [(a1, .inl (G.2 0, 30, .inl f0)), (a0, .inr (6, [.int 6, .int 5, .ref a1, .int 1]))] H := hP
  have hD : va_D A [(a1, .inl (G.2 0, 30, .inl f0)), (a0, .inr (6, [.int 6, .int 5, .ref a1, .int 1]))] := hD
  refine lv_if_eq (tgt := 34) hx hb dX6_set_5 (by decide) (fun c_1 => ?_) (fun c_1 => ?_)
  ·
    exact absurd c_1 (by decide)
  ·
    refine lv_iload_n hx hb dX6_set_8 rfl (lv_at hl 2 rfl) ?_
    refine lv_if_lt (tgt := 34) hx hb dX6_set_9 (by decide) (fun c_2 => ?_) (fun c_2 => ?_)
    ·
      exact absurd c_2 (by decide)
    ·
      refine lv_iload_n hx hb dX6_set_12 rfl (lv_at hl 2 rfl) ?_
      refine lv_aload_n hx hb dX6_set_13 rfl (lv_at hl 0 rfl) ?_
      refine va_get (D := G.1) (ci := 6) (v := .int 5) (C := RX6) (T := TX6) (N := 4) hx hb hts inG_X6 hown hK hP 1 rfl rfl 1 (by decide) (hts _ fl_X6_18) (fun _ h9 => h9) rfl dX6_set_14 ?_
      refine lv_icmp_ge (tgt := 34) hx hb dX6_set_17 (by decide) (fun c_3 => ?_) (fun c_3 => ?_)
      ·
        exact absurd c_3 (by decide)
      ·
        refine lv_aload_n hx hb dX6_set_20 rfl (lv_at hl 0 rfl) ?_
        refine va_get (D := G.1) (ci := 6) (v := .ref a1) (C := RX6) (T := TX6) (N := 4) hx hb hts inG_X6 hown hK hP 1 rfl rfl 2 (by decide) (hts _ fl_X6_21) (fun _ h9 => h9) rfl dX6_set_21 ?_
        refine lv_iload_n hx hb dX6_set_24 rfl (lv_at hl 1 rfl) ?_
        refine lv_aload_n hx hb dX6_set_25 rfl (lv_at hl 0 rfl) ?_
        refine va_get (D := G.1) (ci := 6) (v := .int 5) (C := RX6) (T := TX6) (N := 4) hx hb hts inG_X6 hown hK hP 1 rfl rfl 1 (by decide) (hts _ fl_X6_18) (fun _ h9 => h9) rfl dX6_set_26 ?_
        refine lv_imul hx hb dX6_set_29 ?_
        refine g5_ti (v := 0) (by decide) ?_
        refine lv_iload_n hx hb dX6_set_30 rfl (lv_at hl 2 rfl) ?_
        refine lv_iadd hx hb dX6_set_31 ?_
        refine g5_ti (v := 3) (by decide) ?_
        refine lv_iload_n hx hb dX6_set_32 rfl (lv_at hl 3 rfl) ?_
        refine va_iast hx hb hK hP hD hS 0 0 rfl rfl (i := 3) (x := n0) (by unfold vp_in; decide) dX6_set_33 (fun H locs hP hD hS => ?_)
        have hP : va_P G.1 vwCl [(a1, .inl (G.2 0, 30, .inl (upd f0 3 n0))), (a0, .inr (6, [.int 6, .int 5, .ref a1, .int 1]))] H := hP
        have hD : va_D A [(a1, .inl (G.2 0, 30, .inl (upd f0 3 n0))), (a0, .inr (6, [.int 6, .int 5, .ref a1, .int 1]))] := hD
        exact W.vret hx hb hr (fun t ht hW => ⟨⟨[(a1, .inl (G.2 0, 30, .inl (upd f0 3 n0))), (a0, .inr (6, [.int 6, .int 5, .ref a1, .int 1]))], rfl, rfl, by rw [ht]; exact hP, hD⟩, hS.F ht⟩) hS.2.2 dX6_set_34
theorem fl_X11_153 : Cond.fieldLink RX11 153 "LateGlass$House" "glassBoard" "J" ∈ tblG := tg 190 (by decide +kernel) (by decide +kernel)
theorem dX11_glass_0 : decode cX11_glass 0 = .ok (.iload_n 1, 1) := by decide +kernel
theorem dX11_glass_1 : decode cX11_glass 1 = .ok (.invokestatic 97, 3) := by decide +kernel
theorem dX11_glass_4 : decode cX11_glass 4 = .ok (.ifCond .eq 25, 3) := by decide +kernel
theorem dX11_glass_7 : decode cX11_glass 7 = .ok (.iload_n 2, 1) := by decide +kernel
theorem dX11_glass_8 : decode cX11_glass 8 = .ok (.invokestatic 124, 3) := by decide +kernel
theorem dX11_glass_11 : decode cX11_glass 11 = .ok (.ifCond .eq 18, 3) := by decide +kernel
theorem dX11_glass_14 : decode cX11_glass 14 = .ok (.iload_n 3, 1) := by decide +kernel
theorem dX11_glass_15 : decode cX11_glass 15 = .ok (.invokestatic 127, 3) := by decide +kernel
theorem dX11_glass_18 : decode cX11_glass 18 = .ok (.ifCond .eq 11, 3) := by decide +kernel
theorem dX11_glass_21 : decode cX11_glass 21 = .ok (.iload 4, 2) := by decide +kernel
theorem dX11_glass_23 : decode cX11_glass 23 = .ok (.invokestatic 130, 3) := by decide +kernel
theorem dX11_glass_26 : decode cX11_glass 26 = .ok (.ifCond .ne 9, 3) := by decide +kernel
theorem dX11_glass_29 : decode cX11_glass 29 = .ok (.aload_n 0, 1) := by decide +kernel
theorem dX11_glass_30 : decode cX11_glass 30 = .ok (.iconst (-1), 1) := by decide +kernel
theorem dX11_glass_31 : decode cX11_glass 31 = .ok (.invokevirtual 104, 3) := by decide +kernel
theorem dX11_glass_34 : decode cX11_glass 34 = .ok (.ireturn, 1) := by decide +kernel
theorem dX11_glass_35 : decode cX11_glass 35 = .ok (.aload_n 0, 1) := by decide +kernel
theorem dX11_glass_36 : decode cX11_glass 36 = .ok (.getfield 12, 3) := by decide +kernel
theorem dX11_glass_39 : decode cX11_glass 39 = .ok (.iload_n 1, 1) := by decide +kernel
theorem dX11_glass_40 : decode cX11_glass 40 = .ok (.invokevirtual 133, 3) := by decide +kernel
theorem dX11_glass_43 : decode cX11_glass 43 = .ok (.ifCond .ne 10, 3) := by decide +kernel
theorem dX11_glass_46 : decode cX11_glass 46 = .ok (.aload_n 0, 1) := by decide +kernel
theorem dX11_glass_47 : decode cX11_glass 47 = .ok (.bipush (-3), 2) := by decide +kernel
theorem dX11_glass_49 : decode cX11_glass 49 = .ok (.invokevirtual 104, 3) := by decide +kernel
theorem dX11_glass_52 : decode cX11_glass 52 = .ok (.ireturn, 1) := by decide +kernel
theorem dX11_glass_53 : decode cX11_glass 53 = .ok (.aload_n 0, 1) := by decide +kernel
theorem dX11_glass_54 : decode cX11_glass 54 = .ok (.getfield 12, 3) := by decide +kernel
theorem dX11_glass_57 : decode cX11_glass 57 = .ok (.getfield 136, 3) := by decide +kernel
theorem dX11_glass_60 : decode cX11_glass 60 = .ok (.invokevirtual 140, 3) := by decide +kernel
theorem dX11_glass_63 : decode cX11_glass 63 = .ok (.ifCond .eq 10, 3) := by decide +kernel
theorem dX11_glass_66 : decode cX11_glass 66 = .ok (.aload_n 0, 1) := by decide +kernel
theorem dX11_glass_67 : decode cX11_glass 67 = .ok (.bipush (-5), 2) := by decide +kernel
theorem dX11_glass_69 : decode cX11_glass 69 = .ok (.invokevirtual 104, 3) := by decide +kernel
theorem dX11_glass_72 : decode cX11_glass 72 = .ok (.ireturn, 1) := by decide +kernel
theorem dX11_glass_73 : decode cX11_glass 73 = .ok (.aload_n 0, 1) := by decide +kernel
theorem dX11_glass_74 : decode cX11_glass 74 = .ok (.getfield 12, 3) := by decide +kernel
theorem dX11_glass_77 : decode cX11_glass 77 = .ok (.getfield 136, 3) := by decide +kernel
theorem dX11_glass_80 : decode cX11_glass 80 = .ok (.iconst 0, 1) := by decide +kernel
theorem dX11_glass_81 : decode cX11_glass 81 = .ok (.invokevirtual 146, 3) := by decide +kernel
theorem dX11_glass_84 : decode cX11_glass 84 = .ok (.istore 5, 2) := by decide +kernel
theorem dX11_glass_86 : decode cX11_glass 86 = .ok (.aload_n 0, 1) := by decide +kernel
theorem dX11_glass_87 : decode cX11_glass 87 = .ok (.getfield 12, 3) := by decide +kernel
theorem dX11_glass_90 : decode cX11_glass 90 = .ok (.getfield 136, 3) := by decide +kernel
theorem dX11_glass_93 : decode cX11_glass 93 = .ok (.iload 5, 2) := by decide +kernel
theorem dX11_glass_95 : decode cX11_glass 95 = .ok (.iconst 0, 1) := by decide +kernel
theorem dX11_glass_96 : decode cX11_glass 96 = .ok (.iload_n 1, 1) := by decide +kernel
theorem dX11_glass_97 : decode cX11_glass 97 = .ok (.invokevirtual 149, 3) := by decide +kernel
theorem dX11_glass_100 : decode cX11_glass 100 = .ok (.aload_n 0, 1) := by decide +kernel
theorem dX11_glass_101 : decode cX11_glass 101 = .ok (.getfield 12, 3) := by decide +kernel
theorem dX11_glass_104 : decode cX11_glass 104 = .ok (.getfield 136, 3) := by decide +kernel
theorem dX11_glass_107 : decode cX11_glass 107 = .ok (.iload 5, 2) := by decide +kernel
theorem dX11_glass_109 : decode cX11_glass 109 = .ok (.iconst 1, 1) := by decide +kernel
theorem dX11_glass_110 : decode cX11_glass 110 = .ok (.iload_n 2, 1) := by decide +kernel
theorem dX11_glass_111 : decode cX11_glass 111 = .ok (.invokevirtual 149, 3) := by decide +kernel
theorem dX11_glass_114 : decode cX11_glass 114 = .ok (.aload_n 0, 1) := by decide +kernel
theorem dX11_glass_115 : decode cX11_glass 115 = .ok (.getfield 12, 3) := by decide +kernel
theorem dX11_glass_118 : decode cX11_glass 118 = .ok (.getfield 136, 3) := by decide +kernel
theorem dX11_glass_121 : decode cX11_glass 121 = .ok (.iload 5, 2) := by decide +kernel
theorem dX11_glass_123 : decode cX11_glass 123 = .ok (.iconst 2, 1) := by decide +kernel
theorem dX11_glass_124 : decode cX11_glass 124 = .ok (.iload_n 3, 1) := by decide +kernel
theorem dX11_glass_125 : decode cX11_glass 125 = .ok (.invokevirtual 149, 3) := by decide +kernel
theorem dX11_glass_128 : decode cX11_glass 128 = .ok (.aload_n 0, 1) := by decide +kernel
theorem dX11_glass_129 : decode cX11_glass 129 = .ok (.getfield 12, 3) := by decide +kernel
theorem dX11_glass_132 : decode cX11_glass 132 = .ok (.getfield 136, 3) := by decide +kernel
theorem dX11_glass_135 : decode cX11_glass 135 = .ok (.iload 5, 2) := by decide +kernel
theorem dX11_glass_137 : decode cX11_glass 137 = .ok (.iconst 3, 1) := by decide +kernel
theorem dX11_glass_138 : decode cX11_glass 138 = .ok (.iload 4, 2) := by decide +kernel
theorem dX11_glass_140 : decode cX11_glass 140 = .ok (.invokevirtual 149, 3) := by decide +kernel
theorem dX11_glass_143 : decode cX11_glass 143 = .ok (.aload_n 0, 1) := by decide +kernel
theorem dX11_glass_144 : decode cX11_glass 144 = .ok (.getfield 12, 3) := by decide +kernel
theorem dX11_glass_147 : decode cX11_glass 147 = .ok (.dup, 1) := by decide +kernel
theorem dX11_glass_148 : decode cX11_glass 148 = .ok (.getfield 153, 3) := by decide +kernel
theorem dX11_glass_151 : decode cX11_glass 151 = .ok (.lconst 1, 1) := by decide +kernel
theorem dX11_glass_152 : decode cX11_glass 152 = .ok (.iload_n 1, 1) := by decide +kernel
theorem dX11_glass_153 : decode cX11_glass 153 = .ok (.lshl, 1) := by decide +kernel
theorem dX11_glass_154 : decode cX11_glass 154 = .ok (.lor, 1) := by decide +kernel
theorem dX11_glass_155 : decode cX11_glass 155 = .ok (.putfield 153, 3) := by decide +kernel
theorem dX11_glass_158 : decode cX11_glass 158 = .ok (.aload_n 0, 1) := by decide +kernel
theorem dX11_glass_159 : decode cX11_glass 159 = .ok (.iload 5, 2) := by decide +kernel
theorem dX11_glass_161 : decode cX11_glass 161 = .ok (.invokevirtual 121, 3) := by decide +kernel
theorem dX11_glass_164 : decode cX11_glass 164 = .ok (.ireturn, 1) := by decide +kernel
set_option maxHeartbeats 4000000 in
set_option maxRecDepth 100000 in
theorem kX11_glass (l : Launch) (G : g5_G) (a0 a1 a2 a3 a4 a5 a6 a7 a8 a9 a10 a11 a12 a13 a14 a15 a16 a17 a18 a19 a20 a21 : Nat) (sz : Nat) (n0 : Int32) (n1 : Int32) (n2 : Int32) (n3 : Int32) : Met l yX11_glass (wsG yX11_glass cX11_glass 6 (some .int)) ({ frames := 3, cells := 0, slots := 0, locals := 67 }) (va_Pc [.ref a0, .int n0, .int n1, .int n2, .int n3] (g5_P G [(a0, .inr (11, [.ref a1, .ref a2, .ref a3, .ref a4, .ref a5, .ref a6, .ref a7, .ref a8, .ref a9, .ref a10, .int 0, .int 0, .int (-1), .ref a11, .int 0, .ref a12, .int 0])), (a12, .inl (G.2 0, 5, .inl (fun _ => 0))), (a1, .inr (1, [.long 0, .int 1000, .int (-1), .int (-1), .int 0, .ref a13, .ref a14, .ref a15, .ref a16, .ref a17, .ref a18, .long 0, .ref a19])), (a17, .inr (6, [.int 8, .int 5, .ref a20, .int 0])), (a14, .inr (6, [.int 6, .int 5, .ref a21, .int 0])), (a21, .inl (G.2 0, 30, .inl (fun _ => 0)))] sz)) (va_Qi (fun (r : Int32) (u : va_W) => ((n0.toInt < 0) ∧ (r = (-1)) ∧ (u = [])) ∨ ((n0.toInt ≥ 0) ∧ (n0.toInt ≥ 64) ∧ (r = (-1)) ∧ (u = [])) ∨ ((n0.toInt ≥ 0) ∧ (n0.toInt < 64) ∧ (n1.toInt < 0) ∧ (r = (-1)) ∧ (u = [])) ∨ ((n0.toInt ≥ 0) ∧ (n0.toInt < 64) ∧ (n1.toInt ≥ 0) ∧ (n1.toInt ≥ 6) ∧ (r = (-1)) ∧ (u = [])) ∨ ((n0.toInt ≥ 0) ∧ (n0.toInt < 64) ∧ (n1.toInt ≥ 0) ∧ (n1.toInt < 6) ∧ (n2.toInt < 0) ∧ (r = (-1)) ∧ (u = [])) ∨ ((n0.toInt ≥ 0) ∧ (n0.toInt < 64) ∧ (n1.toInt ≥ 0) ∧ (n1.toInt < 6) ∧ (n2.toInt ≥ 0) ∧ (n2.toInt ≥ 24) ∧ (r = (-1)) ∧ (u = [])) ∨ ((n0.toInt ≥ 0) ∧ (n0.toInt < 64) ∧ (n1.toInt ≥ 0) ∧ (n1.toInt < 6) ∧ (n2.toInt ≥ 0) ∧ (n2.toInt < 24) ∧ (n3.toInt < 0) ∧ (r = (-1)) ∧ (u = [])) ∨ ((n0.toInt ≥ 0) ∧ (n0.toInt < 64) ∧ (n1.toInt ≥ 0) ∧ (n1.toInt < 6) ∧ (n2.toInt ≥ 0) ∧ (n2.toInt < 24) ∧ (n3.toInt ≥ 0) ∧ (n3.toInt > 10) ∧ (r = (-1)) ∧ (u = [])) ∨ ((n0.toInt ≥ 0) ∧ (n0.toInt < 64) ∧ (n1.toInt ≥ 0) ∧ (n1.toInt < 6) ∧ (n2.toInt ≥ 0) ∧ (n2.toInt < 24) ∧ (n3.toInt ≥ 0) ∧ (n3.toInt ≤ 10) ∧ (r = 0) ∧ (u = []))) (g5_B G (va_A [(a0, .inr (11, [.ref a1, .ref a2, .ref a3, .ref a4, .ref a5, .ref a6, .ref a7, .ref a8, .ref a9, .ref a10, .int 0, .int 0, .int (-1), .ref a11, .int 0, .ref a12, .int 0])), (a12, .inl (G.2 0, 5, .inl (fun _ => 0))), (a1, .inr (1, [.long 0, .int 1000, .int (-1), .int (-1), .int 0, .ref a13, .ref a14, .ref a15, .ref a16, .ref a17, .ref a18, .long 0, .ref a19])), (a17, .inr (6, [.int 8, .int 5, .ref a20, .int 0])), (a14, .inr (6, [.int 6, .int 5, .ref a21, .int 0])), (a21, .inl (G.2 0, 30, .inl (fun _ => 0)))] sz)) (va_A [(a0, .inr (11, [.ref a1, .ref a2, .ref a3, .ref a4, .ref a5, .ref a6, .ref a7, .ref a8, .ref a9, .ref a10, .int 0, .int 0, .int (-1), .ref a11, .int 0, .ref a12, .int 0])), (a12, .inl (G.2 0, 5, .inl (fun _ => 0))), (a1, .inr (1, [.long 0, .int 1000, .int (-1), .int (-1), .int 0, .ref a13, .ref a14, .ref a15, .ref a16, .ref a17, .ref a18, .long 0, .ref a19])), (a17, .inr (6, [.int 8, .int 5, .ref a20, .int 0])), (a14, .inr (6, [.int 6, .int 5, .ref a21, .int 0])), (a21, .inl (G.2 0, 30, .inl (fun _ => 0)))] sz)) 0 0 (va_A [(a0, .inr (11, [.ref a1, .ref a2, .ref a3, .ref a4, .ref a5, .ref a6, .ref a7, .ref a8, .ref a9, .ref a10, .int 0, .int 0, .int (-1), .ref a11, .int 0, .ref a12, .int 0])), (a12, .inl (G.2 0, 5, .inl (fun _ => 0))), (a1, .inr (1, [.long 0, .int 1000, .int (-1), .int (-1), .int 0, .ref a13, .ref a14, .ref a15, .ref a16, .ref a17, .ref a18, .long 0, .ref a19])), (a17, .inr (6, [.int 8, .int 5, .ref a20, .int 0])), (a14, .inr (6, [.int 6, .int 5, .ref a21, .int 0])), (a21, .inl (G.2 0, 30, .inl (fun _ => 0)))] sz) := by
  refine Met.ofW (cc := cX11_glass) (maxL := 6) (ret := (some .int)) (by decide) rfl ?_
  intro p e s m args below meth c s₁ B hml hv
  obtain ⟨rfl, hsz, hP, hK, hD0, hN, hT⟩ := hv
  have hx := B.exec
  have hb := B.bytes
  have hr := B.returns
  have hts : ∀ w ∈ tblG, w.before _ s = true := fun w h => atoms_spec (ws := (wsG yX11_glass cX11_glass 6 (some .int))) B.pre w (List.mem_cons_of_mem _ h)
  have hown : s.vm.findClass RX11 = some m.cls := findClass_of_methodNamed B.named
  have hlocks := B.notSynchronized
  subst hsz
  have hD := hD0.self (sz := s.heap.size)
  generalize hAe : va_A [(a0, .inr (11, [.ref a1, .ref a2, .ref a3, .ref a4, .ref a5, .ref a6, .ref a7, .ref a8, .ref a9, .ref a10, .int 0, .int 0, .int (-1), .ref a11, .int 0, .ref a12, .int 0])), (a12, .inl (G.2 0, 5, .inl (fun _ => 0))), (a1, .inr (1, [.long 0, .int 1000, .int (-1), .int (-1), .int 0, .ref a13, .ref a14, .ref a15, .ref a16, .ref a17, .ref a18, .long 0, .ref a19])), (a17, .inr (6, [.int 8, .int 5, .ref a20, .int 0])), (a14, .inr (6, [.int 6, .int 5, .ref a21, .int 0])), (a21, .inl (G.2 0, 30, .inl (fun _ => 0)))] s.heap.size = A at hD hT ⊢
  have hA : ∀ q : Nat, s.heap.size ≤ q → A q := fun q h => by rw [← hAe]; exact Or.inr h
  have hS : va_S A s.heap s.heap [] := va_S.rf
  have hP : va_P G.1 vwCl [(a0, .inr (11, [.ref a1, .ref a2, .ref a3, .ref a4, .ref a5, .ref a6, .ref a7, .ref a8, .ref a9, .ref a10, .int 0, .int 0, .int (-1), .ref a11, .int 0, .ref a12, .int 0])), (a12, .inl (G.2 0, 5, .inl (fun _ => 0))), (a1, .inr (1, [.long 0, .int 1000, .int (-1), .int (-1), .int 0, .ref a13, .ref a14, .ref a15, .ref a16, .ref a17, .ref a18, .long 0, .ref a19])), (a17, .inr (6, [.int 8, .int 5, .ref a20, .int 0])), (a14, .inr (6, [.int 6, .int 5, .ref a21, .int 0])), (a21, .inl (G.2 0, 30, .inl (fun _ => 0)))] s.heap := hP
  have hl := lv_entry ([.ref a0, .int n0, .int n1, .int n2, .int n3]) (n := 6) (Nat.le_of_ble_eq_true rfl)
  rw [lg_entry_eq]
  generalize (lg_sl ([.ref a0, .int n0, .int n1, .int n2, .int n3]) ++ List.replicate (6 - (lg_sl ([.ref a0, .int n0, .int n1, .int n2, .int n3])).length) Slot.unset).toArray = ls at hl ⊢
  have hl : lv_has ls 6 [(0, .ref a0), (1, .int n0), (2, .int n1), (3, .int n2), (4, .int n3)] := hl
  refine lv_iload_n hx hb dX11_glass_0 rfl (lv_at hl 1 rfl) ?_
  have hPc := hP.sub (ws' := []) [] rfl
  have hDc := hD.sub (ws' := []) [] (by decide) rfl
  have hFc := va_free (wc := []) hD hS hA [] rfl
  refine va_calli (va_runS (As := [.int n0]) (rest := []) ⟨hx, hb, hml, hown, hts⟩ (kX11_isCell_2 l G s.heap.size n0) (va_cwS 1 hts gS_X11_97 rfl rfl rfl hs_X11_isCell ⟨Nat.le_of_ble_eq_true rfl, Nat.le_of_ble_eq_true rfl⟩) (g5_preS hPc hK hDc hN hT hS hFc) rfl rfl hl.1 rfl (lv_room (Nat.le_of_ble_eq_true rfl)) dX11_glass_1 ⟨Nat.le_of_ble_eq_true rfl, Nat.le_of_ble_eq_true rfl⟩) hS (fun q _ h => hFc q h) hFc (fun r u t H1 locs ht hvm hw hB hz1 hk1 hS => ?_)
  obtain ⟨hP1, hD1⟩ := hB
  rw [ht] at hP1
  rcases hw with ⟨i_1, rfl, rfl⟩ | ⟨i_2, i_3, rfl, rfl⟩ | ⟨i_4, i_5, rfl, rfl⟩
  ·
    have hP := g5_same hP hk1
    generalize H1 = H at hP hS ⊢
    refine lv_if_eq (tgt := 29) hx hb dX11_glass_4 (by decide) (fun c_6 => ?_) (fun c_6 => ?_)
    ·
      refine lv_aload_n hx hb dX11_glass_29 rfl (lv_at hl 0 rfl) ?_
      refine lv_iconst (v := (-1)) hx hb dX11_glass_30 (by decide) ?_
      have hPc := hP.sub (ws' := [(a0, .inr (11, [.ref a1, .ref a2, .ref a3, .ref a4, .ref a5, .ref a6, .ref a7, .ref a8, .ref a9, .ref a10, .int 0, .int 0, .int (-1), .ref a11, .int 0, .ref a12, .int 0])), (a12, .inl (G.2 0, 5, .inl (fun _ => 0)))]) [0, 1] rfl
      have hDc := hD.sub (ws' := [(a0, .inr (11, [.ref a1, .ref a2, .ref a3, .ref a4, .ref a5, .ref a6, .ref a7, .ref a8, .ref a9, .ref a10, .int 0, .int 0, .int (-1), .ref a11, .int 0, .ref a12, .int 0])), (a12, .inl (G.2 0, 5, .inl (fun _ => 0)))]) [0, 1] (by decide) rfl
      have hFc := va_free (wc := [(a0, .inr (11, [.ref a1, .ref a2, .ref a3, .ref a4, .ref a5, .ref a6, .ref a7, .ref a8, .ref a9, .ref a10, .int 0, .int 0, .int (-1), .ref a11, .int 0, .ref a12, .int 0])), (a12, .inl (G.2 0, 5, .inl (fun _ => 0)))]) hD hS hA [0, 1] rfl
      refine va_calli (va_runV (As := [.int (-1)]) (rest := []) ⟨hx, hb, hml, hown, hts⟩ (kX11_refuse l G a0 a1 a2 a3 a4 a5 a6 a7 a8 a9 a10 a11 a12 H.size) (cwV 1 hts gV_X11_104 rfl rfl rfl hv_X11_refuse ⟨Nat.le_of_ble_eq_true rfl, Nat.le_of_ble_eq_true rfl⟩) (g5_preV hPc hK hDc hN hT hS hFc (ci := 11) (q0 := 0) rfl rfl) rfl rfl hl.1 rfl (lv_room (Nat.le_of_ble_eq_true rfl)) dX11_glass_31 ⟨Nat.le_of_ble_eq_true rfl, Nat.le_of_ble_eq_true rfl⟩) hS (fun q _ h => hFc q h) hFc (fun r u t H1 locs ht hvm hw hB hz1 hk1 hS => ?_)
      obtain ⟨hP1, hD1⟩ := hB
      rw [ht] at hP1
      obtain ⟨rfl, rfl⟩ := hw
      obtain ⟨hP, hD⟩ := va_join (wr := [(a1, .inr (1, [.long 0, .int 1000, .int (-1), .int (-1), .int 0, .ref a13, .ref a14, .ref a15, .ref a16, .ref a17, .ref a18, .long 0, .ref a19])), (a17, .inr (6, [.int 8, .int 5, .ref a20, .int 0])), (a14, .inr (6, [.int 6, .int 5, .ref a21, .int 0])), (a21, .inl (G.2 0, 30, .inl (fun _ => 0)))]) (w1 := [(a0, .inr (11, [.ref a1, .ref a2, .ref a3, .ref a4, .ref a5, .ref a6, .ref a7, .ref a8, .ref a9, .ref a10, .int 0, .int 0, .int (-1), .ref a11, .int 0, .ref a12, .int (-1)])), (a12, .inl (G.2 0, 5, .inl (upd (fun _ => 0) 0 1)))]) hP hD [0, 1] [2, 3, 4, 5] rfl rfl (by decide) (by decide) hk1 hFc hP1 hD1
      generalize H1 = H at hP hS ⊢
      have hP : va_P G.1 vwCl [(a1, .inr (1, [.long 0, .int 1000, .int (-1), .int (-1), .int 0, .ref a13, .ref a14, .ref a15, .ref a16, .ref a17, .ref a18, .long 0, .ref a19])), (a17, .inr (6, [.int 8, .int 5, .ref a20, .int 0])), (a14, .inr (6, [.int 6, .int 5, .ref a21, .int 0])), (a21, .inl (G.2 0, 30, .inl (fun _ => 0))), (a0, .inr (11, [.ref a1, .ref a2, .ref a3, .ref a4, .ref a5, .ref a6, .ref a7, .ref a8, .ref a9, .ref a10, .int 0, .int 0, .int (-1), .ref a11, .int 0, .ref a12, .int (-1)])), (a12, .inl (G.2 0, 5, .inl (upd (fun _ => 0) 0 1)))] H := hP
      have hD : va_D A [(a1, .inr (1, [.long 0, .int 1000, .int (-1), .int (-1), .int 0, .ref a13, .ref a14, .ref a15, .ref a16, .ref a17, .ref a18, .long 0, .ref a19])), (a17, .inr (6, [.int 8, .int 5, .ref a20, .int 0])), (a14, .inr (6, [.int 6, .int 5, .ref a21, .int 0])), (a21, .inl (G.2 0, 30, .inl (fun _ => 0))), (a0, .inr (11, [.ref a1, .ref a2, .ref a3, .ref a4, .ref a5, .ref a6, .ref a7, .ref a8, .ref a9, .ref a10, .int 0, .int 0, .int (-1), .ref a11, .int 0, .ref a12, .int (-1)])), (a12, .inl (G.2 0, 5, .inl (upd (fun _ => 0) 0 1)))] := hD
      have hP := hP.sub (ws' := []) [] rfl
      have hD := hD.sub (ws' := []) [] (by decide) rfl
      exact W.iret (v := (-1)) hx hb hr (fun t ht hW => ⟨⟨(-1), [], rfl, Or.inl (⟨i_1, rfl, rfl⟩), by rw [ht]; exact hP, hD⟩, hS.F ht⟩) hS.2.2 dX11_glass_34
    ·
      exact absurd c_6 (by decide)
  ·
    have hP := g5_same hP hk1
    generalize H1 = H at hP hS ⊢
    refine lv_if_eq (tgt := 29) hx hb dX11_glass_4 (by decide) (fun c_7 => ?_) (fun c_7 => ?_)
    ·
      refine lv_aload_n hx hb dX11_glass_29 rfl (lv_at hl 0 rfl) ?_
      refine lv_iconst (v := (-1)) hx hb dX11_glass_30 (by decide) ?_
      have hPc := hP.sub (ws' := [(a0, .inr (11, [.ref a1, .ref a2, .ref a3, .ref a4, .ref a5, .ref a6, .ref a7, .ref a8, .ref a9, .ref a10, .int 0, .int 0, .int (-1), .ref a11, .int 0, .ref a12, .int 0])), (a12, .inl (G.2 0, 5, .inl (fun _ => 0)))]) [0, 1] rfl
      have hDc := hD.sub (ws' := [(a0, .inr (11, [.ref a1, .ref a2, .ref a3, .ref a4, .ref a5, .ref a6, .ref a7, .ref a8, .ref a9, .ref a10, .int 0, .int 0, .int (-1), .ref a11, .int 0, .ref a12, .int 0])), (a12, .inl (G.2 0, 5, .inl (fun _ => 0)))]) [0, 1] (by decide) rfl
      have hFc := va_free (wc := [(a0, .inr (11, [.ref a1, .ref a2, .ref a3, .ref a4, .ref a5, .ref a6, .ref a7, .ref a8, .ref a9, .ref a10, .int 0, .int 0, .int (-1), .ref a11, .int 0, .ref a12, .int 0])), (a12, .inl (G.2 0, 5, .inl (fun _ => 0)))]) hD hS hA [0, 1] rfl
      refine va_calli (va_runV (As := [.int (-1)]) (rest := []) ⟨hx, hb, hml, hown, hts⟩ (kX11_refuse l G a0 a1 a2 a3 a4 a5 a6 a7 a8 a9 a10 a11 a12 H.size) (cwV 1 hts gV_X11_104 rfl rfl rfl hv_X11_refuse ⟨Nat.le_of_ble_eq_true rfl, Nat.le_of_ble_eq_true rfl⟩) (g5_preV hPc hK hDc hN hT hS hFc (ci := 11) (q0 := 0) rfl rfl) rfl rfl hl.1 rfl (lv_room (Nat.le_of_ble_eq_true rfl)) dX11_glass_31 ⟨Nat.le_of_ble_eq_true rfl, Nat.le_of_ble_eq_true rfl⟩) hS (fun q _ h => hFc q h) hFc (fun r u t H1 locs ht hvm hw hB hz1 hk1 hS => ?_)
      obtain ⟨hP1, hD1⟩ := hB
      rw [ht] at hP1
      obtain ⟨rfl, rfl⟩ := hw
      obtain ⟨hP, hD⟩ := va_join (wr := [(a1, .inr (1, [.long 0, .int 1000, .int (-1), .int (-1), .int 0, .ref a13, .ref a14, .ref a15, .ref a16, .ref a17, .ref a18, .long 0, .ref a19])), (a17, .inr (6, [.int 8, .int 5, .ref a20, .int 0])), (a14, .inr (6, [.int 6, .int 5, .ref a21, .int 0])), (a21, .inl (G.2 0, 30, .inl (fun _ => 0)))]) (w1 := [(a0, .inr (11, [.ref a1, .ref a2, .ref a3, .ref a4, .ref a5, .ref a6, .ref a7, .ref a8, .ref a9, .ref a10, .int 0, .int 0, .int (-1), .ref a11, .int 0, .ref a12, .int (-1)])), (a12, .inl (G.2 0, 5, .inl (upd (fun _ => 0) 0 1)))]) hP hD [0, 1] [2, 3, 4, 5] rfl rfl (by decide) (by decide) hk1 hFc hP1 hD1
      generalize H1 = H at hP hS ⊢
      have hP : va_P G.1 vwCl [(a1, .inr (1, [.long 0, .int 1000, .int (-1), .int (-1), .int 0, .ref a13, .ref a14, .ref a15, .ref a16, .ref a17, .ref a18, .long 0, .ref a19])), (a17, .inr (6, [.int 8, .int 5, .ref a20, .int 0])), (a14, .inr (6, [.int 6, .int 5, .ref a21, .int 0])), (a21, .inl (G.2 0, 30, .inl (fun _ => 0))), (a0, .inr (11, [.ref a1, .ref a2, .ref a3, .ref a4, .ref a5, .ref a6, .ref a7, .ref a8, .ref a9, .ref a10, .int 0, .int 0, .int (-1), .ref a11, .int 0, .ref a12, .int (-1)])), (a12, .inl (G.2 0, 5, .inl (upd (fun _ => 0) 0 1)))] H := hP
      have hD : va_D A [(a1, .inr (1, [.long 0, .int 1000, .int (-1), .int (-1), .int 0, .ref a13, .ref a14, .ref a15, .ref a16, .ref a17, .ref a18, .long 0, .ref a19])), (a17, .inr (6, [.int 8, .int 5, .ref a20, .int 0])), (a14, .inr (6, [.int 6, .int 5, .ref a21, .int 0])), (a21, .inl (G.2 0, 30, .inl (fun _ => 0))), (a0, .inr (11, [.ref a1, .ref a2, .ref a3, .ref a4, .ref a5, .ref a6, .ref a7, .ref a8, .ref a9, .ref a10, .int 0, .int 0, .int (-1), .ref a11, .int 0, .ref a12, .int (-1)])), (a12, .inl (G.2 0, 5, .inl (upd (fun _ => 0) 0 1)))] := hD
      have hP := hP.sub (ws' := []) [] rfl
      have hD := hD.sub (ws' := []) [] (by decide) rfl
      exact W.iret (v := (-1)) hx hb hr (fun t ht hW => ⟨⟨(-1), [], rfl, Or.inr (Or.inl (⟨i_2, i_3, rfl, rfl⟩)), by rw [ht]; exact hP, hD⟩, hS.F ht⟩) hS.2.2 dX11_glass_34
    ·
      exact absurd c_7 (by decide)
  ·
    have hP := g5_same hP hk1
    generalize H1 = H at hP hS ⊢
    refine lv_if_eq (tgt := 29) hx hb dX11_glass_4 (by decide) (fun c_8 => ?_) (fun c_8 => ?_)
    ·
      exact absurd c_8 (by decide)
    ·
      refine lv_iload_n hx hb dX11_glass_7 rfl (lv_at hl 2 rfl) ?_
      have hPc := hP.sub (ws' := []) [] rfl
      have hDc := hD.sub (ws' := []) [] (by decide) rfl
      have hFc := va_free (wc := []) hD hS hA [] rfl
      refine va_calli (va_runS (As := [.int n1]) (rest := []) ⟨hx, hb, hml, hown, hts⟩ (kX11_isSort l G H.size n1) (va_cwS 1 hts gS_X11_124 rfl rfl rfl hs_X11_isSort ⟨Nat.le_of_ble_eq_true rfl, Nat.le_of_ble_eq_true rfl⟩) (g5_preS hPc hK hDc hN hT hS hFc) rfl rfl hl.1 rfl (lv_room (Nat.le_of_ble_eq_true rfl)) dX11_glass_8 ⟨Nat.le_of_ble_eq_true rfl, Nat.le_of_ble_eq_true rfl⟩) hS (fun q _ h => hFc q h) hFc (fun r u t H1 locs ht hvm hw hB hz1 hk1 hS => ?_)
      obtain ⟨hP1, hD1⟩ := hB
      rw [ht] at hP1
      rcases hw with ⟨i_9, rfl, rfl⟩ | ⟨i_10, i_11, rfl, rfl⟩ | ⟨i_12, i_13, rfl, rfl⟩
      ·
        have hP := g5_same hP hk1
        generalize H1 = H at hP hS ⊢
        refine lv_if_eq (tgt := 29) hx hb dX11_glass_11 (by decide) (fun c_14 => ?_) (fun c_14 => ?_)
        ·
          refine lv_aload_n hx hb dX11_glass_29 rfl (lv_at hl 0 rfl) ?_
          refine lv_iconst (v := (-1)) hx hb dX11_glass_30 (by decide) ?_
          have hPc := hP.sub (ws' := [(a0, .inr (11, [.ref a1, .ref a2, .ref a3, .ref a4, .ref a5, .ref a6, .ref a7, .ref a8, .ref a9, .ref a10, .int 0, .int 0, .int (-1), .ref a11, .int 0, .ref a12, .int 0])), (a12, .inl (G.2 0, 5, .inl (fun _ => 0)))]) [0, 1] rfl
          have hDc := hD.sub (ws' := [(a0, .inr (11, [.ref a1, .ref a2, .ref a3, .ref a4, .ref a5, .ref a6, .ref a7, .ref a8, .ref a9, .ref a10, .int 0, .int 0, .int (-1), .ref a11, .int 0, .ref a12, .int 0])), (a12, .inl (G.2 0, 5, .inl (fun _ => 0)))]) [0, 1] (by decide) rfl
          have hFc := va_free (wc := [(a0, .inr (11, [.ref a1, .ref a2, .ref a3, .ref a4, .ref a5, .ref a6, .ref a7, .ref a8, .ref a9, .ref a10, .int 0, .int 0, .int (-1), .ref a11, .int 0, .ref a12, .int 0])), (a12, .inl (G.2 0, 5, .inl (fun _ => 0)))]) hD hS hA [0, 1] rfl
          refine va_calli (va_runV (As := [.int (-1)]) (rest := []) ⟨hx, hb, hml, hown, hts⟩ (kX11_refuse l G a0 a1 a2 a3 a4 a5 a6 a7 a8 a9 a10 a11 a12 H.size) (cwV 1 hts gV_X11_104 rfl rfl rfl hv_X11_refuse ⟨Nat.le_of_ble_eq_true rfl, Nat.le_of_ble_eq_true rfl⟩) (g5_preV hPc hK hDc hN hT hS hFc (ci := 11) (q0 := 0) rfl rfl) rfl rfl hl.1 rfl (lv_room (Nat.le_of_ble_eq_true rfl)) dX11_glass_31 ⟨Nat.le_of_ble_eq_true rfl, Nat.le_of_ble_eq_true rfl⟩) hS (fun q _ h => hFc q h) hFc (fun r u t H1 locs ht hvm hw hB hz1 hk1 hS => ?_)
          obtain ⟨hP1, hD1⟩ := hB
          rw [ht] at hP1
          obtain ⟨rfl, rfl⟩ := hw
          obtain ⟨hP, hD⟩ := va_join (wr := [(a1, .inr (1, [.long 0, .int 1000, .int (-1), .int (-1), .int 0, .ref a13, .ref a14, .ref a15, .ref a16, .ref a17, .ref a18, .long 0, .ref a19])), (a17, .inr (6, [.int 8, .int 5, .ref a20, .int 0])), (a14, .inr (6, [.int 6, .int 5, .ref a21, .int 0])), (a21, .inl (G.2 0, 30, .inl (fun _ => 0)))]) (w1 := [(a0, .inr (11, [.ref a1, .ref a2, .ref a3, .ref a4, .ref a5, .ref a6, .ref a7, .ref a8, .ref a9, .ref a10, .int 0, .int 0, .int (-1), .ref a11, .int 0, .ref a12, .int (-1)])), (a12, .inl (G.2 0, 5, .inl (upd (fun _ => 0) 0 1)))]) hP hD [0, 1] [2, 3, 4, 5] rfl rfl (by decide) (by decide) hk1 hFc hP1 hD1
          generalize H1 = H at hP hS ⊢
          have hP : va_P G.1 vwCl [(a1, .inr (1, [.long 0, .int 1000, .int (-1), .int (-1), .int 0, .ref a13, .ref a14, .ref a15, .ref a16, .ref a17, .ref a18, .long 0, .ref a19])), (a17, .inr (6, [.int 8, .int 5, .ref a20, .int 0])), (a14, .inr (6, [.int 6, .int 5, .ref a21, .int 0])), (a21, .inl (G.2 0, 30, .inl (fun _ => 0))), (a0, .inr (11, [.ref a1, .ref a2, .ref a3, .ref a4, .ref a5, .ref a6, .ref a7, .ref a8, .ref a9, .ref a10, .int 0, .int 0, .int (-1), .ref a11, .int 0, .ref a12, .int (-1)])), (a12, .inl (G.2 0, 5, .inl (upd (fun _ => 0) 0 1)))] H := hP
          have hD : va_D A [(a1, .inr (1, [.long 0, .int 1000, .int (-1), .int (-1), .int 0, .ref a13, .ref a14, .ref a15, .ref a16, .ref a17, .ref a18, .long 0, .ref a19])), (a17, .inr (6, [.int 8, .int 5, .ref a20, .int 0])), (a14, .inr (6, [.int 6, .int 5, .ref a21, .int 0])), (a21, .inl (G.2 0, 30, .inl (fun _ => 0))), (a0, .inr (11, [.ref a1, .ref a2, .ref a3, .ref a4, .ref a5, .ref a6, .ref a7, .ref a8, .ref a9, .ref a10, .int 0, .int 0, .int (-1), .ref a11, .int 0, .ref a12, .int (-1)])), (a12, .inl (G.2 0, 5, .inl (upd (fun _ => 0) 0 1)))] := hD
          have hP := hP.sub (ws' := []) [] rfl
          have hD := hD.sub (ws' := []) [] (by decide) rfl
          exact W.iret (v := (-1)) hx hb hr (fun t ht hW => ⟨⟨(-1), [], rfl, Or.inr (Or.inr (Or.inl (⟨i_4, i_5, i_9, rfl, rfl⟩))), by rw [ht]; exact hP, hD⟩, hS.F ht⟩) hS.2.2 dX11_glass_34
        ·
          exact absurd c_14 (by decide)
      ·
        have hP := g5_same hP hk1
        generalize H1 = H at hP hS ⊢
        refine lv_if_eq (tgt := 29) hx hb dX11_glass_11 (by decide) (fun c_15 => ?_) (fun c_15 => ?_)
        ·
          refine lv_aload_n hx hb dX11_glass_29 rfl (lv_at hl 0 rfl) ?_
          refine lv_iconst (v := (-1)) hx hb dX11_glass_30 (by decide) ?_
          have hPc := hP.sub (ws' := [(a0, .inr (11, [.ref a1, .ref a2, .ref a3, .ref a4, .ref a5, .ref a6, .ref a7, .ref a8, .ref a9, .ref a10, .int 0, .int 0, .int (-1), .ref a11, .int 0, .ref a12, .int 0])), (a12, .inl (G.2 0, 5, .inl (fun _ => 0)))]) [0, 1] rfl
          have hDc := hD.sub (ws' := [(a0, .inr (11, [.ref a1, .ref a2, .ref a3, .ref a4, .ref a5, .ref a6, .ref a7, .ref a8, .ref a9, .ref a10, .int 0, .int 0, .int (-1), .ref a11, .int 0, .ref a12, .int 0])), (a12, .inl (G.2 0, 5, .inl (fun _ => 0)))]) [0, 1] (by decide) rfl
          have hFc := va_free (wc := [(a0, .inr (11, [.ref a1, .ref a2, .ref a3, .ref a4, .ref a5, .ref a6, .ref a7, .ref a8, .ref a9, .ref a10, .int 0, .int 0, .int (-1), .ref a11, .int 0, .ref a12, .int 0])), (a12, .inl (G.2 0, 5, .inl (fun _ => 0)))]) hD hS hA [0, 1] rfl
          refine va_calli (va_runV (As := [.int (-1)]) (rest := []) ⟨hx, hb, hml, hown, hts⟩ (kX11_refuse l G a0 a1 a2 a3 a4 a5 a6 a7 a8 a9 a10 a11 a12 H.size) (cwV 1 hts gV_X11_104 rfl rfl rfl hv_X11_refuse ⟨Nat.le_of_ble_eq_true rfl, Nat.le_of_ble_eq_true rfl⟩) (g5_preV hPc hK hDc hN hT hS hFc (ci := 11) (q0 := 0) rfl rfl) rfl rfl hl.1 rfl (lv_room (Nat.le_of_ble_eq_true rfl)) dX11_glass_31 ⟨Nat.le_of_ble_eq_true rfl, Nat.le_of_ble_eq_true rfl⟩) hS (fun q _ h => hFc q h) hFc (fun r u t H1 locs ht hvm hw hB hz1 hk1 hS => ?_)
          obtain ⟨hP1, hD1⟩ := hB
          rw [ht] at hP1
          obtain ⟨rfl, rfl⟩ := hw
          obtain ⟨hP, hD⟩ := va_join (wr := [(a1, .inr (1, [.long 0, .int 1000, .int (-1), .int (-1), .int 0, .ref a13, .ref a14, .ref a15, .ref a16, .ref a17, .ref a18, .long 0, .ref a19])), (a17, .inr (6, [.int 8, .int 5, .ref a20, .int 0])), (a14, .inr (6, [.int 6, .int 5, .ref a21, .int 0])), (a21, .inl (G.2 0, 30, .inl (fun _ => 0)))]) (w1 := [(a0, .inr (11, [.ref a1, .ref a2, .ref a3, .ref a4, .ref a5, .ref a6, .ref a7, .ref a8, .ref a9, .ref a10, .int 0, .int 0, .int (-1), .ref a11, .int 0, .ref a12, .int (-1)])), (a12, .inl (G.2 0, 5, .inl (upd (fun _ => 0) 0 1)))]) hP hD [0, 1] [2, 3, 4, 5] rfl rfl (by decide) (by decide) hk1 hFc hP1 hD1
          generalize H1 = H at hP hS ⊢
          have hP : va_P G.1 vwCl [(a1, .inr (1, [.long 0, .int 1000, .int (-1), .int (-1), .int 0, .ref a13, .ref a14, .ref a15, .ref a16, .ref a17, .ref a18, .long 0, .ref a19])), (a17, .inr (6, [.int 8, .int 5, .ref a20, .int 0])), (a14, .inr (6, [.int 6, .int 5, .ref a21, .int 0])), (a21, .inl (G.2 0, 30, .inl (fun _ => 0))), (a0, .inr (11, [.ref a1, .ref a2, .ref a3, .ref a4, .ref a5, .ref a6, .ref a7, .ref a8, .ref a9, .ref a10, .int 0, .int 0, .int (-1), .ref a11, .int 0, .ref a12, .int (-1)])), (a12, .inl (G.2 0, 5, .inl (upd (fun _ => 0) 0 1)))] H := hP
          have hD : va_D A [(a1, .inr (1, [.long 0, .int 1000, .int (-1), .int (-1), .int 0, .ref a13, .ref a14, .ref a15, .ref a16, .ref a17, .ref a18, .long 0, .ref a19])), (a17, .inr (6, [.int 8, .int 5, .ref a20, .int 0])), (a14, .inr (6, [.int 6, .int 5, .ref a21, .int 0])), (a21, .inl (G.2 0, 30, .inl (fun _ => 0))), (a0, .inr (11, [.ref a1, .ref a2, .ref a3, .ref a4, .ref a5, .ref a6, .ref a7, .ref a8, .ref a9, .ref a10, .int 0, .int 0, .int (-1), .ref a11, .int 0, .ref a12, .int (-1)])), (a12, .inl (G.2 0, 5, .inl (upd (fun _ => 0) 0 1)))] := hD
          have hP := hP.sub (ws' := []) [] rfl
          have hD := hD.sub (ws' := []) [] (by decide) rfl
          exact W.iret (v := (-1)) hx hb hr (fun t ht hW => ⟨⟨(-1), [], rfl, Or.inr (Or.inr (Or.inr (Or.inl (⟨i_4, i_5, i_10, i_11, rfl, rfl⟩)))), by rw [ht]; exact hP, hD⟩, hS.F ht⟩) hS.2.2 dX11_glass_34
        ·
          exact absurd c_15 (by decide)
      ·
        have hP := g5_same hP hk1
        generalize H1 = H at hP hS ⊢
        refine lv_if_eq (tgt := 29) hx hb dX11_glass_11 (by decide) (fun c_16 => ?_) (fun c_16 => ?_)
        ·
          exact absurd c_16 (by decide)
        ·
          refine lv_iload_n hx hb dX11_glass_14 rfl (lv_at hl 3 rfl) ?_
          have hPc := hP.sub (ws' := []) [] rfl
          have hDc := hD.sub (ws' := []) [] (by decide) rfl
          have hFc := va_free (wc := []) hD hS hA [] rfl
          refine va_calli (va_runS (As := [.int n2]) (rest := []) ⟨hx, hb, hml, hown, hts⟩ (kX11_isHour_2 l G H.size n2) (va_cwS 1 hts gS_X11_127 rfl rfl rfl hs_X11_isHour ⟨Nat.le_of_ble_eq_true rfl, Nat.le_of_ble_eq_true rfl⟩) (g5_preS hPc hK hDc hN hT hS hFc) rfl rfl hl.1 rfl (lv_room (Nat.le_of_ble_eq_true rfl)) dX11_glass_15 ⟨Nat.le_of_ble_eq_true rfl, Nat.le_of_ble_eq_true rfl⟩) hS (fun q _ h => hFc q h) hFc (fun r u t H1 locs ht hvm hw hB hz1 hk1 hS => ?_)
          obtain ⟨hP1, hD1⟩ := hB
          rw [ht] at hP1
          rcases hw with ⟨i_17, rfl, rfl⟩ | ⟨i_18, i_19, rfl, rfl⟩ | ⟨i_20, i_21, rfl, rfl⟩
          ·
            have hP := g5_same hP hk1
            generalize H1 = H at hP hS ⊢
            refine lv_if_eq (tgt := 29) hx hb dX11_glass_18 (by decide) (fun c_22 => ?_) (fun c_22 => ?_)
            ·
              refine lv_aload_n hx hb dX11_glass_29 rfl (lv_at hl 0 rfl) ?_
              refine lv_iconst (v := (-1)) hx hb dX11_glass_30 (by decide) ?_
              have hPc := hP.sub (ws' := [(a0, .inr (11, [.ref a1, .ref a2, .ref a3, .ref a4, .ref a5, .ref a6, .ref a7, .ref a8, .ref a9, .ref a10, .int 0, .int 0, .int (-1), .ref a11, .int 0, .ref a12, .int 0])), (a12, .inl (G.2 0, 5, .inl (fun _ => 0)))]) [0, 1] rfl
              have hDc := hD.sub (ws' := [(a0, .inr (11, [.ref a1, .ref a2, .ref a3, .ref a4, .ref a5, .ref a6, .ref a7, .ref a8, .ref a9, .ref a10, .int 0, .int 0, .int (-1), .ref a11, .int 0, .ref a12, .int 0])), (a12, .inl (G.2 0, 5, .inl (fun _ => 0)))]) [0, 1] (by decide) rfl
              have hFc := va_free (wc := [(a0, .inr (11, [.ref a1, .ref a2, .ref a3, .ref a4, .ref a5, .ref a6, .ref a7, .ref a8, .ref a9, .ref a10, .int 0, .int 0, .int (-1), .ref a11, .int 0, .ref a12, .int 0])), (a12, .inl (G.2 0, 5, .inl (fun _ => 0)))]) hD hS hA [0, 1] rfl
              refine va_calli (va_runV (As := [.int (-1)]) (rest := []) ⟨hx, hb, hml, hown, hts⟩ (kX11_refuse l G a0 a1 a2 a3 a4 a5 a6 a7 a8 a9 a10 a11 a12 H.size) (cwV 1 hts gV_X11_104 rfl rfl rfl hv_X11_refuse ⟨Nat.le_of_ble_eq_true rfl, Nat.le_of_ble_eq_true rfl⟩) (g5_preV hPc hK hDc hN hT hS hFc (ci := 11) (q0 := 0) rfl rfl) rfl rfl hl.1 rfl (lv_room (Nat.le_of_ble_eq_true rfl)) dX11_glass_31 ⟨Nat.le_of_ble_eq_true rfl, Nat.le_of_ble_eq_true rfl⟩) hS (fun q _ h => hFc q h) hFc (fun r u t H1 locs ht hvm hw hB hz1 hk1 hS => ?_)
              obtain ⟨hP1, hD1⟩ := hB
              rw [ht] at hP1
              obtain ⟨rfl, rfl⟩ := hw
              obtain ⟨hP, hD⟩ := va_join (wr := [(a1, .inr (1, [.long 0, .int 1000, .int (-1), .int (-1), .int 0, .ref a13, .ref a14, .ref a15, .ref a16, .ref a17, .ref a18, .long 0, .ref a19])), (a17, .inr (6, [.int 8, .int 5, .ref a20, .int 0])), (a14, .inr (6, [.int 6, .int 5, .ref a21, .int 0])), (a21, .inl (G.2 0, 30, .inl (fun _ => 0)))]) (w1 := [(a0, .inr (11, [.ref a1, .ref a2, .ref a3, .ref a4, .ref a5, .ref a6, .ref a7, .ref a8, .ref a9, .ref a10, .int 0, .int 0, .int (-1), .ref a11, .int 0, .ref a12, .int (-1)])), (a12, .inl (G.2 0, 5, .inl (upd (fun _ => 0) 0 1)))]) hP hD [0, 1] [2, 3, 4, 5] rfl rfl (by decide) (by decide) hk1 hFc hP1 hD1
              generalize H1 = H at hP hS ⊢
              have hP : va_P G.1 vwCl [(a1, .inr (1, [.long 0, .int 1000, .int (-1), .int (-1), .int 0, .ref a13, .ref a14, .ref a15, .ref a16, .ref a17, .ref a18, .long 0, .ref a19])), (a17, .inr (6, [.int 8, .int 5, .ref a20, .int 0])), (a14, .inr (6, [.int 6, .int 5, .ref a21, .int 0])), (a21, .inl (G.2 0, 30, .inl (fun _ => 0))), (a0, .inr (11, [.ref a1, .ref a2, .ref a3, .ref a4, .ref a5, .ref a6, .ref a7, .ref a8, .ref a9, .ref a10, .int 0, .int 0, .int (-1), .ref a11, .int 0, .ref a12, .int (-1)])), (a12, .inl (G.2 0, 5, .inl (upd (fun _ => 0) 0 1)))] H := hP
              have hD : va_D A [(a1, .inr (1, [.long 0, .int 1000, .int (-1), .int (-1), .int 0, .ref a13, .ref a14, .ref a15, .ref a16, .ref a17, .ref a18, .long 0, .ref a19])), (a17, .inr (6, [.int 8, .int 5, .ref a20, .int 0])), (a14, .inr (6, [.int 6, .int 5, .ref a21, .int 0])), (a21, .inl (G.2 0, 30, .inl (fun _ => 0))), (a0, .inr (11, [.ref a1, .ref a2, .ref a3, .ref a4, .ref a5, .ref a6, .ref a7, .ref a8, .ref a9, .ref a10, .int 0, .int 0, .int (-1), .ref a11, .int 0, .ref a12, .int (-1)])), (a12, .inl (G.2 0, 5, .inl (upd (fun _ => 0) 0 1)))] := hD
              have hP := hP.sub (ws' := []) [] rfl
              have hD := hD.sub (ws' := []) [] (by decide) rfl
              exact W.iret (v := (-1)) hx hb hr (fun t ht hW => ⟨⟨(-1), [], rfl, Or.inr (Or.inr (Or.inr (Or.inr (Or.inl (⟨i_4, i_5, i_12, i_13, i_17, rfl, rfl⟩))))), by rw [ht]; exact hP, hD⟩, hS.F ht⟩) hS.2.2 dX11_glass_34
            ·
              exact absurd c_22 (by decide)
          ·
            have hP := g5_same hP hk1
            generalize H1 = H at hP hS ⊢
            refine lv_if_eq (tgt := 29) hx hb dX11_glass_18 (by decide) (fun c_23 => ?_) (fun c_23 => ?_)
            ·
              refine lv_aload_n hx hb dX11_glass_29 rfl (lv_at hl 0 rfl) ?_
              refine lv_iconst (v := (-1)) hx hb dX11_glass_30 (by decide) ?_
              have hPc := hP.sub (ws' := [(a0, .inr (11, [.ref a1, .ref a2, .ref a3, .ref a4, .ref a5, .ref a6, .ref a7, .ref a8, .ref a9, .ref a10, .int 0, .int 0, .int (-1), .ref a11, .int 0, .ref a12, .int 0])), (a12, .inl (G.2 0, 5, .inl (fun _ => 0)))]) [0, 1] rfl
              have hDc := hD.sub (ws' := [(a0, .inr (11, [.ref a1, .ref a2, .ref a3, .ref a4, .ref a5, .ref a6, .ref a7, .ref a8, .ref a9, .ref a10, .int 0, .int 0, .int (-1), .ref a11, .int 0, .ref a12, .int 0])), (a12, .inl (G.2 0, 5, .inl (fun _ => 0)))]) [0, 1] (by decide) rfl
              have hFc := va_free (wc := [(a0, .inr (11, [.ref a1, .ref a2, .ref a3, .ref a4, .ref a5, .ref a6, .ref a7, .ref a8, .ref a9, .ref a10, .int 0, .int 0, .int (-1), .ref a11, .int 0, .ref a12, .int 0])), (a12, .inl (G.2 0, 5, .inl (fun _ => 0)))]) hD hS hA [0, 1] rfl
              refine va_calli (va_runV (As := [.int (-1)]) (rest := []) ⟨hx, hb, hml, hown, hts⟩ (kX11_refuse l G a0 a1 a2 a3 a4 a5 a6 a7 a8 a9 a10 a11 a12 H.size) (cwV 1 hts gV_X11_104 rfl rfl rfl hv_X11_refuse ⟨Nat.le_of_ble_eq_true rfl, Nat.le_of_ble_eq_true rfl⟩) (g5_preV hPc hK hDc hN hT hS hFc (ci := 11) (q0 := 0) rfl rfl) rfl rfl hl.1 rfl (lv_room (Nat.le_of_ble_eq_true rfl)) dX11_glass_31 ⟨Nat.le_of_ble_eq_true rfl, Nat.le_of_ble_eq_true rfl⟩) hS (fun q _ h => hFc q h) hFc (fun r u t H1 locs ht hvm hw hB hz1 hk1 hS => ?_)
              obtain ⟨hP1, hD1⟩ := hB
              rw [ht] at hP1
              obtain ⟨rfl, rfl⟩ := hw
              obtain ⟨hP, hD⟩ := va_join (wr := [(a1, .inr (1, [.long 0, .int 1000, .int (-1), .int (-1), .int 0, .ref a13, .ref a14, .ref a15, .ref a16, .ref a17, .ref a18, .long 0, .ref a19])), (a17, .inr (6, [.int 8, .int 5, .ref a20, .int 0])), (a14, .inr (6, [.int 6, .int 5, .ref a21, .int 0])), (a21, .inl (G.2 0, 30, .inl (fun _ => 0)))]) (w1 := [(a0, .inr (11, [.ref a1, .ref a2, .ref a3, .ref a4, .ref a5, .ref a6, .ref a7, .ref a8, .ref a9, .ref a10, .int 0, .int 0, .int (-1), .ref a11, .int 0, .ref a12, .int (-1)])), (a12, .inl (G.2 0, 5, .inl (upd (fun _ => 0) 0 1)))]) hP hD [0, 1] [2, 3, 4, 5] rfl rfl (by decide) (by decide) hk1 hFc hP1 hD1
              generalize H1 = H at hP hS ⊢
              have hP : va_P G.1 vwCl [(a1, .inr (1, [.long 0, .int 1000, .int (-1), .int (-1), .int 0, .ref a13, .ref a14, .ref a15, .ref a16, .ref a17, .ref a18, .long 0, .ref a19])), (a17, .inr (6, [.int 8, .int 5, .ref a20, .int 0])), (a14, .inr (6, [.int 6, .int 5, .ref a21, .int 0])), (a21, .inl (G.2 0, 30, .inl (fun _ => 0))), (a0, .inr (11, [.ref a1, .ref a2, .ref a3, .ref a4, .ref a5, .ref a6, .ref a7, .ref a8, .ref a9, .ref a10, .int 0, .int 0, .int (-1), .ref a11, .int 0, .ref a12, .int (-1)])), (a12, .inl (G.2 0, 5, .inl (upd (fun _ => 0) 0 1)))] H := hP
              have hD : va_D A [(a1, .inr (1, [.long 0, .int 1000, .int (-1), .int (-1), .int 0, .ref a13, .ref a14, .ref a15, .ref a16, .ref a17, .ref a18, .long 0, .ref a19])), (a17, .inr (6, [.int 8, .int 5, .ref a20, .int 0])), (a14, .inr (6, [.int 6, .int 5, .ref a21, .int 0])), (a21, .inl (G.2 0, 30, .inl (fun _ => 0))), (a0, .inr (11, [.ref a1, .ref a2, .ref a3, .ref a4, .ref a5, .ref a6, .ref a7, .ref a8, .ref a9, .ref a10, .int 0, .int 0, .int (-1), .ref a11, .int 0, .ref a12, .int (-1)])), (a12, .inl (G.2 0, 5, .inl (upd (fun _ => 0) 0 1)))] := hD
              have hP := hP.sub (ws' := []) [] rfl
              have hD := hD.sub (ws' := []) [] (by decide) rfl
              exact W.iret (v := (-1)) hx hb hr (fun t ht hW => ⟨⟨(-1), [], rfl, Or.inr (Or.inr (Or.inr (Or.inr (Or.inr (Or.inl (⟨i_4, i_5, i_12, i_13, i_18, i_19, rfl, rfl⟩)))))), by rw [ht]; exact hP, hD⟩, hS.F ht⟩) hS.2.2 dX11_glass_34
            ·
              exact absurd c_23 (by decide)
          ·
            have hP := g5_same hP hk1
            generalize H1 = H at hP hS ⊢
            refine lv_if_eq (tgt := 29) hx hb dX11_glass_18 (by decide) (fun c_24 => ?_) (fun c_24 => ?_)
            ·
              exact absurd c_24 (by decide)
            ·
              refine lv_iload hx hb dX11_glass_21 (lv_at hl 4 rfl) ?_
              have hPc := hP.sub (ws' := []) [] rfl
              have hDc := hD.sub (ws' := []) [] (by decide) rfl
              have hFc := va_free (wc := []) hD hS hA [] rfl
              refine va_calli (va_runS (As := [.int n3]) (rest := []) ⟨hx, hb, hml, hown, hts⟩ (kX11_isDust l G H.size n3) (va_cwS 1 hts gS_X11_130 rfl rfl rfl hs_X11_isDust ⟨Nat.le_of_ble_eq_true rfl, Nat.le_of_ble_eq_true rfl⟩) (g5_preS hPc hK hDc hN hT hS hFc) rfl rfl hl.1 rfl (lv_room (Nat.le_of_ble_eq_true rfl)) dX11_glass_23 ⟨Nat.le_of_ble_eq_true rfl, Nat.le_of_ble_eq_true rfl⟩) hS (fun q _ h => hFc q h) hFc (fun r u t H1 locs ht hvm hw hB hz1 hk1 hS => ?_)
              obtain ⟨hP1, hD1⟩ := hB
              rw [ht] at hP1
              rcases hw with ⟨i_25, rfl, rfl⟩ | ⟨i_26, i_27, rfl, rfl⟩ | ⟨i_28, i_29, rfl, rfl⟩
              ·
                have hP := g5_same hP hk1
                generalize H1 = H at hP hS ⊢
                refine lv_if_ne (tgt := 35) hx hb dX11_glass_26 (by decide) (fun c_30 => ?_) (fun c_30 => ?_)
                ·
                  exact absurd c_30 (by decide)
                ·
                  refine lv_aload_n hx hb dX11_glass_29 rfl (lv_at hl 0 rfl) ?_
                  refine lv_iconst (v := (-1)) hx hb dX11_glass_30 (by decide) ?_
                  have hPc := hP.sub (ws' := [(a0, .inr (11, [.ref a1, .ref a2, .ref a3, .ref a4, .ref a5, .ref a6, .ref a7, .ref a8, .ref a9, .ref a10, .int 0, .int 0, .int (-1), .ref a11, .int 0, .ref a12, .int 0])), (a12, .inl (G.2 0, 5, .inl (fun _ => 0)))]) [0, 1] rfl
                  have hDc := hD.sub (ws' := [(a0, .inr (11, [.ref a1, .ref a2, .ref a3, .ref a4, .ref a5, .ref a6, .ref a7, .ref a8, .ref a9, .ref a10, .int 0, .int 0, .int (-1), .ref a11, .int 0, .ref a12, .int 0])), (a12, .inl (G.2 0, 5, .inl (fun _ => 0)))]) [0, 1] (by decide) rfl
                  have hFc := va_free (wc := [(a0, .inr (11, [.ref a1, .ref a2, .ref a3, .ref a4, .ref a5, .ref a6, .ref a7, .ref a8, .ref a9, .ref a10, .int 0, .int 0, .int (-1), .ref a11, .int 0, .ref a12, .int 0])), (a12, .inl (G.2 0, 5, .inl (fun _ => 0)))]) hD hS hA [0, 1] rfl
                  refine va_calli (va_runV (As := [.int (-1)]) (rest := []) ⟨hx, hb, hml, hown, hts⟩ (kX11_refuse l G a0 a1 a2 a3 a4 a5 a6 a7 a8 a9 a10 a11 a12 H.size) (cwV 1 hts gV_X11_104 rfl rfl rfl hv_X11_refuse ⟨Nat.le_of_ble_eq_true rfl, Nat.le_of_ble_eq_true rfl⟩) (g5_preV hPc hK hDc hN hT hS hFc (ci := 11) (q0 := 0) rfl rfl) rfl rfl hl.1 rfl (lv_room (Nat.le_of_ble_eq_true rfl)) dX11_glass_31 ⟨Nat.le_of_ble_eq_true rfl, Nat.le_of_ble_eq_true rfl⟩) hS (fun q _ h => hFc q h) hFc (fun r u t H1 locs ht hvm hw hB hz1 hk1 hS => ?_)
                  obtain ⟨hP1, hD1⟩ := hB
                  rw [ht] at hP1
                  obtain ⟨rfl, rfl⟩ := hw
                  obtain ⟨hP, hD⟩ := va_join (wr := [(a1, .inr (1, [.long 0, .int 1000, .int (-1), .int (-1), .int 0, .ref a13, .ref a14, .ref a15, .ref a16, .ref a17, .ref a18, .long 0, .ref a19])), (a17, .inr (6, [.int 8, .int 5, .ref a20, .int 0])), (a14, .inr (6, [.int 6, .int 5, .ref a21, .int 0])), (a21, .inl (G.2 0, 30, .inl (fun _ => 0)))]) (w1 := [(a0, .inr (11, [.ref a1, .ref a2, .ref a3, .ref a4, .ref a5, .ref a6, .ref a7, .ref a8, .ref a9, .ref a10, .int 0, .int 0, .int (-1), .ref a11, .int 0, .ref a12, .int (-1)])), (a12, .inl (G.2 0, 5, .inl (upd (fun _ => 0) 0 1)))]) hP hD [0, 1] [2, 3, 4, 5] rfl rfl (by decide) (by decide) hk1 hFc hP1 hD1
                  generalize H1 = H at hP hS ⊢
                  have hP : va_P G.1 vwCl [(a1, .inr (1, [.long 0, .int 1000, .int (-1), .int (-1), .int 0, .ref a13, .ref a14, .ref a15, .ref a16, .ref a17, .ref a18, .long 0, .ref a19])), (a17, .inr (6, [.int 8, .int 5, .ref a20, .int 0])), (a14, .inr (6, [.int 6, .int 5, .ref a21, .int 0])), (a21, .inl (G.2 0, 30, .inl (fun _ => 0))), (a0, .inr (11, [.ref a1, .ref a2, .ref a3, .ref a4, .ref a5, .ref a6, .ref a7, .ref a8, .ref a9, .ref a10, .int 0, .int 0, .int (-1), .ref a11, .int 0, .ref a12, .int (-1)])), (a12, .inl (G.2 0, 5, .inl (upd (fun _ => 0) 0 1)))] H := hP
                  have hD : va_D A [(a1, .inr (1, [.long 0, .int 1000, .int (-1), .int (-1), .int 0, .ref a13, .ref a14, .ref a15, .ref a16, .ref a17, .ref a18, .long 0, .ref a19])), (a17, .inr (6, [.int 8, .int 5, .ref a20, .int 0])), (a14, .inr (6, [.int 6, .int 5, .ref a21, .int 0])), (a21, .inl (G.2 0, 30, .inl (fun _ => 0))), (a0, .inr (11, [.ref a1, .ref a2, .ref a3, .ref a4, .ref a5, .ref a6, .ref a7, .ref a8, .ref a9, .ref a10, .int 0, .int 0, .int (-1), .ref a11, .int 0, .ref a12, .int (-1)])), (a12, .inl (G.2 0, 5, .inl (upd (fun _ => 0) 0 1)))] := hD
                  have hP := hP.sub (ws' := []) [] rfl
                  have hD := hD.sub (ws' := []) [] (by decide) rfl
                  exact W.iret (v := (-1)) hx hb hr (fun t ht hW => ⟨⟨(-1), [], rfl, Or.inr (Or.inr (Or.inr (Or.inr (Or.inr (Or.inr (Or.inl (⟨i_4, i_5, i_12, i_13, i_20, i_21, i_25, rfl, rfl⟩))))))), by rw [ht]; exact hP, hD⟩, hS.F ht⟩) hS.2.2 dX11_glass_34
              ·
                have hP := g5_same hP hk1
                generalize H1 = H at hP hS ⊢
                refine lv_if_ne (tgt := 35) hx hb dX11_glass_26 (by decide) (fun c_31 => ?_) (fun c_31 => ?_)
                ·
                  exact absurd c_31 (by decide)
                ·
                  refine lv_aload_n hx hb dX11_glass_29 rfl (lv_at hl 0 rfl) ?_
                  refine lv_iconst (v := (-1)) hx hb dX11_glass_30 (by decide) ?_
                  have hPc := hP.sub (ws' := [(a0, .inr (11, [.ref a1, .ref a2, .ref a3, .ref a4, .ref a5, .ref a6, .ref a7, .ref a8, .ref a9, .ref a10, .int 0, .int 0, .int (-1), .ref a11, .int 0, .ref a12, .int 0])), (a12, .inl (G.2 0, 5, .inl (fun _ => 0)))]) [0, 1] rfl
                  have hDc := hD.sub (ws' := [(a0, .inr (11, [.ref a1, .ref a2, .ref a3, .ref a4, .ref a5, .ref a6, .ref a7, .ref a8, .ref a9, .ref a10, .int 0, .int 0, .int (-1), .ref a11, .int 0, .ref a12, .int 0])), (a12, .inl (G.2 0, 5, .inl (fun _ => 0)))]) [0, 1] (by decide) rfl
                  have hFc := va_free (wc := [(a0, .inr (11, [.ref a1, .ref a2, .ref a3, .ref a4, .ref a5, .ref a6, .ref a7, .ref a8, .ref a9, .ref a10, .int 0, .int 0, .int (-1), .ref a11, .int 0, .ref a12, .int 0])), (a12, .inl (G.2 0, 5, .inl (fun _ => 0)))]) hD hS hA [0, 1] rfl
                  refine va_calli (va_runV (As := [.int (-1)]) (rest := []) ⟨hx, hb, hml, hown, hts⟩ (kX11_refuse l G a0 a1 a2 a3 a4 a5 a6 a7 a8 a9 a10 a11 a12 H.size) (cwV 1 hts gV_X11_104 rfl rfl rfl hv_X11_refuse ⟨Nat.le_of_ble_eq_true rfl, Nat.le_of_ble_eq_true rfl⟩) (g5_preV hPc hK hDc hN hT hS hFc (ci := 11) (q0 := 0) rfl rfl) rfl rfl hl.1 rfl (lv_room (Nat.le_of_ble_eq_true rfl)) dX11_glass_31 ⟨Nat.le_of_ble_eq_true rfl, Nat.le_of_ble_eq_true rfl⟩) hS (fun q _ h => hFc q h) hFc (fun r u t H1 locs ht hvm hw hB hz1 hk1 hS => ?_)
                  obtain ⟨hP1, hD1⟩ := hB
                  rw [ht] at hP1
                  obtain ⟨rfl, rfl⟩ := hw
                  obtain ⟨hP, hD⟩ := va_join (wr := [(a1, .inr (1, [.long 0, .int 1000, .int (-1), .int (-1), .int 0, .ref a13, .ref a14, .ref a15, .ref a16, .ref a17, .ref a18, .long 0, .ref a19])), (a17, .inr (6, [.int 8, .int 5, .ref a20, .int 0])), (a14, .inr (6, [.int 6, .int 5, .ref a21, .int 0])), (a21, .inl (G.2 0, 30, .inl (fun _ => 0)))]) (w1 := [(a0, .inr (11, [.ref a1, .ref a2, .ref a3, .ref a4, .ref a5, .ref a6, .ref a7, .ref a8, .ref a9, .ref a10, .int 0, .int 0, .int (-1), .ref a11, .int 0, .ref a12, .int (-1)])), (a12, .inl (G.2 0, 5, .inl (upd (fun _ => 0) 0 1)))]) hP hD [0, 1] [2, 3, 4, 5] rfl rfl (by decide) (by decide) hk1 hFc hP1 hD1
                  generalize H1 = H at hP hS ⊢
                  have hP : va_P G.1 vwCl [(a1, .inr (1, [.long 0, .int 1000, .int (-1), .int (-1), .int 0, .ref a13, .ref a14, .ref a15, .ref a16, .ref a17, .ref a18, .long 0, .ref a19])), (a17, .inr (6, [.int 8, .int 5, .ref a20, .int 0])), (a14, .inr (6, [.int 6, .int 5, .ref a21, .int 0])), (a21, .inl (G.2 0, 30, .inl (fun _ => 0))), (a0, .inr (11, [.ref a1, .ref a2, .ref a3, .ref a4, .ref a5, .ref a6, .ref a7, .ref a8, .ref a9, .ref a10, .int 0, .int 0, .int (-1), .ref a11, .int 0, .ref a12, .int (-1)])), (a12, .inl (G.2 0, 5, .inl (upd (fun _ => 0) 0 1)))] H := hP
                  have hD : va_D A [(a1, .inr (1, [.long 0, .int 1000, .int (-1), .int (-1), .int 0, .ref a13, .ref a14, .ref a15, .ref a16, .ref a17, .ref a18, .long 0, .ref a19])), (a17, .inr (6, [.int 8, .int 5, .ref a20, .int 0])), (a14, .inr (6, [.int 6, .int 5, .ref a21, .int 0])), (a21, .inl (G.2 0, 30, .inl (fun _ => 0))), (a0, .inr (11, [.ref a1, .ref a2, .ref a3, .ref a4, .ref a5, .ref a6, .ref a7, .ref a8, .ref a9, .ref a10, .int 0, .int 0, .int (-1), .ref a11, .int 0, .ref a12, .int (-1)])), (a12, .inl (G.2 0, 5, .inl (upd (fun _ => 0) 0 1)))] := hD
                  have hP := hP.sub (ws' := []) [] rfl
                  have hD := hD.sub (ws' := []) [] (by decide) rfl
                  exact W.iret (v := (-1)) hx hb hr (fun t ht hW => ⟨⟨(-1), [], rfl, Or.inr (Or.inr (Or.inr (Or.inr (Or.inr (Or.inr (Or.inr (Or.inl (⟨i_4, i_5, i_12, i_13, i_20, i_21, i_26, i_27, rfl, rfl⟩)))))))), by rw [ht]; exact hP, hD⟩, hS.F ht⟩) hS.2.2 dX11_glass_34
              ·
                have hP := g5_same hP hk1
                generalize H1 = H at hP hS ⊢
                refine lv_if_ne (tgt := 35) hx hb dX11_glass_26 (by decide) (fun c_32 => ?_) (fun c_32 => ?_)
                ·
                  refine lv_aload_n hx hb dX11_glass_35 rfl (lv_at hl 0 rfl) ?_
                  refine va_get (D := G.1) (ci := 11) (v := .ref a1) (C := RX11) (T := TX11) (N := 17) hx hb hts inG_X11 hown hK hP 0 rfl rfl 0 (by decide) (hts _ fl_X11_12) (fun _ h9 => h9) rfl dX11_glass_36 ?_
                  refine lv_iload_n hx hb dX11_glass_39 rfl (lv_at hl 1 rfl) ?_
                  have hPc := hP.sub (ws' := [(a1, .inr (1, [.long 0, .int 1000, .int (-1), .int (-1), .int 0, .ref a13, .ref a14, .ref a15, .ref a16, .ref a17, .ref a18, .long 0, .ref a19])), (a17, .inr (6, [.int 8, .int 5, .ref a20, .int 0]))]) [2, 3] rfl
                  have hDc := hD.sub (ws' := [(a1, .inr (1, [.long 0, .int 1000, .int (-1), .int (-1), .int 0, .ref a13, .ref a14, .ref a15, .ref a16, .ref a17, .ref a18, .long 0, .ref a19])), (a17, .inr (6, [.int 8, .int 5, .ref a20, .int 0]))]) [2, 3] (by decide) rfl
                  have hFc := va_free (wc := [(a1, .inr (1, [.long 0, .int 1000, .int (-1), .int (-1), .int 0, .ref a13, .ref a14, .ref a15, .ref a16, .ref a17, .ref a18, .long 0, .ref a19])), (a17, .inr (6, [.int 8, .int 5, .ref a20, .int 0]))]) hD hS hA [2, 3] rfl
                  refine va_calli (va_runV (As := [.int n0]) (rest := []) ⟨hx, hb, hml, hown, hts⟩ (kX1_canHang l G a1 a13 a14 a15 a16 a17 a18 a19 a20 H.size n0 ⟨by omega, by omega⟩) (cwV 1 hts gV_X11_133 rfl rfl rfl hv_X1_canHang ⟨Nat.le_of_ble_eq_true rfl, Nat.le_of_ble_eq_true rfl⟩) (g5_preV hPc hK hDc hN hT hS hFc (ci := 1) (q0 := 0) rfl rfl) rfl rfl hl.1 rfl (lv_room (Nat.le_of_ble_eq_true rfl)) dX11_glass_40 ⟨Nat.le_of_ble_eq_true rfl, Nat.le_of_ble_eq_true rfl⟩) hS (fun q _ h => hFc q h) hFc (fun r u t H1 locs ht hvm hw hB hz1 hk1 hS => ?_)
                  obtain ⟨hP1, hD1⟩ := hB
                  rw [ht] at hP1
                  obtain ⟨rfl, rfl⟩ := hw
                  obtain ⟨hP, hD⟩ := va_join (wr := [(a0, .inr (11, [.ref a1, .ref a2, .ref a3, .ref a4, .ref a5, .ref a6, .ref a7, .ref a8, .ref a9, .ref a10, .int 0, .int 0, .int (-1), .ref a11, .int 0, .ref a12, .int 0])), (a12, .inl (G.2 0, 5, .inl (fun _ => 0))), (a14, .inr (6, [.int 6, .int 5, .ref a21, .int 0])), (a21, .inl (G.2 0, 30, .inl (fun _ => 0)))]) (w1 := [(a1, .inr (1, [.long 0, .int 1000, .int (-1), .int (-1), .int 0, .ref a13, .ref a14, .ref a15, .ref a16, .ref a17, .ref a18, .long 0, .ref a19])), (a17, .inr (6, [.int 8, .int 5, .ref a20, .int 0]))]) hP hD [2, 3] [0, 1, 4, 5] rfl rfl (by decide) (by decide) hk1 hFc hP1 hD1
                  generalize H1 = H at hP hS ⊢
                  have hP : va_P G.1 vwCl [(a0, .inr (11, [.ref a1, .ref a2, .ref a3, .ref a4, .ref a5, .ref a6, .ref a7, .ref a8, .ref a9, .ref a10, .int 0, .int 0, .int (-1), .ref a11, .int 0, .ref a12, .int 0])), (a12, .inl (G.2 0, 5, .inl (fun _ => 0))), (a14, .inr (6, [.int 6, .int 5, .ref a21, .int 0])), (a21, .inl (G.2 0, 30, .inl (fun _ => 0))), (a1, .inr (1, [.long 0, .int 1000, .int (-1), .int (-1), .int 0, .ref a13, .ref a14, .ref a15, .ref a16, .ref a17, .ref a18, .long 0, .ref a19])), (a17, .inr (6, [.int 8, .int 5, .ref a20, .int 0]))] H := hP
                  have hD : va_D A [(a0, .inr (11, [.ref a1, .ref a2, .ref a3, .ref a4, .ref a5, .ref a6, .ref a7, .ref a8, .ref a9, .ref a10, .int 0, .int 0, .int (-1), .ref a11, .int 0, .ref a12, .int 0])), (a12, .inl (G.2 0, 5, .inl (fun _ => 0))), (a14, .inr (6, [.int 6, .int 5, .ref a21, .int 0])), (a21, .inl (G.2 0, 30, .inl (fun _ => 0))), (a1, .inr (1, [.long 0, .int 1000, .int (-1), .int (-1), .int 0, .ref a13, .ref a14, .ref a15, .ref a16, .ref a17, .ref a18, .long 0, .ref a19])), (a17, .inr (6, [.int 8, .int 5, .ref a20, .int 0]))] := hD
                  refine lv_if_ne (tgt := 53) hx hb dX11_glass_43 (by decide) (fun c_33 => ?_) (fun c_33 => ?_)
                  ·
                    refine lv_aload_n hx hb dX11_glass_53 rfl (lv_at hl 0 rfl) ?_
                    refine va_get (D := G.1) (ci := 11) (v := .ref a1) (C := RX11) (T := TX11) (N := 17) hx hb hts inG_X11 hown hK hP 0 rfl rfl 0 (by decide) (hts _ fl_X11_12) (fun _ h9 => h9) rfl dX11_glass_54 ?_
                    refine va_get (D := G.1) (ci := 1) (v := .ref a14) (C := RX1) (T := TX1) (N := 13) hx hb hts inG_X1 hown hK hP 4 rfl rfl 6 (by decide) (hts _ fl_X11_136) (fun _ h9 => h9) rfl dX11_glass_57 ?_
                    have hPc := hP.sub (ws' := [(a14, .inr (6, [.int 6, .int 5, .ref a21, .int 0]))]) [2] rfl
                    have hDc := hD.sub (ws' := [(a14, .inr (6, [.int 6, .int 5, .ref a21, .int 0]))]) [2] (by decide) rfl
                    have hFc := va_free (wc := [(a14, .inr (6, [.int 6, .int 5, .ref a21, .int 0]))]) hD hS hA [2] rfl
                    refine va_calli (va_runV (As := []) (rest := []) ⟨hx, hb, hml, hown, hts⟩ (kX6_isFull l G a14 a21 H.size) (cwV 0 hts gV_X11_140 rfl rfl rfl hv_X6_isFull ⟨Nat.le_of_ble_eq_true rfl, Nat.le_of_ble_eq_true rfl⟩) (g5_preV hPc hK hDc hN hT hS hFc (ci := 6) (q0 := 0) rfl rfl) rfl rfl hl.1 rfl (lv_room (Nat.le_of_ble_eq_true rfl)) dX11_glass_60 ⟨Nat.le_of_ble_eq_true rfl, Nat.le_of_ble_eq_true rfl⟩) hS (fun q _ h => hFc q h) hFc (fun r u t H1 locs ht hvm hw hB hz1 hk1 hS => ?_)
                    obtain ⟨hP1, hD1⟩ := hB
                    rw [ht] at hP1
                    obtain ⟨rfl, rfl⟩ := hw
                    obtain ⟨hP, hD⟩ := va_join (wr := [(a0, .inr (11, [.ref a1, .ref a2, .ref a3, .ref a4, .ref a5, .ref a6, .ref a7, .ref a8, .ref a9, .ref a10, .int 0, .int 0, .int (-1), .ref a11, .int 0, .ref a12, .int 0])), (a12, .inl (G.2 0, 5, .inl (fun _ => 0))), (a21, .inl (G.2 0, 30, .inl (fun _ => 0))), (a1, .inr (1, [.long 0, .int 1000, .int (-1), .int (-1), .int 0, .ref a13, .ref a14, .ref a15, .ref a16, .ref a17, .ref a18, .long 0, .ref a19])), (a17, .inr (6, [.int 8, .int 5, .ref a20, .int 0]))]) (w1 := [(a14, .inr (6, [.int 6, .int 5, .ref a21, .int 0]))]) hP hD [2] [0, 1, 3, 4, 5] rfl rfl (by decide) (by decide) hk1 hFc hP1 hD1
                    generalize H1 = H at hP hS ⊢
                    have hP : va_P G.1 vwCl [(a0, .inr (11, [.ref a1, .ref a2, .ref a3, .ref a4, .ref a5, .ref a6, .ref a7, .ref a8, .ref a9, .ref a10, .int 0, .int 0, .int (-1), .ref a11, .int 0, .ref a12, .int 0])), (a12, .inl (G.2 0, 5, .inl (fun _ => 0))), (a21, .inl (G.2 0, 30, .inl (fun _ => 0))), (a1, .inr (1, [.long 0, .int 1000, .int (-1), .int (-1), .int 0, .ref a13, .ref a14, .ref a15, .ref a16, .ref a17, .ref a18, .long 0, .ref a19])), (a17, .inr (6, [.int 8, .int 5, .ref a20, .int 0])), (a14, .inr (6, [.int 6, .int 5, .ref a21, .int 0]))] H := hP
                    have hD : va_D A [(a0, .inr (11, [.ref a1, .ref a2, .ref a3, .ref a4, .ref a5, .ref a6, .ref a7, .ref a8, .ref a9, .ref a10, .int 0, .int 0, .int (-1), .ref a11, .int 0, .ref a12, .int 0])), (a12, .inl (G.2 0, 5, .inl (fun _ => 0))), (a21, .inl (G.2 0, 30, .inl (fun _ => 0))), (a1, .inr (1, [.long 0, .int 1000, .int (-1), .int (-1), .int 0, .ref a13, .ref a14, .ref a15, .ref a16, .ref a17, .ref a18, .long 0, .ref a19])), (a17, .inr (6, [.int 8, .int 5, .ref a20, .int 0])), (a14, .inr (6, [.int 6, .int 5, .ref a21, .int 0]))] := hD
                    refine lv_if_eq (tgt := 73) hx hb dX11_glass_63 (by decide) (fun c_34 => ?_) (fun c_34 => ?_)
                    ·
                      refine lv_aload_n hx hb dX11_glass_73 rfl (lv_at hl 0 rfl) ?_
                      refine va_get (D := G.1) (ci := 11) (v := .ref a1) (C := RX11) (T := TX11) (N := 17) hx hb hts inG_X11 hown hK hP 0 rfl rfl 0 (by decide) (hts _ fl_X11_12) (fun _ h9 => h9) rfl dX11_glass_74 ?_
                      refine va_get (D := G.1) (ci := 1) (v := .ref a14) (C := RX1) (T := TX1) (N := 13) hx hb hts inG_X1 hown hK hP 3 rfl rfl 6 (by decide) (hts _ fl_X11_136) (fun _ h9 => h9) rfl dX11_glass_77 ?_
                      refine lv_iconst (v := 0) hx hb dX11_glass_80 (by decide) ?_
                      have hPc := hP.sub (ws' := [(a14, .inr (6, [.int 6, .int 5, .ref a21, .int 0])), (a21, .inl (G.2 0, 30, .inl (fun _ => 0)))]) [5, 2] rfl
                      have hDc := hD.sub (ws' := [(a14, .inr (6, [.int 6, .int 5, .ref a21, .int 0])), (a21, .inl (G.2 0, 30, .inl (fun _ => 0)))]) [5, 2] (by decide) rfl
                      have hFc := va_free (wc := [(a14, .inr (6, [.int 6, .int 5, .ref a21, .int 0])), (a21, .inl (G.2 0, 30, .inl (fun _ => 0)))]) hD hS hA [5, 2] rfl
                      refine va_calli (va_runV (As := [.int 0]) (rest := []) ⟨hx, hb, hml, hown, hts⟩ (kX6_open l G a14 a21 H.size) (cwV 1 hts gV_X11_146 rfl rfl rfl hv_X6_open ⟨Nat.le_of_ble_eq_true rfl, Nat.le_of_ble_eq_true rfl⟩) (g5_preV hPc hK hDc hN hT hS hFc (ci := 6) (q0 := 0) rfl rfl) rfl rfl hl.1 rfl (lv_room (Nat.le_of_ble_eq_true rfl)) dX11_glass_81 ⟨Nat.le_of_ble_eq_true rfl, Nat.le_of_ble_eq_true rfl⟩) hS (fun q _ h => hFc q h) hFc (fun r u t H1 locs ht hvm hw hB hz1 hk1 hS => ?_)
                      obtain ⟨hP1, hD1⟩ := hB
                      rw [ht] at hP1
                      obtain ⟨rfl, rfl⟩ := hw
                      obtain ⟨hP, hD⟩ := va_join (wr := [(a0, .inr (11, [.ref a1, .ref a2, .ref a3, .ref a4, .ref a5, .ref a6, .ref a7, .ref a8, .ref a9, .ref a10, .int 0, .int 0, .int (-1), .ref a11, .int 0, .ref a12, .int 0])), (a12, .inl (G.2 0, 5, .inl (fun _ => 0))), (a1, .inr (1, [.long 0, .int 1000, .int (-1), .int (-1), .int 0, .ref a13, .ref a14, .ref a15, .ref a16, .ref a17, .ref a18, .long 0, .ref a19])), (a17, .inr (6, [.int 8, .int 5, .ref a20, .int 0]))]) (w1 := [(a21, .inl (G.2 0, 30, .inl (upd (upd (upd (upd (upd (fun _ => 0) 0 0) 1 0) 2 0) 3 0) 4 0))), (a14, .inr (6, [.int 6, .int 5, .ref a21, .int 1]))]) hP hD [5, 2] [0, 1, 3, 4] rfl rfl (by decide) (by decide) hk1 hFc hP1 hD1
                      generalize H1 = H at hP hS ⊢
                      have hP : va_P G.1 vwCl [(a0, .inr (11, [.ref a1, .ref a2, .ref a3, .ref a4, .ref a5, .ref a6, .ref a7, .ref a8, .ref a9, .ref a10, .int 0, .int 0, .int (-1), .ref a11, .int 0, .ref a12, .int 0])), (a12, .inl (G.2 0, 5, .inl (fun _ => 0))), (a1, .inr (1, [.long 0, .int 1000, .int (-1), .int (-1), .int 0, .ref a13, .ref a14, .ref a15, .ref a16, .ref a17, .ref a18, .long 0, .ref a19])), (a17, .inr (6, [.int 8, .int 5, .ref a20, .int 0])), (a21, .inl (G.2 0, 30, .inl (upd (upd (upd (upd (upd (fun _ => 0) 0 0) 1 0) 2 0) 3 0) 4 0))), (a14, .inr (6, [.int 6, .int 5, .ref a21, .int 1]))] H := hP
                      have hD : va_D A [(a0, .inr (11, [.ref a1, .ref a2, .ref a3, .ref a4, .ref a5, .ref a6, .ref a7, .ref a8, .ref a9, .ref a10, .int 0, .int 0, .int (-1), .ref a11, .int 0, .ref a12, .int 0])), (a12, .inl (G.2 0, 5, .inl (fun _ => 0))), (a1, .inr (1, [.long 0, .int 1000, .int (-1), .int (-1), .int 0, .ref a13, .ref a14, .ref a15, .ref a16, .ref a17, .ref a18, .long 0, .ref a19])), (a17, .inr (6, [.int 8, .int 5, .ref a20, .int 0])), (a21, .inl (G.2 0, 30, .inl (upd (upd (upd (upd (upd (fun _ => 0) 0 0) 1 0) 2 0) 3 0) 4 0))), (a14, .inr (6, [.int 6, .int 5, .ref a21, .int 1]))] := hD
                      refine lv_istore (lv' := [(5, .int 0), (0, .ref a0), (1, .int n0), (2, .int n1), (3, .int n2), (4, .int n3)]) hx hb dX11_glass_84 hl (by decide) rfl (fun ls hl => ?_)
                      refine lv_aload_n hx hb dX11_glass_86 rfl (lv_at hl 1 rfl) ?_
                      refine va_get (D := G.1) (ci := 11) (v := .ref a1) (C := RX11) (T := TX11) (N := 17) hx hb hts inG_X11 hown hK hP 0 rfl rfl 0 (by decide) (hts _ fl_X11_12) (fun _ h9 => h9) rfl dX11_glass_87 ?_
                      refine va_get (D := G.1) (ci := 1) (v := .ref a14) (C := RX1) (T := TX1) (N := 13) hx hb hts inG_X1 hown hK hP 2 rfl rfl 6 (by decide) (hts _ fl_X11_136) (fun _ h9 => h9) rfl dX11_glass_90 ?_
                      refine lv_iload hx hb dX11_glass_93 (lv_at hl 0 rfl) ?_
                      refine lv_iconst (v := 0) hx hb dX11_glass_95 (by decide) ?_
                      refine lv_iload_n hx hb dX11_glass_96 rfl (lv_at hl 2 rfl) ?_
                      have hPc := hP.sub (ws' := [(a14, .inr (6, [.int 6, .int 5, .ref a21, .int 1])), (a21, .inl (G.2 0, 30, .inl (upd (upd (upd (upd (upd (fun _ => 0) 0 0) 1 0) 2 0) 3 0) 4 0)))]) [5, 4] rfl
                      have hDc := hD.sub (ws' := [(a14, .inr (6, [.int 6, .int 5, .ref a21, .int 1])), (a21, .inl (G.2 0, 30, .inl (upd (upd (upd (upd (upd (fun _ => 0) 0 0) 1 0) 2 0) 3 0) 4 0)))]) [5, 4] (by decide) rfl
                      have hFc := va_free (wc := [(a14, .inr (6, [.int 6, .int 5, .ref a21, .int 1])), (a21, .inl (G.2 0, 30, .inl (upd (upd (upd (upd (upd (fun _ => 0) 0 0) 1 0) 2 0) 3 0) 4 0)))]) hD hS hA [5, 4] rfl
                      refine va_callv (va_runV (As := [.int 0, .int 0, .int n0]) (rest := []) ⟨hx, hb, hml, hown, hts⟩ (kX6_set_6 l G a14 a21 H.size n0 (upd (upd (upd (upd (upd (fun _ => 0) 0 0) 1 0) 2 0) 3 0) 4 0) ⟨by omega, by omega⟩) (cwV 3 hts gV_X11_149 rfl rfl rfl hv_X6_set ⟨Nat.le_of_ble_eq_true rfl, Nat.le_of_ble_eq_true rfl⟩) (g5_preV hPc hK hDc hN hT hS hFc (ci := 6) (q0 := 0) rfl rfl) rfl rfl hl.1 rfl (lv_room (Nat.le_of_ble_eq_true rfl)) dX11_glass_97 ⟨Nat.le_of_ble_eq_true rfl, Nat.le_of_ble_eq_true rfl⟩) hS (fun q _ h => hFc q h) hFc (fun u t H1 locs ht hvm hw hB hz1 hk1 hS => ?_)
                      obtain ⟨hP1, hD1⟩ := hB
                      rw [ht] at hP1
                      obtain rfl := hw
                      obtain ⟨hP, hD⟩ := va_join (wr := [(a0, .inr (11, [.ref a1, .ref a2, .ref a3, .ref a4, .ref a5, .ref a6, .ref a7, .ref a8, .ref a9, .ref a10, .int 0, .int 0, .int (-1), .ref a11, .int 0, .ref a12, .int 0])), (a12, .inl (G.2 0, 5, .inl (fun _ => 0))), (a1, .inr (1, [.long 0, .int 1000, .int (-1), .int (-1), .int 0, .ref a13, .ref a14, .ref a15, .ref a16, .ref a17, .ref a18, .long 0, .ref a19])), (a17, .inr (6, [.int 8, .int 5, .ref a20, .int 0]))]) (w1 := [(a21, .inl (G.2 0, 30, .inl (upd (upd (upd (upd (upd (upd (fun _ => 0) 0 0) 1 0) 2 0) 3 0) 4 0) 0 n0))), (a14, .inr (6, [.int 6, .int 5, .ref a21, .int 1]))]) hP hD [5, 4] [0, 1, 2, 3] rfl rfl (by decide) (by decide) hk1 hFc hP1 hD1
                      generalize H1 = H at hP hS ⊢
                      have hP : va_P G.1 vwCl [(a0, .inr (11, [.ref a1, .ref a2, .ref a3, .ref a4, .ref a5, .ref a6, .ref a7, .ref a8, .ref a9, .ref a10, .int 0, .int 0, .int (-1), .ref a11, .int 0, .ref a12, .int 0])), (a12, .inl (G.2 0, 5, .inl (fun _ => 0))), (a1, .inr (1, [.long 0, .int 1000, .int (-1), .int (-1), .int 0, .ref a13, .ref a14, .ref a15, .ref a16, .ref a17, .ref a18, .long 0, .ref a19])), (a17, .inr (6, [.int 8, .int 5, .ref a20, .int 0])), (a21, .inl (G.2 0, 30, .inl (upd (upd (upd (upd (upd (upd (fun _ => 0) 0 0) 1 0) 2 0) 3 0) 4 0) 0 n0))), (a14, .inr (6, [.int 6, .int 5, .ref a21, .int 1]))] H := hP
                      have hD : va_D A [(a0, .inr (11, [.ref a1, .ref a2, .ref a3, .ref a4, .ref a5, .ref a6, .ref a7, .ref a8, .ref a9, .ref a10, .int 0, .int 0, .int (-1), .ref a11, .int 0, .ref a12, .int 0])), (a12, .inl (G.2 0, 5, .inl (fun _ => 0))), (a1, .inr (1, [.long 0, .int 1000, .int (-1), .int (-1), .int 0, .ref a13, .ref a14, .ref a15, .ref a16, .ref a17, .ref a18, .long 0, .ref a19])), (a17, .inr (6, [.int 8, .int 5, .ref a20, .int 0])), (a21, .inl (G.2 0, 30, .inl (upd (upd (upd (upd (upd (upd (fun _ => 0) 0 0) 1 0) 2 0) 3 0) 4 0) 0 n0))), (a14, .inr (6, [.int 6, .int 5, .ref a21, .int 1]))] := hD
                      refine lv_aload_n hx hb dX11_glass_100 rfl (lv_at hl 1 rfl) ?_
                      refine va_get (D := G.1) (ci := 11) (v := .ref a1) (C := RX11) (T := TX11) (N := 17) hx hb hts inG_X11 hown hK hP 0 rfl rfl 0 (by decide) (hts _ fl_X11_12) (fun _ h9 => h9) rfl dX11_glass_101 ?_
                      refine va_get (D := G.1) (ci := 1) (v := .ref a14) (C := RX1) (T := TX1) (N := 13) hx hb hts inG_X1 hown hK hP 2 rfl rfl 6 (by decide) (hts _ fl_X11_136) (fun _ h9 => h9) rfl dX11_glass_104 ?_
                      refine lv_iload hx hb dX11_glass_107 (lv_at hl 0 rfl) ?_
                      refine lv_iconst (v := 1) hx hb dX11_glass_109 (by decide) ?_
                      refine lv_iload_n hx hb dX11_glass_110 rfl (lv_at hl 3 rfl) ?_
                      have hPc := hP.sub (ws' := [(a14, .inr (6, [.int 6, .int 5, .ref a21, .int 1])), (a21, .inl (G.2 0, 30, .inl (upd (upd (upd (upd (upd (upd (fun _ => 0) 0 0) 1 0) 2 0) 3 0) 4 0) 0 n0)))]) [5, 4] rfl
                      have hDc := hD.sub (ws' := [(a14, .inr (6, [.int 6, .int 5, .ref a21, .int 1])), (a21, .inl (G.2 0, 30, .inl (upd (upd (upd (upd (upd (upd (fun _ => 0) 0 0) 1 0) 2 0) 3 0) 4 0) 0 n0)))]) [5, 4] (by decide) rfl
                      have hFc := va_free (wc := [(a14, .inr (6, [.int 6, .int 5, .ref a21, .int 1])), (a21, .inl (G.2 0, 30, .inl (upd (upd (upd (upd (upd (upd (fun _ => 0) 0 0) 1 0) 2 0) 3 0) 4 0) 0 n0)))]) hD hS hA [5, 4] rfl
                      refine va_callv (va_runV (As := [.int 0, .int 1, .int n1]) (rest := []) ⟨hx, hb, hml, hown, hts⟩ (kX6_set_7 l G a14 a21 H.size n1 (upd (upd (upd (upd (upd (upd (fun _ => 0) 0 0) 1 0) 2 0) 3 0) 4 0) 0 n0) ⟨by omega, by omega⟩) (cwV 3 hts gV_X11_149 rfl rfl rfl hv_X6_set ⟨Nat.le_of_ble_eq_true rfl, Nat.le_of_ble_eq_true rfl⟩) (g5_preV hPc hK hDc hN hT hS hFc (ci := 6) (q0 := 0) rfl rfl) rfl rfl hl.1 rfl (lv_room (Nat.le_of_ble_eq_true rfl)) dX11_glass_111 ⟨Nat.le_of_ble_eq_true rfl, Nat.le_of_ble_eq_true rfl⟩) hS (fun q _ h => hFc q h) hFc (fun u t H1 locs ht hvm hw hB hz1 hk1 hS => ?_)
                      obtain ⟨hP1, hD1⟩ := hB
                      rw [ht] at hP1
                      obtain rfl := hw
                      obtain ⟨hP, hD⟩ := va_join (wr := [(a0, .inr (11, [.ref a1, .ref a2, .ref a3, .ref a4, .ref a5, .ref a6, .ref a7, .ref a8, .ref a9, .ref a10, .int 0, .int 0, .int (-1), .ref a11, .int 0, .ref a12, .int 0])), (a12, .inl (G.2 0, 5, .inl (fun _ => 0))), (a1, .inr (1, [.long 0, .int 1000, .int (-1), .int (-1), .int 0, .ref a13, .ref a14, .ref a15, .ref a16, .ref a17, .ref a18, .long 0, .ref a19])), (a17, .inr (6, [.int 8, .int 5, .ref a20, .int 0]))]) (w1 := [(a21, .inl (G.2 0, 30, .inl (upd (upd (upd (upd (upd (upd (upd (fun _ => 0) 0 0) 1 0) 2 0) 3 0) 4 0) 0 n0) 1 n1))), (a14, .inr (6, [.int 6, .int 5, .ref a21, .int 1]))]) hP hD [5, 4] [0, 1, 2, 3] rfl rfl (by decide) (by decide) hk1 hFc hP1 hD1
                      generalize H1 = H at hP hS ⊢
                      have hP : va_P G.1 vwCl [(a0, .inr (11, [.ref a1, .ref a2, .ref a3, .ref a4, .ref a5, .ref a6, .ref a7, .ref a8, .ref a9, .ref a10, .int 0, .int 0, .int (-1), .ref a11, .int 0, .ref a12, .int 0])), (a12, .inl (G.2 0, 5, .inl (fun _ => 0))), (a1, .inr (1, [.long 0, .int 1000, .int (-1), .int (-1), .int 0, .ref a13, .ref a14, .ref a15, .ref a16, .ref a17, .ref a18, .long 0, .ref a19])), (a17, .inr (6, [.int 8, .int 5, .ref a20, .int 0])), (a21, .inl (G.2 0, 30, .inl (upd (upd (upd (upd (upd (upd (upd (fun _ => 0) 0 0) 1 0) 2 0) 3 0) 4 0) 0 n0) 1 n1))), (a14, .inr (6, [.int 6, .int 5, .ref a21, .int 1]))] H := hP
                      have hD : va_D A [(a0, .inr (11, [.ref a1, .ref a2, .ref a3, .ref a4, .ref a5, .ref a6, .ref a7, .ref a8, .ref a9, .ref a10, .int 0, .int 0, .int (-1), .ref a11, .int 0, .ref a12, .int 0])), (a12, .inl (G.2 0, 5, .inl (fun _ => 0))), (a1, .inr (1, [.long 0, .int 1000, .int (-1), .int (-1), .int 0, .ref a13, .ref a14, .ref a15, .ref a16, .ref a17, .ref a18, .long 0, .ref a19])), (a17, .inr (6, [.int 8, .int 5, .ref a20, .int 0])), (a21, .inl (G.2 0, 30, .inl (upd (upd (upd (upd (upd (upd (upd (fun _ => 0) 0 0) 1 0) 2 0) 3 0) 4 0) 0 n0) 1 n1))), (a14, .inr (6, [.int 6, .int 5, .ref a21, .int 1]))] := hD
                      refine lv_aload_n hx hb dX11_glass_114 rfl (lv_at hl 1 rfl) ?_
                      refine va_get (D := G.1) (ci := 11) (v := .ref a1) (C := RX11) (T := TX11) (N := 17) hx hb hts inG_X11 hown hK hP 0 rfl rfl 0 (by decide) (hts _ fl_X11_12) (fun _ h9 => h9) rfl dX11_glass_115 ?_
                      refine va_get (D := G.1) (ci := 1) (v := .ref a14) (C := RX1) (T := TX1) (N := 13) hx hb hts inG_X1 hown hK hP 2 rfl rfl 6 (by decide) (hts _ fl_X11_136) (fun _ h9 => h9) rfl dX11_glass_118 ?_
                      refine lv_iload hx hb dX11_glass_121 (lv_at hl 0 rfl) ?_
                      refine lv_iconst (v := 2) hx hb dX11_glass_123 (by decide) ?_
                      refine lv_iload_n hx hb dX11_glass_124 rfl (lv_at hl 4 rfl) ?_
                      have hPc := hP.sub (ws' := [(a14, .inr (6, [.int 6, .int 5, .ref a21, .int 1])), (a21, .inl (G.2 0, 30, .inl (upd (upd (upd (upd (upd (upd (upd (fun _ => 0) 0 0) 1 0) 2 0) 3 0) 4 0) 0 n0) 1 n1)))]) [5, 4] rfl
                      have hDc := hD.sub (ws' := [(a14, .inr (6, [.int 6, .int 5, .ref a21, .int 1])), (a21, .inl (G.2 0, 30, .inl (upd (upd (upd (upd (upd (upd (upd (fun _ => 0) 0 0) 1 0) 2 0) 3 0) 4 0) 0 n0) 1 n1)))]) [5, 4] (by decide) rfl
                      have hFc := va_free (wc := [(a14, .inr (6, [.int 6, .int 5, .ref a21, .int 1])), (a21, .inl (G.2 0, 30, .inl (upd (upd (upd (upd (upd (upd (upd (fun _ => 0) 0 0) 1 0) 2 0) 3 0) 4 0) 0 n0) 1 n1)))]) hD hS hA [5, 4] rfl
                      refine va_callv (va_runV (As := [.int 0, .int 2, .int n2]) (rest := []) ⟨hx, hb, hml, hown, hts⟩ (kX6_set_8 l G a14 a21 H.size n2 (upd (upd (upd (upd (upd (upd (upd (fun _ => 0) 0 0) 1 0) 2 0) 3 0) 4 0) 0 n0) 1 n1) ⟨by omega, by omega⟩) (cwV 3 hts gV_X11_149 rfl rfl rfl hv_X6_set ⟨Nat.le_of_ble_eq_true rfl, Nat.le_of_ble_eq_true rfl⟩) (g5_preV hPc hK hDc hN hT hS hFc (ci := 6) (q0 := 0) rfl rfl) rfl rfl hl.1 rfl (lv_room (Nat.le_of_ble_eq_true rfl)) dX11_glass_125 ⟨Nat.le_of_ble_eq_true rfl, Nat.le_of_ble_eq_true rfl⟩) hS (fun q _ h => hFc q h) hFc (fun u t H1 locs ht hvm hw hB hz1 hk1 hS => ?_)
                      obtain ⟨hP1, hD1⟩ := hB
                      rw [ht] at hP1
                      obtain rfl := hw
                      obtain ⟨hP, hD⟩ := va_join (wr := [(a0, .inr (11, [.ref a1, .ref a2, .ref a3, .ref a4, .ref a5, .ref a6, .ref a7, .ref a8, .ref a9, .ref a10, .int 0, .int 0, .int (-1), .ref a11, .int 0, .ref a12, .int 0])), (a12, .inl (G.2 0, 5, .inl (fun _ => 0))), (a1, .inr (1, [.long 0, .int 1000, .int (-1), .int (-1), .int 0, .ref a13, .ref a14, .ref a15, .ref a16, .ref a17, .ref a18, .long 0, .ref a19])), (a17, .inr (6, [.int 8, .int 5, .ref a20, .int 0]))]) (w1 := [(a21, .inl (G.2 0, 30, .inl (upd (upd (upd (upd (upd (upd (upd (upd (fun _ => 0) 0 0) 1 0) 2 0) 3 0) 4 0) 0 n0) 1 n1) 2 n2))), (a14, .inr (6, [.int 6, .int 5, .ref a21, .int 1]))]) hP hD [5, 4] [0, 1, 2, 3] rfl rfl (by decide) (by decide) hk1 hFc hP1 hD1
                      generalize H1 = H at hP hS ⊢
                      have hP : va_P G.1 vwCl [(a0, .inr (11, [.ref a1, .ref a2, .ref a3, .ref a4, .ref a5, .ref a6, .ref a7, .ref a8, .ref a9, .ref a10, .int 0, .int 0, .int (-1), .ref a11, .int 0, .ref a12, .int 0])), (a12, .inl (G.2 0, 5, .inl (fun _ => 0))), (a1, .inr (1, [.long 0, .int 1000, .int (-1), .int (-1), .int 0, .ref a13, .ref a14, .ref a15, .ref a16, .ref a17, .ref a18, .long 0, .ref a19])), (a17, .inr (6, [.int 8, .int 5, .ref a20, .int 0])), (a21, .inl (G.2 0, 30, .inl (upd (upd (upd (upd (upd (upd (upd (upd (fun _ => 0) 0 0) 1 0) 2 0) 3 0) 4 0) 0 n0) 1 n1) 2 n2))), (a14, .inr (6, [.int 6, .int 5, .ref a21, .int 1]))] H := hP
                      have hD : va_D A [(a0, .inr (11, [.ref a1, .ref a2, .ref a3, .ref a4, .ref a5, .ref a6, .ref a7, .ref a8, .ref a9, .ref a10, .int 0, .int 0, .int (-1), .ref a11, .int 0, .ref a12, .int 0])), (a12, .inl (G.2 0, 5, .inl (fun _ => 0))), (a1, .inr (1, [.long 0, .int 1000, .int (-1), .int (-1), .int 0, .ref a13, .ref a14, .ref a15, .ref a16, .ref a17, .ref a18, .long 0, .ref a19])), (a17, .inr (6, [.int 8, .int 5, .ref a20, .int 0])), (a21, .inl (G.2 0, 30, .inl (upd (upd (upd (upd (upd (upd (upd (upd (fun _ => 0) 0 0) 1 0) 2 0) 3 0) 4 0) 0 n0) 1 n1) 2 n2))), (a14, .inr (6, [.int 6, .int 5, .ref a21, .int 1]))] := hD
                      refine lv_aload_n hx hb dX11_glass_128 rfl (lv_at hl 1 rfl) ?_
                      refine va_get (D := G.1) (ci := 11) (v := .ref a1) (C := RX11) (T := TX11) (N := 17) hx hb hts inG_X11 hown hK hP 0 rfl rfl 0 (by decide) (hts _ fl_X11_12) (fun _ h9 => h9) rfl dX11_glass_129 ?_
                      refine va_get (D := G.1) (ci := 1) (v := .ref a14) (C := RX1) (T := TX1) (N := 13) hx hb hts inG_X1 hown hK hP 2 rfl rfl 6 (by decide) (hts _ fl_X11_136) (fun _ h9 => h9) rfl dX11_glass_132 ?_
                      refine lv_iload hx hb dX11_glass_135 (lv_at hl 0 rfl) ?_
                      refine lv_iconst (v := 3) hx hb dX11_glass_137 (by decide) ?_
                      refine lv_iload hx hb dX11_glass_138 (lv_at hl 5 rfl) ?_
                      have hPc := hP.sub (ws' := [(a14, .inr (6, [.int 6, .int 5, .ref a21, .int 1])), (a21, .inl (G.2 0, 30, .inl (upd (upd (upd (upd (upd (upd (upd (upd (fun _ => 0) 0 0) 1 0) 2 0) 3 0) 4 0) 0 n0) 1 n1) 2 n2)))]) [5, 4] rfl
                      have hDc := hD.sub (ws' := [(a14, .inr (6, [.int 6, .int 5, .ref a21, .int 1])), (a21, .inl (G.2 0, 30, .inl (upd (upd (upd (upd (upd (upd (upd (upd (fun _ => 0) 0 0) 1 0) 2 0) 3 0) 4 0) 0 n0) 1 n1) 2 n2)))]) [5, 4] (by decide) rfl
                      have hFc := va_free (wc := [(a14, .inr (6, [.int 6, .int 5, .ref a21, .int 1])), (a21, .inl (G.2 0, 30, .inl (upd (upd (upd (upd (upd (upd (upd (upd (fun _ => 0) 0 0) 1 0) 2 0) 3 0) 4 0) 0 n0) 1 n1) 2 n2)))]) hD hS hA [5, 4] rfl
                      refine va_callv (va_runV (As := [.int 0, .int 3, .int n3]) (rest := []) ⟨hx, hb, hml, hown, hts⟩ (kX6_set_9 l G a14 a21 H.size n3 (upd (upd (upd (upd (upd (upd (upd (upd (fun _ => 0) 0 0) 1 0) 2 0) 3 0) 4 0) 0 n0) 1 n1) 2 n2) ⟨by omega, by omega⟩) (cwV 3 hts gV_X11_149 rfl rfl rfl hv_X6_set ⟨Nat.le_of_ble_eq_true rfl, Nat.le_of_ble_eq_true rfl⟩) (g5_preV hPc hK hDc hN hT hS hFc (ci := 6) (q0 := 0) rfl rfl) rfl rfl hl.1 rfl (lv_room (Nat.le_of_ble_eq_true rfl)) dX11_glass_140 ⟨Nat.le_of_ble_eq_true rfl, Nat.le_of_ble_eq_true rfl⟩) hS (fun q _ h => hFc q h) hFc (fun u t H1 locs ht hvm hw hB hz1 hk1 hS => ?_)
                      obtain ⟨hP1, hD1⟩ := hB
                      rw [ht] at hP1
                      obtain rfl := hw
                      obtain ⟨hP, hD⟩ := va_join (wr := [(a0, .inr (11, [.ref a1, .ref a2, .ref a3, .ref a4, .ref a5, .ref a6, .ref a7, .ref a8, .ref a9, .ref a10, .int 0, .int 0, .int (-1), .ref a11, .int 0, .ref a12, .int 0])), (a12, .inl (G.2 0, 5, .inl (fun _ => 0))), (a1, .inr (1, [.long 0, .int 1000, .int (-1), .int (-1), .int 0, .ref a13, .ref a14, .ref a15, .ref a16, .ref a17, .ref a18, .long 0, .ref a19])), (a17, .inr (6, [.int 8, .int 5, .ref a20, .int 0]))]) (w1 := [(a21, .inl (G.2 0, 30, .inl (upd (upd (upd (upd (upd (upd (upd (upd (upd (fun _ => 0) 0 0) 1 0) 2 0) 3 0) 4 0) 0 n0) 1 n1) 2 n2) 3 n3))), (a14, .inr (6, [.int 6, .int 5, .ref a21, .int 1]))]) hP hD [5, 4] [0, 1, 2, 3] rfl rfl (by decide) (by decide) hk1 hFc hP1 hD1
                      generalize H1 = H at hP hS ⊢
                      have hP : va_P G.1 vwCl [(a0, .inr (11, [.ref a1, .ref a2, .ref a3, .ref a4, .ref a5, .ref a6, .ref a7, .ref a8, .ref a9, .ref a10, .int 0, .int 0, .int (-1), .ref a11, .int 0, .ref a12, .int 0])), (a12, .inl (G.2 0, 5, .inl (fun _ => 0))), (a1, .inr (1, [.long 0, .int 1000, .int (-1), .int (-1), .int 0, .ref a13, .ref a14, .ref a15, .ref a16, .ref a17, .ref a18, .long 0, .ref a19])), (a17, .inr (6, [.int 8, .int 5, .ref a20, .int 0])), (a21, .inl (G.2 0, 30, .inl (upd (upd (upd (upd (upd (upd (upd (upd (upd (fun _ => 0) 0 0) 1 0) 2 0) 3 0) 4 0) 0 n0) 1 n1) 2 n2) 3 n3))), (a14, .inr (6, [.int 6, .int 5, .ref a21, .int 1]))] H := hP
                      have hD : va_D A [(a0, .inr (11, [.ref a1, .ref a2, .ref a3, .ref a4, .ref a5, .ref a6, .ref a7, .ref a8, .ref a9, .ref a10, .int 0, .int 0, .int (-1), .ref a11, .int 0, .ref a12, .int 0])), (a12, .inl (G.2 0, 5, .inl (fun _ => 0))), (a1, .inr (1, [.long 0, .int 1000, .int (-1), .int (-1), .int 0, .ref a13, .ref a14, .ref a15, .ref a16, .ref a17, .ref a18, .long 0, .ref a19])), (a17, .inr (6, [.int 8, .int 5, .ref a20, .int 0])), (a21, .inl (G.2 0, 30, .inl (upd (upd (upd (upd (upd (upd (upd (upd (upd (fun _ => 0) 0 0) 1 0) 2 0) 3 0) 4 0) 0 n0) 1 n1) 2 n2) 3 n3))), (a14, .inr (6, [.int 6, .int 5, .ref a21, .int 1]))] := hD
                      refine lv_aload_n hx hb dX11_glass_143 rfl (lv_at hl 1 rfl) ?_
                      refine va_get (D := G.1) (ci := 11) (v := .ref a1) (C := RX11) (T := TX11) (N := 17) hx hb hts inG_X11 hown hK hP 0 rfl rfl 0 (by decide) (hts _ fl_X11_12) (fun _ h9 => h9) rfl dX11_glass_144 ?_
                      refine lv_dup hx hb dX11_glass_147 rfl ?_
                      refine va_get (D := G.1) (ci := 1) (v := .long 0) (C := RX1) (T := TX1) (N := 13) hx hb hts inG_X1 hown hK hP 2 rfl rfl 11 (by decide) (hts _ fl_X11_153) (fun _ h9 => h9) rfl dX11_glass_148 ?_
                      refine lv_lconst (v := 1) hx hb dX11_glass_151 (by decide) ?_
                      refine lv_iload_n hx hb dX11_glass_152 rfl (lv_at hl 2 rfl) ?_
                      refine lv_lshl (v := ((1 : Int64) <<< (n0.toInt64 &&& 63))) hx hb dX11_glass_153 rfl ?_
                      refine lv_lor hx hb dX11_glass_154 ?_
                      refine g5_tl (v := ((1 : Int64) <<< (n0.toInt64 &&& 63))) (by simp) ?_
                      refine va_put (D := G.1) (ci := 1) (v := .long ((1 : Int64) <<< (n0.toInt64 &&& 63))) (ty := .long) (C := RX1) (T := TX1) (N := 13) hx hb hts inG_X1 tyX1 tyX1_ok nmX1 hown hK hP hD hS 2 rfl rfl 11 (by decide) (hts _ fl_X11_153) (fun _ h9 => h9) rfl (by decide +kernel) rfl rfl (Nat.le_of_ble_eq_true rfl) dX11_glass_155 (fun H locs hP hD hS => ?_)
                      have hP : va_P G.1 vwCl [(a0, .inr (11, [.ref a1, .ref a2, .ref a3, .ref a4, .ref a5, .ref a6, .ref a7, .ref a8, .ref a9, .ref a10, .int 0, .int 0, .int (-1), .ref a11, .int 0, .ref a12, .int 0])), (a12, .inl (G.2 0, 5, .inl (fun _ => 0))), (a1, .inr (1, [.long 0, .int 1000, .int (-1), .int (-1), .int 0, .ref a13, .ref a14, .ref a15, .ref a16, .ref a17, .ref a18, .long ((1 : Int64) <<< (n0.toInt64 &&& 63)), .ref a19])), (a17, .inr (6, [.int 8, .int 5, .ref a20, .int 0])), (a21, .inl (G.2 0, 30, .inl (upd (upd (upd (upd (upd (upd (upd (upd (upd (fun _ => 0) 0 0) 1 0) 2 0) 3 0) 4 0) 0 n0) 1 n1) 2 n2) 3 n3))), (a14, .inr (6, [.int 6, .int 5, .ref a21, .int 1]))] H := hP
                      have hD : va_D A [(a0, .inr (11, [.ref a1, .ref a2, .ref a3, .ref a4, .ref a5, .ref a6, .ref a7, .ref a8, .ref a9, .ref a10, .int 0, .int 0, .int (-1), .ref a11, .int 0, .ref a12, .int 0])), (a12, .inl (G.2 0, 5, .inl (fun _ => 0))), (a1, .inr (1, [.long 0, .int 1000, .int (-1), .int (-1), .int 0, .ref a13, .ref a14, .ref a15, .ref a16, .ref a17, .ref a18, .long ((1 : Int64) <<< (n0.toInt64 &&& 63)), .ref a19])), (a17, .inr (6, [.int 8, .int 5, .ref a20, .int 0])), (a21, .inl (G.2 0, 30, .inl (upd (upd (upd (upd (upd (upd (upd (upd (upd (fun _ => 0) 0 0) 1 0) 2 0) 3 0) 4 0) 0 n0) 1 n1) 2 n2) 3 n3))), (a14, .inr (6, [.int 6, .int 5, .ref a21, .int 1]))] := hD
                      refine lv_aload_n hx hb dX11_glass_158 rfl (lv_at hl 1 rfl) ?_
                      refine lv_iload hx hb dX11_glass_159 (lv_at hl 0 rfl) ?_
                      have hPc := hP.sub (ws' := [(a0, .inr (11, [.ref a1, .ref a2, .ref a3, .ref a4, .ref a5, .ref a6, .ref a7, .ref a8, .ref a9, .ref a10, .int 0, .int 0, .int (-1), .ref a11, .int 0, .ref a12, .int 0]))]) [0] rfl
                      have hDc := hD.sub (ws' := [(a0, .inr (11, [.ref a1, .ref a2, .ref a3, .ref a4, .ref a5, .ref a6, .ref a7, .ref a8, .ref a9, .ref a10, .int 0, .int 0, .int (-1), .ref a11, .int 0, .ref a12, .int 0]))]) [0] (by decide) rfl
                      have hFc := va_free (wc := [(a0, .inr (11, [.ref a1, .ref a2, .ref a3, .ref a4, .ref a5, .ref a6, .ref a7, .ref a8, .ref a9, .ref a10, .int 0, .int 0, .int (-1), .ref a11, .int 0, .ref a12, .int 0]))]) hD hS hA [0] rfl
                      refine va_calli (va_runV (As := [.int 0]) (rest := []) ⟨hx, hb, hml, hown, hts⟩ (kX11_done_2 l G a0 a1 a2 a3 a4 a5 a6 a7 a8 a9 a10 a11 a12 H.size) (cwV 1 hts gV_X11_121 rfl rfl rfl hv_X11_done ⟨Nat.le_of_ble_eq_true rfl, Nat.le_of_ble_eq_true rfl⟩) (g5_preV hPc hK hDc hN hT hS hFc (ci := 11) (q0 := 0) rfl rfl) rfl rfl hl.1 rfl (lv_room (Nat.le_of_ble_eq_true rfl)) dX11_glass_161 ⟨Nat.le_of_ble_eq_true rfl, Nat.le_of_ble_eq_true rfl⟩) hS (fun q _ h => hFc q h) hFc (fun r u t H1 locs ht hvm hw hB hz1 hk1 hS => ?_)
                      obtain ⟨hP1, hD1⟩ := hB
                      rw [ht] at hP1
                      obtain ⟨rfl, rfl⟩ := hw
                      obtain ⟨hP, hD⟩ := va_join (wr := [(a12, .inl (G.2 0, 5, .inl (fun _ => 0))), (a1, .inr (1, [.long 0, .int 1000, .int (-1), .int (-1), .int 0, .ref a13, .ref a14, .ref a15, .ref a16, .ref a17, .ref a18, .long ((1 : Int64) <<< (n0.toInt64 &&& 63)), .ref a19])), (a17, .inr (6, [.int 8, .int 5, .ref a20, .int 0])), (a21, .inl (G.2 0, 30, .inl (upd (upd (upd (upd (upd (upd (upd (upd (upd (fun _ => 0) 0 0) 1 0) 2 0) 3 0) 4 0) 0 n0) 1 n1) 2 n2) 3 n3))), (a14, .inr (6, [.int 6, .int 5, .ref a21, .int 1]))]) (w1 := [(a0, .inr (11, [.ref a1, .ref a2, .ref a3, .ref a4, .ref a5, .ref a6, .ref a7, .ref a8, .ref a9, .ref a10, .int 0, .int 0, .int (-1), .ref a11, .int 0, .ref a12, .int 0]))]) hP hD [0] [1, 2, 3, 4, 5] rfl rfl (by decide) (by decide) hk1 hFc hP1 hD1
                      generalize H1 = H at hP hS ⊢
                      have hP : va_P G.1 vwCl [(a12, .inl (G.2 0, 5, .inl (fun _ => 0))), (a1, .inr (1, [.long 0, .int 1000, .int (-1), .int (-1), .int 0, .ref a13, .ref a14, .ref a15, .ref a16, .ref a17, .ref a18, .long ((1 : Int64) <<< (n0.toInt64 &&& 63)), .ref a19])), (a17, .inr (6, [.int 8, .int 5, .ref a20, .int 0])), (a21, .inl (G.2 0, 30, .inl (upd (upd (upd (upd (upd (upd (upd (upd (upd (fun _ => 0) 0 0) 1 0) 2 0) 3 0) 4 0) 0 n0) 1 n1) 2 n2) 3 n3))), (a14, .inr (6, [.int 6, .int 5, .ref a21, .int 1])), (a0, .inr (11, [.ref a1, .ref a2, .ref a3, .ref a4, .ref a5, .ref a6, .ref a7, .ref a8, .ref a9, .ref a10, .int 0, .int 0, .int (-1), .ref a11, .int 0, .ref a12, .int 0]))] H := hP
                      have hD : va_D A [(a12, .inl (G.2 0, 5, .inl (fun _ => 0))), (a1, .inr (1, [.long 0, .int 1000, .int (-1), .int (-1), .int 0, .ref a13, .ref a14, .ref a15, .ref a16, .ref a17, .ref a18, .long ((1 : Int64) <<< (n0.toInt64 &&& 63)), .ref a19])), (a17, .inr (6, [.int 8, .int 5, .ref a20, .int 0])), (a21, .inl (G.2 0, 30, .inl (upd (upd (upd (upd (upd (upd (upd (upd (upd (fun _ => 0) 0 0) 1 0) 2 0) 3 0) 4 0) 0 n0) 1 n1) 2 n2) 3 n3))), (a14, .inr (6, [.int 6, .int 5, .ref a21, .int 1])), (a0, .inr (11, [.ref a1, .ref a2, .ref a3, .ref a4, .ref a5, .ref a6, .ref a7, .ref a8, .ref a9, .ref a10, .int 0, .int 0, .int (-1), .ref a11, .int 0, .ref a12, .int 0]))] := hD
                      have hP := hP.sub (ws' := []) [] rfl
                      have hD := hD.sub (ws' := []) [] (by decide) rfl
                      exact W.iret (v := 0) hx hb hr (fun t ht hW => ⟨⟨0, [], rfl, Or.inr (Or.inr (Or.inr (Or.inr (Or.inr (Or.inr (Or.inr (Or.inr (⟨i_4, i_5, i_12, i_13, i_20, i_21, i_28, i_29, rfl, rfl⟩)))))))), by rw [ht]; exact hP, hD⟩, hS.F ht⟩) hS.2.2 dX11_glass_164
                    ·
                      exact absurd c_34 (by decide)
                  ·
                    exact absurd c_33 (by decide)
                ·
                  exact absurd c_32 (by decide)
theorem ki_X11_357 : Cond.constant RX11 357 16777216 ∈ tblG := tg 573 (by decide +kernel) (by decide +kernel)
theorem dX11_isTurn_0 : decode cX11_isTurn 0 = .ok (.iload_n 0, 1) := by decide +kernel
theorem dX11_isTurn_1 : decode cX11_isTurn 1 = .ok (.iconst 1, 1) := by decide +kernel
theorem dX11_isTurn_2 : decode cX11_isTurn 2 = .ok (.iadd, 1) := by decide +kernel
theorem dX11_isTurn_3 : decode cX11_isTurn 3 = .ok (.tableswitch 61 1 4 #[29, 34, 39, 44], 29) := by decide +kernel
theorem dX11_isTurn_32 : decode cX11_isTurn 32 = .ok (.iload_n 1, 1) := by decide +kernel
theorem dX11_isTurn_33 : decode cX11_isTurn 33 = .ok (.invokestatic 124, 3) := by decide +kernel
theorem dX11_isTurn_36 : decode cX11_isTurn 36 = .ok (.ireturn, 1) := by decide +kernel
theorem dX11_isTurn_37 : decode cX11_isTurn 37 = .ok (.iload_n 1, 1) := by decide +kernel
theorem dX11_isTurn_38 : decode cX11_isTurn 38 = .ok (.invokestatic 127, 3) := by decide +kernel
theorem dX11_isTurn_41 : decode cX11_isTurn 41 = .ok (.ireturn, 1) := by decide +kernel
theorem dX11_isTurn_42 : decode cX11_isTurn 42 = .ok (.iload_n 1, 1) := by decide +kernel
theorem dX11_isTurn_43 : decode cX11_isTurn 43 = .ok (.invokestatic 130, 3) := by decide +kernel
theorem dX11_isTurn_46 : decode cX11_isTurn 46 = .ok (.ireturn, 1) := by decide +kernel
theorem dX11_isTurn_47 : decode cX11_isTurn 47 = .ok (.iload_n 1, 1) := by decide +kernel
theorem dX11_isTurn_48 : decode cX11_isTurn 48 = .ok (.ifCond .lt 14, 3) := by decide +kernel
theorem dX11_isTurn_51 : decode cX11_isTurn 51 = .ok (.iload_n 1, 1) := by decide +kernel
theorem dX11_isTurn_52 : decode cX11_isTurn 52 = .ok (.ldc_w 357, 3) := by decide +kernel
theorem dX11_isTurn_55 : decode cX11_isTurn 55 = .ok (.if_icmp .ge 7, 3) := by decide +kernel
theorem dX11_isTurn_58 : decode cX11_isTurn 58 = .ok (.iconst 1, 1) := by decide +kernel
theorem dX11_isTurn_59 : decode cX11_isTurn 59 = .ok (.goto 4, 3) := by decide +kernel
theorem dX11_isTurn_62 : decode cX11_isTurn 62 = .ok (.iconst 0, 1) := by decide +kernel
theorem dX11_isTurn_63 : decode cX11_isTurn 63 = .ok (.ireturn, 1) := by decide +kernel
theorem dX11_isTurn_64 : decode cX11_isTurn 64 = .ok (.iconst 0, 1) := by decide +kernel
theorem dX11_isTurn_65 : decode cX11_isTurn 65 = .ok (.ireturn, 1) := by decide +kernel
set_option maxHeartbeats 4000000 in
set_option maxRecDepth 100000 in
theorem kX11_isTurn (l : Launch) (G : g5_G) (sz : Nat) (n0 : Int32) (n1 : Int32) : Met l yX11_isTurn (wsG yX11_isTurn cX11_isTurn 2 (some .boolean)) ({ frames := 1, cells := 0, slots := 0, locals := 20 }) (va_Pc [.int n0, .int n1] (g5_P G [] sz)) (va_Qi (fun (r : Int32) (u : va_W) => (((n0 + 1).toInt = 1) ∧ (n1.toInt < 0) ∧ (r = 0) ∧ (u = [])) ∨ (((n0 + 1).toInt = 1) ∧ (n1.toInt ≥ 0) ∧ (n1.toInt ≥ 6) ∧ (r = 0) ∧ (u = [])) ∨ (((n0 + 1).toInt = 1) ∧ (n1.toInt ≥ 0) ∧ (n1.toInt < 6) ∧ (r = 1) ∧ (u = [])) ∨ (((n0 + 1).toInt = 2) ∧ (n1.toInt < 0) ∧ (r = 0) ∧ (u = [])) ∨ (((n0 + 1).toInt = 2) ∧ (n1.toInt ≥ 0) ∧ (n1.toInt ≥ 24) ∧ (r = 0) ∧ (u = [])) ∨ (((n0 + 1).toInt = 2) ∧ (n1.toInt ≥ 0) ∧ (n1.toInt < 24) ∧ (r = 1) ∧ (u = [])) ∨ (((n0 + 1).toInt = 3) ∧ (n1.toInt < 0) ∧ (r = 0) ∧ (u = [])) ∨ (((n0 + 1).toInt = 3) ∧ (n1.toInt ≥ 0) ∧ (n1.toInt > 10) ∧ (r = 0) ∧ (u = [])) ∨ (((n0 + 1).toInt = 3) ∧ (n1.toInt ≥ 0) ∧ (n1.toInt ≤ 10) ∧ (r = 1) ∧ (u = [])) ∨ (((n0 + 1).toInt = 4) ∧ (n1.toInt < 0) ∧ (r = 0) ∧ (u = [])) ∨ (((n0 + 1).toInt = 4) ∧ (n1.toInt ≥ 0) ∧ (n1.toInt ≥ 16777216) ∧ (r = 0) ∧ (u = [])) ∨ (((n0 + 1).toInt = 4) ∧ (n1.toInt ≥ 0) ∧ (n1.toInt < 16777216) ∧ (r = 1) ∧ (u = [])) ∨ (((n0 + 1).toInt < 1) ∧ (r = 0) ∧ (u = [])) ∨ (((n0 + 1).toInt > 4) ∧ (r = 0) ∧ (u = []))) (g5_B G (va_A [] sz)) (va_A [] sz)) 0 0 (va_A [] sz) := by
  refine Met.ofW (cc := cX11_isTurn) (maxL := 2) (ret := (some .boolean)) (by decide) rfl ?_
  intro p e s m args below meth c s₁ B hml hv
  obtain ⟨rfl, hsz, hP, hK, hD0, hN, hT⟩ := hv
  have hx := B.exec
  have hb := B.bytes
  have hr := B.returns
  have hts : ∀ w ∈ tblG, w.before _ s = true := fun w h => atoms_spec (ws := (wsG yX11_isTurn cX11_isTurn 2 (some .boolean))) B.pre w (List.mem_cons_of_mem _ h)
  have hown : s.vm.findClass RX11 = some m.cls := findClass_of_methodNamed B.named
  have hlocks := B.notSynchronized
  subst hsz
  have hD := hD0.self (sz := s.heap.size)
  generalize hAe : va_A [] s.heap.size = A at hD hT ⊢
  have hA : ∀ q : Nat, s.heap.size ≤ q → A q := fun q h => by rw [← hAe]; exact Or.inr h
  have hS : va_S A s.heap s.heap [] := va_S.rf
  have hP : va_P G.1 vwCl [] s.heap := hP
  have hl := lv_entry ([.int n0, .int n1]) (n := 2) (Nat.le_of_ble_eq_true rfl)
  rw [lg_entry_eq]
  generalize (lg_sl ([.int n0, .int n1]) ++ List.replicate (2 - (lg_sl ([.int n0, .int n1])).length) Slot.unset).toArray = ls at hl ⊢
  have hl : lv_has ls 2 [(0, .int n0), (1, .int n1)] := hl
  refine lv_iload_n hx hb dX11_isTurn_0 rfl (lv_at hl 0 rfl) ?_
  refine lv_iconst (v := 1) hx hb dX11_isTurn_1 (by decide) ?_
  refine lv_iadd hx hb dX11_isTurn_2 ?_
  rcases (show (n0 + 1).toInt = 1 ∨ (n0 + 1).toInt = 2 ∨ (n0 + 1).toInt = 3 ∨ (n0 + 1).toInt = 4 ∨ (n0 + 1).toInt < 1 ∨ (n0 + 1).toInt > 4 by omega) with s_1 | s_1 | s_1 | s_1 | s_1 | s_1
  ·
    have i_1 : (n0 + 1).toInt = 1 := by omega
    refine lv_tableIn (tgt := 32) hx hb dX11_isTurn_3 (by omega) (by omega) (by rw [s_1]; rfl) (by decide) ?_
    refine lv_iload_n hx hb dX11_isTurn_32 rfl (lv_at hl 1 rfl) ?_
    have hPc := hP.sub (ws' := []) [] rfl
    have hDc := hD.sub (ws' := []) [] (by decide) rfl
    have hFc := va_free (wc := []) hD hS hA [] rfl
    refine va_calli (va_runS (As := [.int n1]) (rest := []) ⟨hx, hb, hml, hown, hts⟩ (kX11_isSort l G s.heap.size n1) (va_cwS 1 hts gS_X11_124 rfl rfl rfl hs_X11_isSort ⟨Nat.le_of_ble_eq_true rfl, Nat.le_of_ble_eq_true rfl⟩) (g5_preS hPc hK hDc hN hT hS hFc) rfl rfl hl.1 rfl (lv_room (Nat.le_of_ble_eq_true rfl)) dX11_isTurn_33 ⟨Nat.le_of_ble_eq_true rfl, Nat.le_of_ble_eq_true rfl⟩) hS (fun q _ h => hFc q h) hFc (fun r u t H1 locs ht hvm hw hB hz1 hk1 hS => ?_)
    obtain ⟨hP1, hD1⟩ := hB
    rw [ht] at hP1
    rcases hw with ⟨i_2, rfl, rfl⟩ | ⟨i_3, i_4, rfl, rfl⟩ | ⟨i_5, i_6, rfl, rfl⟩
    ·
      have hP := g5_same hP hk1
      generalize H1 = H at hP hS ⊢
      exact W.zret (v := 0) hx hb hr rfl (fun t ht hW => ⟨⟨0, [], rfl, Or.inl (⟨i_1, i_2, rfl, rfl⟩), by rw [ht]; exact hP, hD⟩, hS.F ht⟩) hS.2.2 dX11_isTurn_36
    ·
      have hP := g5_same hP hk1
      generalize H1 = H at hP hS ⊢
      exact W.zret (v := 0) hx hb hr rfl (fun t ht hW => ⟨⟨0, [], rfl, Or.inr (Or.inl (⟨i_1, i_3, i_4, rfl, rfl⟩)), by rw [ht]; exact hP, hD⟩, hS.F ht⟩) hS.2.2 dX11_isTurn_36
    ·
      have hP := g5_same hP hk1
      generalize H1 = H at hP hS ⊢
      exact W.zret (v := 1) hx hb hr rfl (fun t ht hW => ⟨⟨1, [], rfl, Or.inr (Or.inr (Or.inl (⟨i_1, i_5, i_6, rfl, rfl⟩))), by rw [ht]; exact hP, hD⟩, hS.F ht⟩) hS.2.2 dX11_isTurn_36
  ·
    have i_1 : (n0 + 1).toInt = 2 := by omega
    refine lv_tableIn (tgt := 37) hx hb dX11_isTurn_3 (by omega) (by omega) (by rw [s_1]; rfl) (by decide) ?_
    refine lv_iload_n hx hb dX11_isTurn_37 rfl (lv_at hl 1 rfl) ?_
    have hPc := hP.sub (ws' := []) [] rfl
    have hDc := hD.sub (ws' := []) [] (by decide) rfl
    have hFc := va_free (wc := []) hD hS hA [] rfl
    refine va_calli (va_runS (As := [.int n1]) (rest := []) ⟨hx, hb, hml, hown, hts⟩ (kX11_isHour_2 l G s.heap.size n1) (va_cwS 1 hts gS_X11_127 rfl rfl rfl hs_X11_isHour ⟨Nat.le_of_ble_eq_true rfl, Nat.le_of_ble_eq_true rfl⟩) (g5_preS hPc hK hDc hN hT hS hFc) rfl rfl hl.1 rfl (lv_room (Nat.le_of_ble_eq_true rfl)) dX11_isTurn_38 ⟨Nat.le_of_ble_eq_true rfl, Nat.le_of_ble_eq_true rfl⟩) hS (fun q _ h => hFc q h) hFc (fun r u t H1 locs ht hvm hw hB hz1 hk1 hS => ?_)
    obtain ⟨hP1, hD1⟩ := hB
    rw [ht] at hP1
    rcases hw with ⟨i_7, rfl, rfl⟩ | ⟨i_8, i_9, rfl, rfl⟩ | ⟨i_10, i_11, rfl, rfl⟩
    ·
      have hP := g5_same hP hk1
      generalize H1 = H at hP hS ⊢
      exact W.zret (v := 0) hx hb hr rfl (fun t ht hW => ⟨⟨0, [], rfl, Or.inr (Or.inr (Or.inr (Or.inl (⟨i_1, i_7, rfl, rfl⟩)))), by rw [ht]; exact hP, hD⟩, hS.F ht⟩) hS.2.2 dX11_isTurn_41
    ·
      have hP := g5_same hP hk1
      generalize H1 = H at hP hS ⊢
      exact W.zret (v := 0) hx hb hr rfl (fun t ht hW => ⟨⟨0, [], rfl, Or.inr (Or.inr (Or.inr (Or.inr (Or.inl (⟨i_1, i_8, i_9, rfl, rfl⟩))))), by rw [ht]; exact hP, hD⟩, hS.F ht⟩) hS.2.2 dX11_isTurn_41
    ·
      have hP := g5_same hP hk1
      generalize H1 = H at hP hS ⊢
      exact W.zret (v := 1) hx hb hr rfl (fun t ht hW => ⟨⟨1, [], rfl, Or.inr (Or.inr (Or.inr (Or.inr (Or.inr (Or.inl (⟨i_1, i_10, i_11, rfl, rfl⟩)))))), by rw [ht]; exact hP, hD⟩, hS.F ht⟩) hS.2.2 dX11_isTurn_41
  ·
    have i_1 : (n0 + 1).toInt = 3 := by omega
    refine lv_tableIn (tgt := 42) hx hb dX11_isTurn_3 (by omega) (by omega) (by rw [s_1]; rfl) (by decide) ?_
    refine lv_iload_n hx hb dX11_isTurn_42 rfl (lv_at hl 1 rfl) ?_
    have hPc := hP.sub (ws' := []) [] rfl
    have hDc := hD.sub (ws' := []) [] (by decide) rfl
    have hFc := va_free (wc := []) hD hS hA [] rfl
    refine va_calli (va_runS (As := [.int n1]) (rest := []) ⟨hx, hb, hml, hown, hts⟩ (kX11_isDust l G s.heap.size n1) (va_cwS 1 hts gS_X11_130 rfl rfl rfl hs_X11_isDust ⟨Nat.le_of_ble_eq_true rfl, Nat.le_of_ble_eq_true rfl⟩) (g5_preS hPc hK hDc hN hT hS hFc) rfl rfl hl.1 rfl (lv_room (Nat.le_of_ble_eq_true rfl)) dX11_isTurn_43 ⟨Nat.le_of_ble_eq_true rfl, Nat.le_of_ble_eq_true rfl⟩) hS (fun q _ h => hFc q h) hFc (fun r u t H1 locs ht hvm hw hB hz1 hk1 hS => ?_)
    obtain ⟨hP1, hD1⟩ := hB
    rw [ht] at hP1
    rcases hw with ⟨i_12, rfl, rfl⟩ | ⟨i_13, i_14, rfl, rfl⟩ | ⟨i_15, i_16, rfl, rfl⟩
    ·
      have hP := g5_same hP hk1
      generalize H1 = H at hP hS ⊢
      exact W.zret (v := 0) hx hb hr rfl (fun t ht hW => ⟨⟨0, [], rfl, Or.inr (Or.inr (Or.inr (Or.inr (Or.inr (Or.inr (Or.inl (⟨i_1, i_12, rfl, rfl⟩))))))), by rw [ht]; exact hP, hD⟩, hS.F ht⟩) hS.2.2 dX11_isTurn_46
    ·
      have hP := g5_same hP hk1
      generalize H1 = H at hP hS ⊢
      exact W.zret (v := 0) hx hb hr rfl (fun t ht hW => ⟨⟨0, [], rfl, Or.inr (Or.inr (Or.inr (Or.inr (Or.inr (Or.inr (Or.inr (Or.inl (⟨i_1, i_13, i_14, rfl, rfl⟩)))))))), by rw [ht]; exact hP, hD⟩, hS.F ht⟩) hS.2.2 dX11_isTurn_46
    ·
      have hP := g5_same hP hk1
      generalize H1 = H at hP hS ⊢
      exact W.zret (v := 1) hx hb hr rfl (fun t ht hW => ⟨⟨1, [], rfl, Or.inr (Or.inr (Or.inr (Or.inr (Or.inr (Or.inr (Or.inr (Or.inr (Or.inl (⟨i_1, i_15, i_16, rfl, rfl⟩))))))))), by rw [ht]; exact hP, hD⟩, hS.F ht⟩) hS.2.2 dX11_isTurn_46
  ·
    have i_1 : (n0 + 1).toInt = 4 := by omega
    refine lv_tableIn (tgt := 47) hx hb dX11_isTurn_3 (by omega) (by omega) (by rw [s_1]; rfl) (by decide) ?_
    refine lv_iload_n hx hb dX11_isTurn_47 rfl (lv_at hl 1 rfl) ?_
    refine lv_if_lt (tgt := 62) hx hb dX11_isTurn_48 (by decide) (fun c_17 => ?_) (fun c_17 => ?_)
    ·
      have i_17 : n1.toInt < 0 := by have z := g5_lt (a := n1.toInt) (b := 0) (by rfl) (by decide) c_17; omega
      refine lv_iconst (v := 0) hx hb dX11_isTurn_62 (by decide) ?_
      exact W.zret (v := 0) hx hb hr rfl (fun t ht hW => ⟨⟨0, [], rfl, Or.inr (Or.inr (Or.inr (Or.inr (Or.inr (Or.inr (Or.inr (Or.inr (Or.inr (Or.inl (⟨i_1, i_17, rfl, rfl⟩)))))))))), by rw [ht]; exact hP, hD⟩, hS.F ht⟩) hS.2.2 dX11_isTurn_63
    ·
      have i_17 : n1.toInt ≥ 0 := by have z := g5_ltN (a := n1.toInt) (b := 0) (by rfl) (by decide) c_17; omega
      refine lv_iload_n hx hb dX11_isTurn_51 rfl (lv_at hl 1 rfl) ?_
      refine lv_ldcw (v := 16777216) hx hb hown (hts _ ki_X11_357) dX11_isTurn_52 ?_
      refine lv_icmp_ge (tgt := 62) hx hb dX11_isTurn_55 (by decide) (fun c_18 => ?_) (fun c_18 => ?_)
      ·
        have i_18 : n1.toInt ≥ 16777216 := by have z := g5_ge (a := n1.toInt) (b := 16777216) (by rfl) (by decide) c_18; omega
        refine lv_iconst (v := 0) hx hb dX11_isTurn_62 (by decide) ?_
        exact W.zret (v := 0) hx hb hr rfl (fun t ht hW => ⟨⟨0, [], rfl, Or.inr (Or.inr (Or.inr (Or.inr (Or.inr (Or.inr (Or.inr (Or.inr (Or.inr (Or.inr (Or.inl (⟨i_1, i_17, i_18, rfl, rfl⟩))))))))))), by rw [ht]; exact hP, hD⟩, hS.F ht⟩) hS.2.2 dX11_isTurn_63
      ·
        have i_18 : n1.toInt < 16777216 := by have z := g5_geN (a := n1.toInt) (b := 16777216) (by rfl) (by decide) c_18; omega
        refine lv_iconst (v := 1) hx hb dX11_isTurn_58 (by decide) ?_
        refine lv_goto (tgt := 63) hx hb dX11_isTurn_59 (by decide) ?_
        exact W.zret (v := 1) hx hb hr rfl (fun t ht hW => ⟨⟨1, [], rfl, Or.inr (Or.inr (Or.inr (Or.inr (Or.inr (Or.inr (Or.inr (Or.inr (Or.inr (Or.inr (Or.inr (Or.inl (⟨i_1, i_17, i_18, rfl, rfl⟩)))))))))))), by rw [ht]; exact hP, hD⟩, hS.F ht⟩) hS.2.2 dX11_isTurn_63
  ·
    have i_1 : (n0 + 1).toInt < 1 := by omega
    refine lv_tableOut (tgt := 64) hx hb dX11_isTurn_3 (by omega) (by decide) ?_
    refine lv_iconst (v := 0) hx hb dX11_isTurn_64 (by decide) ?_
    exact W.zret (v := 0) hx hb hr rfl (fun t ht hW => ⟨⟨0, [], rfl, Or.inr (Or.inr (Or.inr (Or.inr (Or.inr (Or.inr (Or.inr (Or.inr (Or.inr (Or.inr (Or.inr (Or.inr (Or.inl (⟨i_1, rfl, rfl⟩))))))))))))), by rw [ht]; exact hP, hD⟩, hS.F ht⟩) hS.2.2 dX11_isTurn_65
  ·
    have i_1 : (n0 + 1).toInt > 4 := by omega
    refine lv_tableOut (tgt := 64) hx hb dX11_isTurn_3 (by omega) (by decide) ?_
    refine lv_iconst (v := 0) hx hb dX11_isTurn_64 (by decide) ?_
    exact W.zret (v := 0) hx hb hr rfl (fun t ht hW => ⟨⟨0, [], rfl, Or.inr (Or.inr (Or.inr (Or.inr (Or.inr (Or.inr (Or.inr (Or.inr (Or.inr (Or.inr (Or.inr (Or.inr (Or.inr (⟨i_1, rfl, rfl⟩))))))))))))), by rw [ht]; exact hP, hD⟩, hS.F ht⟩) hS.2.2 dX11_isTurn_65
theorem ml_X11_156 : Cond.methodLink RX11 156 yX11_isTurn ∈ tblG := tg 570 (by decide +kernel) (by decide +kernel)
theorem st_X11_isTurn : Cond.static yX11_isTurn ∈ tblG := tg 571 (by decide +kernel) (by decide +kernel)
theorem cd_X11_isTurn : Cond.code yX11_isTurn cX11_isTurn 2 (some .boolean) ∈ tblG := tg 572 (by decide +kernel) (by decide +kernel)
theorem gW_X11_isTurn : GoodIn tblG (wsG yX11_isTurn cX11_isTurn 2 (some .boolean)) := tgi cd_X11_isTurn
theorem gS_X11_156 : GoodIn tblG (va_wsS RX11 156 yX11_isTurn (wsG yX11_isTurn cX11_isTurn 2 (some .boolean))) := tgS ml_X11_156 st_X11_isTurn ini_X11 gW_X11_isTurn
theorem hs_X11_isTurn : yX11_isTurn.cls ≠ "java/lang/invoke/MethodHandle" ∧ yX11_isTurn.cls ≠ "java/lang/invoke/VarHandle" ∧ (parseMethodDescriptor yX11_isTurn.desc).map (fun d => d.parameters.length) = some 2 := by decide +kernel
set_option maxHeartbeats 4000000 in
set_option maxRecDepth 100000 in
theorem kX6_has_2 (l : Launch) (G : g5_G) (a0 a1 : Nat) (sz : Nat) (n0 : Int32) : Met l yX6_has (wsG yX6_has cX6_has 2 (some .boolean)) ({ frames := 0, cells := 0, slots := 0, locals := 0 }) (va_Pc [.ref a0, .int n0] (g5_P G [(a0, .inr (6, [.int 6, .int 5, .ref a1, .int 0]))] sz)) (va_Qi (fun (r : Int32) (u : va_W) => ((n0.toInt < 0) ∧ (r = 0) ∧ (u = [(a0, .inr (6, [.int 6, .int 5, .ref a1, .int 0]))])) ∨ ((n0.toInt ≥ 0) ∧ (n0.toInt ≥ 0) ∧ (r = 0) ∧ (u = [(a0, .inr (6, [.int 6, .int 5, .ref a1, .int 0]))]))) (g5_B G (va_A [(a0, .inr (6, [.int 6, .int 5, .ref a1, .int 0]))] sz)) (va_A [(a0, .inr (6, [.int 6, .int 5, .ref a1, .int 0]))] sz)) 0 0 (va_A [(a0, .inr (6, [.int 6, .int 5, .ref a1, .int 0]))] sz) := by
  refine Met.ofW (cc := cX6_has) (maxL := 2) (ret := (some .boolean)) (by decide) rfl ?_
  intro p e s m args below meth c s₁ B hml hv
  obtain ⟨rfl, hsz, hP, hK, hD0, hN, hT⟩ := hv
  have hx := B.exec
  have hb := B.bytes
  have hr := B.returns
  have hts : ∀ w ∈ tblG, w.before _ s = true := fun w h => atoms_spec (ws := (wsG yX6_has cX6_has 2 (some .boolean))) B.pre w (List.mem_cons_of_mem _ h)
  have hown : s.vm.findClass RX6 = some m.cls := findClass_of_methodNamed B.named
  have hlocks := B.notSynchronized
  subst hsz
  have hD := hD0.self (sz := s.heap.size)
  generalize hAe : va_A [(a0, .inr (6, [.int 6, .int 5, .ref a1, .int 0]))] s.heap.size = A at hD hT ⊢
  have hA : ∀ q : Nat, s.heap.size ≤ q → A q := fun q h => by rw [← hAe]; exact Or.inr h
  have hS : va_S A s.heap s.heap [] := va_S.rf
  have hP : va_P G.1 vwCl [(a0, .inr (6, [.int 6, .int 5, .ref a1, .int 0]))] s.heap := hP
  have hl := lv_entry ([.ref a0, .int n0]) (n := 2) (Nat.le_of_ble_eq_true rfl)
  rw [lg_entry_eq]
  generalize (lg_sl ([.ref a0, .int n0]) ++ List.replicate (2 - (lg_sl ([.ref a0, .int n0])).length) Slot.unset).toArray = ls at hl ⊢
  have hl : lv_has ls 2 [(0, .ref a0), (1, .int n0)] := hl
  refine lv_iload_n hx hb dX6_has_0 rfl (lv_at hl 1 rfl) ?_
  refine lv_if_lt (tgt := 16) hx hb dX6_has_1 (by decide) (fun c_1 => ?_) (fun c_1 => ?_)
  ·
    have i_1 : n0.toInt < 0 := by have z := g5_lt (a := n0.toInt) (b := 0) (by rfl) (by decide) c_1; omega
    refine lv_iconst (v := 0) hx hb dX6_has_16 (by decide) ?_
    exact W.zret (v := 0) hx hb hr rfl (fun t ht hW => ⟨⟨0, [(a0, .inr (6, [.int 6, .int 5, .ref a1, .int 0]))], rfl, Or.inl (⟨i_1, rfl, rfl⟩), by rw [ht]; exact hP, hD⟩, hS.F ht⟩) hS.2.2 dX6_has_17
  ·
    have i_1 : n0.toInt ≥ 0 := by have z := g5_ltN (a := n0.toInt) (b := 0) (by rfl) (by decide) c_1; omega
    refine lv_iload_n hx hb dX6_has_4 rfl (lv_at hl 1 rfl) ?_
    refine lv_aload_n hx hb dX6_has_5 rfl (lv_at hl 0 rfl) ?_
    refine va_get (D := G.1) (ci := 6) (v := .int 0) (C := RX6) (T := TX6) (N := 4) hx hb hts inG_X6 hown hK hP 0 rfl rfl 3 (by decide) (hts _ fl_X6_9) (fun _ h9 => h9) rfl dX6_has_6 ?_
    refine lv_icmp_ge (tgt := 16) hx hb dX6_has_9 (by decide) (fun c_2 => ?_) (fun c_2 => ?_)
    ·
      have i_2 : n0.toInt ≥ 0 := by have z := g5_ge (a := n0.toInt) (b := 0) (by rfl) (by decide) c_2; omega
      refine lv_iconst (v := 0) hx hb dX6_has_16 (by decide) ?_
      exact W.zret (v := 0) hx hb hr rfl (fun t ht hW => ⟨⟨0, [(a0, .inr (6, [.int 6, .int 5, .ref a1, .int 0]))], rfl, Or.inr (⟨i_1, i_2, rfl, rfl⟩), by rw [ht]; exact hP, hD⟩, hS.F ht⟩) hS.2.2 dX6_has_17
    ·
      have i_2 : n0.toInt < 0 := by have z := g5_geN (a := n0.toInt) (b := 0) (by rfl) (by decide) c_2; omega
      omega
theorem ml_X11_160 : Cond.methodLink RX11 160 yX6_has ∈ tblG := tg 574 (by decide +kernel) (by decide +kernel)
theorem gV_X11_160 : GoodIn tblG (wsV RX11 160 RX6 yX6_has (wsG yX6_has cX6_has 2 (some .boolean))) := tgV ml_X11_160 im_X6_has se_X6_has ini_X6 gW_X6_has
set_option maxHeartbeats 4000000 in
set_option maxRecDepth 100000 in
theorem kX11_refuse_2 (l : Launch) (G : g5_G) (a0 a1 a2 a3 a4 a5 a6 a7 a8 a9 a10 a11 a12 : Nat) (sz : Nat) : Met l yX11_refuse (wsG yX11_refuse cX11_refuse 3 (some .int)) ({ frames := 0, cells := 0, slots := 0, locals := 0 }) (va_Pc [.ref a0, .int (-2)] (g5_P G [(a0, .inr (11, [.ref a1, .ref a2, .ref a3, .ref a4, .ref a5, .ref a6, .ref a7, .ref a8, .ref a9, .ref a10, .int 0, .int 0, .int (-1), .ref a11, .int 0, .ref a12, .int 0])), (a12, .inl (G.2 0, 5, .inl (fun _ => 0)))] sz)) (va_Qi (fun (r : Int32) (u : va_W) => ((r = (-2)) ∧ (u = [(a0, .inr (11, [.ref a1, .ref a2, .ref a3, .ref a4, .ref a5, .ref a6, .ref a7, .ref a8, .ref a9, .ref a10, .int 0, .int 0, .int (-1), .ref a11, .int 0, .ref a12, .int (-2)])), (a12, .inl (G.2 0, 5, .inl (upd (fun _ => 0) 1 1)))]))) (g5_B G (va_A [(a0, .inr (11, [.ref a1, .ref a2, .ref a3, .ref a4, .ref a5, .ref a6, .ref a7, .ref a8, .ref a9, .ref a10, .int 0, .int 0, .int (-1), .ref a11, .int 0, .ref a12, .int 0])), (a12, .inl (G.2 0, 5, .inl (fun _ => 0)))] sz)) (va_A [(a0, .inr (11, [.ref a1, .ref a2, .ref a3, .ref a4, .ref a5, .ref a6, .ref a7, .ref a8, .ref a9, .ref a10, .int 0, .int 0, .int (-1), .ref a11, .int 0, .ref a12, .int 0])), (a12, .inl (G.2 0, 5, .inl (fun _ => 0)))] sz)) 0 0 (va_A [(a0, .inr (11, [.ref a1, .ref a2, .ref a3, .ref a4, .ref a5, .ref a6, .ref a7, .ref a8, .ref a9, .ref a10, .int 0, .int 0, .int (-1), .ref a11, .int 0, .ref a12, .int 0])), (a12, .inl (G.2 0, 5, .inl (fun _ => 0)))] sz) := by
  refine Met.ofW (cc := cX11_refuse) (maxL := 3) (ret := (some .int)) (by decide) rfl ?_
  intro p e s m args below meth c s₁ B hml hv
  obtain ⟨rfl, hsz, hP, hK, hD0, hN, hT⟩ := hv
  have hx := B.exec
  have hb := B.bytes
  have hr := B.returns
  have hts : ∀ w ∈ tblG, w.before _ s = true := fun w h => atoms_spec (ws := (wsG yX11_refuse cX11_refuse 3 (some .int))) B.pre w (List.mem_cons_of_mem _ h)
  have hown : s.vm.findClass RX11 = some m.cls := findClass_of_methodNamed B.named
  have hlocks := B.notSynchronized
  subst hsz
  have hD := hD0.self (sz := s.heap.size)
  generalize hAe : va_A [(a0, .inr (11, [.ref a1, .ref a2, .ref a3, .ref a4, .ref a5, .ref a6, .ref a7, .ref a8, .ref a9, .ref a10, .int 0, .int 0, .int (-1), .ref a11, .int 0, .ref a12, .int 0])), (a12, .inl (G.2 0, 5, .inl (fun _ => 0)))] s.heap.size = A at hD hT ⊢
  have hA : ∀ q : Nat, s.heap.size ≤ q → A q := fun q h => by rw [← hAe]; exact Or.inr h
  have hS : va_S A s.heap s.heap [] := va_S.rf
  have hP : va_P G.1 vwCl [(a0, .inr (11, [.ref a1, .ref a2, .ref a3, .ref a4, .ref a5, .ref a6, .ref a7, .ref a8, .ref a9, .ref a10, .int 0, .int 0, .int (-1), .ref a11, .int 0, .ref a12, .int 0])), (a12, .inl (G.2 0, 5, .inl (fun _ => 0)))] s.heap := hP
  have hl := lv_entry ([.ref a0, .int (-2)]) (n := 3) (Nat.le_of_ble_eq_true rfl)
  rw [lg_entry_eq]
  generalize (lg_sl ([.ref a0, .int (-2)]) ++ List.replicate (3 - (lg_sl ([.ref a0, .int (-2)])).length) Slot.unset).toArray = ls at hl ⊢
  have hl : lv_has ls 3 [(0, .ref a0), (1, .int (-2))] := hl
  refine lv_aload_n hx hb dX11_refuse_0 rfl (lv_at hl 0 rfl) ?_
  refine lv_iload_n hx hb dX11_refuse_1 rfl (lv_at hl 1 rfl) ?_
  refine va_put (D := G.1) (ci := 11) (v := .int (-2)) (ty := .int) (C := RX11) (T := TX11) (N := 17) hx hb hts inG_X11 tyX11 tyX11_ok nmX11 hown hK hP hD hS 0 rfl rfl 16 (by decide) (hts _ fl_X11_94) (fun _ h9 => h9) rfl (by decide +kernel) rfl rfl (Nat.le_of_ble_eq_true rfl) dX11_refuse_2 (fun H locs hP hD hS => ?_)
  have hP : va_P G.1 vwCl [(a0, .inr (11, [.ref a1, .ref a2, .ref a3, .ref a4, .ref a5, .ref a6, .ref a7, .ref a8, .ref a9, .ref a10, .int 0, .int 0, .int (-1), .ref a11, .int 0, .ref a12, .int (-2)])), (a12, .inl (G.2 0, 5, .inl (fun _ => 0)))] H := hP
  have hD : va_D A [(a0, .inr (11, [.ref a1, .ref a2, .ref a3, .ref a4, .ref a5, .ref a6, .ref a7, .ref a8, .ref a9, .ref a10, .int 0, .int 0, .int (-1), .ref a11, .int 0, .ref a12, .int (-2)])), (a12, .inl (G.2 0, 5, .inl (fun _ => 0)))] := hD
  refine lv_iload_n hx hb dX11_refuse_5 rfl (lv_at hl 1 rfl) ?_
  refine lv_bipush (v := (-3)) hx hb dX11_refuse_6 (by decide) ?_
  refine lv_icmp_lt (tgt := 18) hx hb dX11_refuse_8 (by decide) (fun c_1 => ?_) (fun c_1 => ?_)
  ·
    exact absurd c_1 (by decide)
  ·
    refine lv_iload_n hx hb dX11_refuse_11 rfl (lv_at hl 1 rfl) ?_
    refine lv_ineg hx hb dX11_refuse_12 ?_
    refine g5_ti (v := 2) (by decide) ?_
    refine lv_iconst (v := 1) hx hb dX11_refuse_13 (by decide) ?_
    refine lv_isub hx hb dX11_refuse_14 ?_
    refine g5_ti (v := 1) (by decide) ?_
    refine lv_goto (tgt := 22) hx hb dX11_refuse_15 (by decide) ?_
    refine lv_istore_n (lv' := [(2, .int 1), (0, .ref a0), (1, .int (-2))]) hx hb dX11_refuse_22 rfl hl (by decide) rfl (fun ls hl => ?_)
    refine lv_iload_n hx hb dX11_refuse_23 rfl (lv_at hl 0 rfl) ?_
    refine lv_if_lt (tgt := 46) hx hb dX11_refuse_24 (by decide) (fun c_2 => ?_) (fun c_2 => ?_)
    ·
      exact absurd c_2 (by decide)
    ·
      refine lv_iload_n hx hb dX11_refuse_27 rfl (lv_at hl 0 rfl) ?_
      refine lv_aload_n hx hb dX11_refuse_28 rfl (lv_at hl 1 rfl) ?_
      refine va_get (D := G.1) (ci := 11) (v := .ref a12) (C := RX11) (T := TX11) (N := 17) hx hb hts inG_X11 hown hK hP 0 rfl rfl 15 (by decide) (hts _ fl_X11_91) (fun _ h9 => h9) rfl dX11_refuse_29 ?_
      refine va_alen hx hb hK hP 1 0 rfl rfl (v := 5) (by show Int32.ofNat 5 = 5; decide) dX11_refuse_32 ?_
      refine lv_icmp_ge (tgt := 46) hx hb dX11_refuse_33 (by decide) (fun c_3 => ?_) (fun c_3 => ?_)
      ·
        exact absurd c_3 (by decide)
      ·
        refine lv_aload_n hx hb dX11_refuse_36 rfl (lv_at hl 1 rfl) ?_
        refine va_get (D := G.1) (ci := 11) (v := .ref a12) (C := RX11) (T := TX11) (N := 17) hx hb hts inG_X11 hown hK hP 0 rfl rfl 15 (by decide) (hts _ fl_X11_91) (fun _ h9 => h9) rfl dX11_refuse_37 ?_
        refine lv_iload_n hx hb dX11_refuse_40 rfl (lv_at hl 0 rfl) ?_
        refine lv_dup2_11 hx hb dX11_refuse_41 rfl rfl ?_
        refine va_iald hx hb hK hP 1 0 rfl rfl (i := 1) (by unfold vp_in; decide) dX11_refuse_42 ?_
        refine g5_ti (v := 0) rfl ?_
        refine lv_iconst (v := 1) hx hb dX11_refuse_43 (by decide) ?_
        refine lv_iadd hx hb dX11_refuse_44 ?_
        refine g5_ti (v := 1) (by decide) ?_
        refine va_iast hx hb hK hP hD hS 1 0 rfl rfl (i := 1) (x := 1) (by unfold vp_in; decide) dX11_refuse_45 (fun H locs hP hD hS => ?_)
        have hP : va_P G.1 vwCl [(a0, .inr (11, [.ref a1, .ref a2, .ref a3, .ref a4, .ref a5, .ref a6, .ref a7, .ref a8, .ref a9, .ref a10, .int 0, .int 0, .int (-1), .ref a11, .int 0, .ref a12, .int (-2)])), (a12, .inl (G.2 0, 5, .inl (upd (fun _ => 0) 1 1)))] H := hP
        have hD : va_D A [(a0, .inr (11, [.ref a1, .ref a2, .ref a3, .ref a4, .ref a5, .ref a6, .ref a7, .ref a8, .ref a9, .ref a10, .int 0, .int 0, .int (-1), .ref a11, .int 0, .ref a12, .int (-2)])), (a12, .inl (G.2 0, 5, .inl (upd (fun _ => 0) 1 1)))] := hD
        refine lv_iload_n hx hb dX11_refuse_46 rfl (lv_at hl 2 rfl) ?_
        exact W.iret (v := (-2)) hx hb hr (fun t ht hW => ⟨⟨(-2), [(a0, .inr (11, [.ref a1, .ref a2, .ref a3, .ref a4, .ref a5, .ref a6, .ref a7, .ref a8, .ref a9, .ref a10, .int 0, .int 0, .int (-1), .ref a11, .int 0, .ref a12, .int (-2)])), (a12, .inl (G.2 0, 5, .inl (upd (fun _ => 0) 1 1)))], rfl, ⟨rfl, rfl⟩, by rw [ht]; exact hP, hD⟩, hS.F ht⟩) hS.2.2 dX11_refuse_47
theorem dX11_turn_0 : decode cX11_turn 0 = .ok (.iload_n 2, 1) := by decide +kernel
theorem dX11_turn_1 : decode cX11_turn 1 = .ok (.iload_n 3, 1) := by decide +kernel
theorem dX11_turn_2 : decode cX11_turn 2 = .ok (.invokestatic 156, 3) := by decide +kernel
theorem dX11_turn_5 : decode cX11_turn 5 = .ok (.ifCond .ne 9, 3) := by decide +kernel
theorem dX11_turn_8 : decode cX11_turn 8 = .ok (.aload_n 0, 1) := by decide +kernel
theorem dX11_turn_9 : decode cX11_turn 9 = .ok (.iconst (-1), 1) := by decide +kernel
theorem dX11_turn_10 : decode cX11_turn 10 = .ok (.invokevirtual 104, 3) := by decide +kernel
theorem dX11_turn_13 : decode cX11_turn 13 = .ok (.ireturn, 1) := by decide +kernel
theorem dX11_turn_14 : decode cX11_turn 14 = .ok (.aload_n 0, 1) := by decide +kernel
theorem dX11_turn_15 : decode cX11_turn 15 = .ok (.getfield 12, 3) := by decide +kernel
theorem dX11_turn_18 : decode cX11_turn 18 = .ok (.getfield 136, 3) := by decide +kernel
theorem dX11_turn_21 : decode cX11_turn 21 = .ok (.iload_n 1, 1) := by decide +kernel
theorem dX11_turn_22 : decode cX11_turn 22 = .ok (.invokevirtual 160, 3) := by decide +kernel
theorem dX11_turn_25 : decode cX11_turn 25 = .ok (.ifCond .ne 10, 3) := by decide +kernel
theorem dX11_turn_28 : decode cX11_turn 28 = .ok (.aload_n 0, 1) := by decide +kernel
theorem dX11_turn_29 : decode cX11_turn 29 = .ok (.bipush (-2), 2) := by decide +kernel
theorem dX11_turn_31 : decode cX11_turn 31 = .ok (.invokevirtual 104, 3) := by decide +kernel
theorem dX11_turn_34 : decode cX11_turn 34 = .ok (.ireturn, 1) := by decide +kernel
theorem dX11_turn_35 : decode cX11_turn 35 = .ok (.aload_n 0, 1) := by decide +kernel
theorem dX11_turn_36 : decode cX11_turn 36 = .ok (.getfield 12, 3) := by decide +kernel
theorem dX11_turn_39 : decode cX11_turn 39 = .ok (.getfield 136, 3) := by decide +kernel
theorem dX11_turn_42 : decode cX11_turn 42 = .ok (.iload_n 1, 1) := by decide +kernel
theorem dX11_turn_43 : decode cX11_turn 43 = .ok (.iload_n 2, 1) := by decide +kernel
theorem dX11_turn_44 : decode cX11_turn 44 = .ok (.iconst 1, 1) := by decide +kernel
theorem dX11_turn_45 : decode cX11_turn 45 = .ok (.iadd, 1) := by decide +kernel
theorem dX11_turn_46 : decode cX11_turn 46 = .ok (.invokevirtual 163, 3) := by decide +kernel
theorem dX11_turn_49 : decode cX11_turn 49 = .ok (.istore 4, 2) := by decide +kernel
theorem dX11_turn_51 : decode cX11_turn 51 = .ok (.aload_n 0, 1) := by decide +kernel
theorem dX11_turn_52 : decode cX11_turn 52 = .ok (.getfield 12, 3) := by decide +kernel
theorem dX11_turn_55 : decode cX11_turn 55 = .ok (.getfield 136, 3) := by decide +kernel
theorem dX11_turn_58 : decode cX11_turn 58 = .ok (.iload_n 1, 1) := by decide +kernel
theorem dX11_turn_59 : decode cX11_turn 59 = .ok (.iload_n 2, 1) := by decide +kernel
theorem dX11_turn_60 : decode cX11_turn 60 = .ok (.iconst 1, 1) := by decide +kernel
theorem dX11_turn_61 : decode cX11_turn 61 = .ok (.iadd, 1) := by decide +kernel
theorem dX11_turn_62 : decode cX11_turn 62 = .ok (.iload_n 3, 1) := by decide +kernel
theorem dX11_turn_63 : decode cX11_turn 63 = .ok (.invokevirtual 149, 3) := by decide +kernel
theorem dX11_turn_66 : decode cX11_turn 66 = .ok (.aload_n 0, 1) := by decide +kernel
theorem dX11_turn_67 : decode cX11_turn 67 = .ok (.iload 4, 2) := by decide +kernel
theorem dX11_turn_69 : decode cX11_turn 69 = .ok (.invokevirtual 121, 3) := by decide +kernel
theorem dX11_turn_72 : decode cX11_turn 72 = .ok (.ireturn, 1) := by decide +kernel
