set_option maxHeartbeats 4000000 in
set_option maxRecDepth 100000 in
theorem kX11_canWalk (l : Launch) (G : g5_G) (a0 a1 a2 a3 a4 a5 a6 a7 a8 a9 a10 a11 a12 a13 a14 a15 a16 a17 a18 a19 a20 : Nat) (sz : Nat) (n0 : Int32) (n1 : Int32) (n2 : Int32) : Met l yX11_canWalk (wsG yX11_canWalk cX11_canWalk 4 (some .boolean)) ({ frames := 1, cells := 0, slots := 0, locals := 21 }) (va_Pc [.ref a0, .int n0, .int n1, .int n2] (g5_P G [(a0, .inr (11, [.ref a1, .ref a2, .ref a3, .ref a4, .ref a5, .ref a6, .ref a7, .ref a8, .ref a9, .ref a10, .int 0, .int 0, .int (-1), .ref a11, .int 0, .ref a12, .int 0])), (a1, .inr (1, [.long 0, .int 1000, .int (-1), .int (-1), .int 0, .ref a13, .ref a14, .ref a15, .ref a16, .ref a17, .ref a18, .long 0, .ref a19])), (a15, .inr (6, [.int 5, .int 24, .ref a20, .int 0]))] sz)) (va_Qi (fun (r : Int32) (u : va_W) => ((n0.toInt < 0) ∧ (r = 0) ∧ (u = [(a0, .inr (11, [.ref a1, .ref a2, .ref a3, .ref a4, .ref a5, .ref a6, .ref a7, .ref a8, .ref a9, .ref a10, .int 0, .int 0, .int (-1), .ref a11, .int 0, .ref a12, .int 0])), (a1, .inr (1, [.long 0, .int 1000, .int (-1), .int (-1), .int 0, .ref a13, .ref a14, .ref a15, .ref a16, .ref a17, .ref a18, .long 0, .ref a19])), (a15, .inr (6, [.int 5, .int 24, .ref a20, .int 0]))])) ∨ ((n0.toInt ≥ 0) ∧ (n0.toInt ≥ 0) ∧ (r = 0) ∧ (u = [(a0, .inr (11, [.ref a1, .ref a2, .ref a3, .ref a4, .ref a5, .ref a6, .ref a7, .ref a8, .ref a9, .ref a10, .int 0, .int 0, .int (-1), .ref a11, .int 0, .ref a12, .int 0])), (a1, .inr (1, [.long 0, .int 1000, .int (-1), .int (-1), .int 0, .ref a13, .ref a14, .ref a15, .ref a16, .ref a17, .ref a18, .long 0, .ref a19])), (a15, .inr (6, [.int 5, .int 24, .ref a20, .int 0]))]))) (g5_B G (va_A [(a0, .inr (11, [.ref a1, .ref a2, .ref a3, .ref a4, .ref a5, .ref a6, .ref a7, .ref a8, .ref a9, .ref a10, .int 0, .int 0, .int (-1), .ref a11, .int 0, .ref a12, .int 0])), (a1, .inr (1, [.long 0, .int 1000, .int (-1), .int (-1), .int 0, .ref a13, .ref a14, .ref a15, .ref a16, .ref a17, .ref a18, .long 0, .ref a19])), (a15, .inr (6, [.int 5, .int 24, .ref a20, .int 0]))] sz)) (va_A [(a0, .inr (11, [.ref a1, .ref a2, .ref a3, .ref a4, .ref a5, .ref a6, .ref a7, .ref a8, .ref a9, .ref a10, .int 0, .int 0, .int (-1), .ref a11, .int 0, .ref a12, .int 0])), (a1, .inr (1, [.long 0, .int 1000, .int (-1), .int (-1), .int 0, .ref a13, .ref a14, .ref a15, .ref a16, .ref a17, .ref a18, .long 0, .ref a19])), (a15, .inr (6, [.int 5, .int 24, .ref a20, .int 0]))] sz)) 0 0 (va_A [(a0, .inr (11, [.ref a1, .ref a2, .ref a3, .ref a4, .ref a5, .ref a6, .ref a7, .ref a8, .ref a9, .ref a10, .int 0, .int 0, .int (-1), .ref a11, .int 0, .ref a12, .int 0])), (a1, .inr (1, [.long 0, .int 1000, .int (-1), .int (-1), .int 0, .ref a13, .ref a14, .ref a15, .ref a16, .ref a17, .ref a18, .long 0, .ref a19])), (a15, .inr (6, [.int 5, .int 24, .ref a20, .int 0]))] sz) := by
  refine Met.ofW (cc := cX11_canWalk) (maxL := 4) (ret := (some .boolean)) (by decide) rfl ?_
  intro p e s m args below meth c s₁ B hml hv
  obtain ⟨rfl, hsz, hP, hK, hD0, hN, hT⟩ := hv
  have hx := B.exec
  have hb := B.bytes
  have hr := B.returns
  have hts : ∀ w ∈ tblG, w.before _ s = true := fun w h => atoms_spec (ws := (wsG yX11_canWalk cX11_canWalk 4 (some .boolean))) B.pre w (List.mem_cons_of_mem _ h)
  have hown : s.vm.findClass RX11 = some m.cls := findClass_of_methodNamed B.named
  have hlocks := B.notSynchronized
  subst hsz
  have hD := hD0.self (sz := s.heap.size)
  generalize hAe : va_A [(a0, .inr (11, [.ref a1, .ref a2, .ref a3, .ref a4, .ref a5, .ref a6, .ref a7, .ref a8, .ref a9, .ref a10, .int 0, .int 0, .int (-1), .ref a11, .int 0, .ref a12, .int 0])), (a1, .inr (1, [.long 0, .int 1000, .int (-1), .int (-1), .int 0, .ref a13, .ref a14, .ref a15, .ref a16, .ref a17, .ref a18, .long 0, .ref a19])), (a15, .inr (6, [.int 5, .int 24, .ref a20, .int 0]))] s.heap.size = A at hD hT ⊢
  have hA : ∀ q : Nat, s.heap.size ≤ q → A q := fun q h => by rw [← hAe]; exact Or.inr h
  have hS : va_S A s.heap s.heap [] := va_S.rf
  have hP : va_P G.1 vwCl [(a0, .inr (11, [.ref a1, .ref a2, .ref a3, .ref a4, .ref a5, .ref a6, .ref a7, .ref a8, .ref a9, .ref a10, .int 0, .int 0, .int (-1), .ref a11, .int 0, .ref a12, .int 0])), (a1, .inr (1, [.long 0, .int 1000, .int (-1), .int (-1), .int 0, .ref a13, .ref a14, .ref a15, .ref a16, .ref a17, .ref a18, .long 0, .ref a19])), (a15, .inr (6, [.int 5, .int 24, .ref a20, .int 0]))] s.heap := hP
  have hl := lv_entry ([.ref a0, .int n0, .int n1, .int n2]) (n := 4) (Nat.le_of_ble_eq_true rfl)
  rw [lg_entry_eq]
  generalize (lg_sl ([.ref a0, .int n0, .int n1, .int n2]) ++ List.replicate (4 - (lg_sl ([.ref a0, .int n0, .int n1, .int n2])).length) Slot.unset).toArray = ls at hl ⊢
  have hl : lv_has ls 4 [(0, .ref a0), (1, .int n0), (2, .int n1), (3, .int n2)] := hl
  refine lv_aload_n hx hb dX11_canWalk_0 rfl (lv_at hl 0 rfl) ?_
  refine va_get (D := G.1) (ci := 11) (v := .ref a1) (C := RX11) (T := TX11) (N := 17) hx hb hts inG_X11 hown hK hP 0 rfl rfl 0 (by decide) (hts _ fl_X11_12) (fun _ h9 => h9) rfl dX11_canWalk_1 ?_
  refine va_get (D := G.1) (ci := 1) (v := .ref a15) (C := RX1) (T := TX1) (N := 13) hx hb hts inG_X1 hown hK hP 1 rfl rfl 7 (by decide) (hts _ fl_X11_167) (fun _ h9 => h9) rfl dX11_canWalk_4 ?_
  refine lv_iload_n hx hb dX11_canWalk_7 rfl (lv_at hl 1 rfl) ?_
  have hPc := hP.sub (ws' := [(a15, .inr (6, [.int 5, .int 24, .ref a20, .int 0]))]) [2] rfl
  have hDc := hD.sub (ws' := [(a15, .inr (6, [.int 5, .int 24, .ref a20, .int 0]))]) [2] (by decide) rfl
  have hFc := va_free (wc := [(a15, .inr (6, [.int 5, .int 24, .ref a20, .int 0]))]) hD hS hA [2] rfl
  refine va_calli (va_runV (As := [.int n0]) (rest := []) ⟨hx, hb, hml, hown, hts⟩ (kX6_has_4 l G a15 a20 s.heap.size n0) (cwV 1 hts gV_X11_160 rfl rfl rfl hv_X6_has ⟨Nat.le_of_ble_eq_true rfl, Nat.le_of_ble_eq_true rfl⟩) (g5_preV hPc hK hDc hN hT hS hFc (ci := 6) (q0 := 0) rfl rfl) rfl rfl hl.1 rfl (lv_room (Nat.le_of_ble_eq_true rfl)) dX11_canWalk_8 ⟨Nat.le_of_ble_eq_true rfl, Nat.le_of_ble_eq_true rfl⟩) hS (fun q _ h => hFc q h) hFc (fun r u t H1 locs ht hvm hw hB hz1 hk1 hS => ?_)
  obtain ⟨hP1, hD1⟩ := hB
  rw [ht] at hP1
  rcases hw with ⟨i_1, rfl, rfl⟩ | ⟨i_2, i_3, rfl, rfl⟩
  ·
    obtain ⟨hP, hD⟩ := va_join (wr := [(a0, .inr (11, [.ref a1, .ref a2, .ref a3, .ref a4, .ref a5, .ref a6, .ref a7, .ref a8, .ref a9, .ref a10, .int 0, .int 0, .int (-1), .ref a11, .int 0, .ref a12, .int 0])), (a1, .inr (1, [.long 0, .int 1000, .int (-1), .int (-1), .int 0, .ref a13, .ref a14, .ref a15, .ref a16, .ref a17, .ref a18, .long 0, .ref a19]))]) (w1 := [(a15, .inr (6, [.int 5, .int 24, .ref a20, .int 0]))]) hP hD [2] [0, 1] rfl rfl (by decide) (by decide) hk1 hFc hP1 hD1
    generalize H1 = H at hP hS ⊢
    have hP : va_P G.1 vwCl [(a0, .inr (11, [.ref a1, .ref a2, .ref a3, .ref a4, .ref a5, .ref a6, .ref a7, .ref a8, .ref a9, .ref a10, .int 0, .int 0, .int (-1), .ref a11, .int 0, .ref a12, .int 0])), (a1, .inr (1, [.long 0, .int 1000, .int (-1), .int (-1), .int 0, .ref a13, .ref a14, .ref a15, .ref a16, .ref a17, .ref a18, .long 0, .ref a19])), (a15, .inr (6, [.int 5, .int 24, .ref a20, .int 0]))] H := hP
    have hD : va_D A [(a0, .inr (11, [.ref a1, .ref a2, .ref a3, .ref a4, .ref a5, .ref a6, .ref a7, .ref a8, .ref a9, .ref a10, .int 0, .int 0, .int (-1), .ref a11, .int 0, .ref a12, .int 0])), (a1, .inr (1, [.long 0, .int 1000, .int (-1), .int (-1), .int 0, .ref a13, .ref a14, .ref a15, .ref a16, .ref a17, .ref a18, .long 0, .ref a19])), (a15, .inr (6, [.int 5, .int 24, .ref a20, .int 0]))] := hD
    refine lv_if_eq (tgt := 46) hx hb dX11_canWalk_11 (by decide) (fun c_4 => ?_) (fun c_4 => ?_)
    ·
      refine lv_iconst (v := 0) hx hb dX11_canWalk_46 (by decide) ?_
      exact W.zret (v := 0) hx hb hr rfl (fun t ht hW => ⟨⟨0, [(a0, .inr (11, [.ref a1, .ref a2, .ref a3, .ref a4, .ref a5, .ref a6, .ref a7, .ref a8, .ref a9, .ref a10, .int 0, .int 0, .int (-1), .ref a11, .int 0, .ref a12, .int 0])), (a1, .inr (1, [.long 0, .int 1000, .int (-1), .int (-1), .int 0, .ref a13, .ref a14, .ref a15, .ref a16, .ref a17, .ref a18, .long 0, .ref a19])), (a15, .inr (6, [.int 5, .int 24, .ref a20, .int 0]))], rfl, Or.inl (⟨i_1, rfl, rfl⟩), by rw [ht]; exact hP, hD⟩, hS.F ht⟩) hS.2.2 dX11_canWalk_47
    ·
      exact absurd c_4 (by decide)
  ·
    obtain ⟨hP, hD⟩ := va_join (wr := [(a0, .inr (11, [.ref a1, .ref a2, .ref a3, .ref a4, .ref a5, .ref a6, .ref a7, .ref a8, .ref a9, .ref a10, .int 0, .int 0, .int (-1), .ref a11, .int 0, .ref a12, .int 0])), (a1, .inr (1, [.long 0, .int 1000, .int (-1), .int (-1), .int 0, .ref a13, .ref a14, .ref a15, .ref a16, .ref a17, .ref a18, .long 0, .ref a19]))]) (w1 := [(a15, .inr (6, [.int 5, .int 24, .ref a20, .int 0]))]) hP hD [2] [0, 1] rfl rfl (by decide) (by decide) hk1 hFc hP1 hD1
    generalize H1 = H at hP hS ⊢
    have hP : va_P G.1 vwCl [(a0, .inr (11, [.ref a1, .ref a2, .ref a3, .ref a4, .ref a5, .ref a6, .ref a7, .ref a8, .ref a9, .ref a10, .int 0, .int 0, .int (-1), .ref a11, .int 0, .ref a12, .int 0])), (a1, .inr (1, [.long 0, .int 1000, .int (-1), .int (-1), .int 0, .ref a13, .ref a14, .ref a15, .ref a16, .ref a17, .ref a18, .long 0, .ref a19])), (a15, .inr (6, [.int 5, .int 24, .ref a20, .int 0]))] H := hP
    have hD : va_D A [(a0, .inr (11, [.ref a1, .ref a2, .ref a3, .ref a4, .ref a5, .ref a6, .ref a7, .ref a8, .ref a9, .ref a10, .int 0, .int 0, .int (-1), .ref a11, .int 0, .ref a12, .int 0])), (a1, .inr (1, [.long 0, .int 1000, .int (-1), .int (-1), .int 0, .ref a13, .ref a14, .ref a15, .ref a16, .ref a17, .ref a18, .long 0, .ref a19])), (a15, .inr (6, [.int 5, .int 24, .ref a20, .int 0]))] := hD
    refine lv_if_eq (tgt := 46) hx hb dX11_canWalk_11 (by decide) (fun c_5 => ?_) (fun c_5 => ?_)
    ·
      refine lv_iconst (v := 0) hx hb dX11_canWalk_46 (by decide) ?_
      exact W.zret (v := 0) hx hb hr rfl (fun t ht hW => ⟨⟨0, [(a0, .inr (11, [.ref a1, .ref a2, .ref a3, .ref a4, .ref a5, .ref a6, .ref a7, .ref a8, .ref a9, .ref a10, .int 0, .int 0, .int (-1), .ref a11, .int 0, .ref a12, .int 0])), (a1, .inr (1, [.long 0, .int 1000, .int (-1), .int (-1), .int 0, .ref a13, .ref a14, .ref a15, .ref a16, .ref a17, .ref a18, .long 0, .ref a19])), (a15, .inr (6, [.int 5, .int 24, .ref a20, .int 0]))], rfl, Or.inr (⟨i_2, i_3, rfl, rfl⟩), by rw [ht]; exact hP, hD⟩, hS.F ht⟩) hS.2.2 dX11_canWalk_47
    ·
      exact absurd c_5 (by decide)
theorem ml_X11_327 : Cond.methodLink RX11 327 yX11_canWalk ∈ tblG := tg 1097 (by decide +kernel) (by decide +kernel)
theorem im_X11_canWalk : Cond.instanceMethod yX11_canWalk ∈ tblG := tg 1099 (by decide +kernel) (by decide +kernel)
theorem se_X11_canWalk : Cond.selects RX11 yX11_canWalk yX11_canWalk ∈ tblG := tg 26 (by decide +kernel) (by decide +kernel)
theorem cd_X11_canWalk : Cond.code yX11_canWalk cX11_canWalk 4 (some .boolean) ∈ tblG := tg 1100 (by decide +kernel) (by decide +kernel)
theorem gW_X11_canWalk : GoodIn tblG (wsG yX11_canWalk cX11_canWalk 4 (some .boolean)) := tgi cd_X11_canWalk
theorem gV_X11_327 : GoodIn tblG (wsV RX11 327 RX11 yX11_canWalk (wsG yX11_canWalk cX11_canWalk 4 (some .boolean))) := tgV ml_X11_327 im_X11_canWalk se_X11_canWalk ini_X11 gW_X11_canWalk
theorem hv_X11_canWalk : yX11_canWalk.cls = RX11 ∧ yX11_canWalk.cls ≠ "java/lang/invoke/MethodHandle" ∧ yX11_canWalk.cls ≠ "java/lang/invoke/VarHandle" ∧ (parseMethodDescriptor yX11_canWalk.desc).map (fun d => d.parameters.length) = some 3 := by decide +kernel
theorem dX11_soonest_0 : decode cX11_soonest 0 = .ok (.aload_n 0, 1) := by decide +kernel
theorem dX11_soonest_1 : decode cX11_soonest 1 = .ok (.iload_n 1, 1) := by decide +kernel
theorem dX11_soonest_2 : decode cX11_soonest 2 = .ok (.iload_n 2, 1) := by decide +kernel
theorem dX11_soonest_3 : decode cX11_soonest 3 = .ok (.iload_n 3, 1) := by decide +kernel
theorem dX11_soonest_4 : decode cX11_soonest 4 = .ok (.invokevirtual 327, 3) := by decide +kernel
theorem dX11_soonest_7 : decode cX11_soonest 7 = .ok (.ifCond .ne 5, 3) := by decide +kernel
theorem dX11_soonest_10 : decode cX11_soonest 10 = .ok (.iconst (-1), 1) := by decide +kernel
theorem dX11_soonest_11 : decode cX11_soonest 11 = .ok (.ireturn, 1) := by decide +kernel
theorem dX11_soonest_12 : decode cX11_soonest 12 = .ok (.aload_n 0, 1) := by decide +kernel
theorem dX11_soonest_13 : decode cX11_soonest 13 = .ok (.getfield 59, 3) := by decide +kernel
theorem dX11_soonest_16 : decode cX11_soonest 16 = .ok (.iload_n 1, 1) := by decide +kernel
theorem dX11_soonest_17 : decode cX11_soonest 17 = .ok (.iload_n 2, 1) := by decide +kernel
theorem dX11_soonest_18 : decode cX11_soonest 18 = .ok (.iload_n 3, 1) := by decide +kernel
theorem dX11_soonest_19 : decode cX11_soonest 19 = .ok (.bipush 24, 2) := by decide +kernel
theorem dX11_soonest_21 : decode cX11_soonest 21 = .ok (.invokevirtual 330, 3) := by decide +kernel
theorem dX11_soonest_24 : decode cX11_soonest 24 = .ok (.ireturn, 1) := by decide +kernel
set_option maxHeartbeats 4000000 in
set_option maxRecDepth 100000 in
theorem kX11_soonest (l : Launch) (G : g5_G) (a0 a1 a2 a3 a4 a5 a6 a7 a8 a9 a10 a11 a12 a13 a14 a15 a16 a17 a18 a19 a20 : Nat) (sz : Nat) (n0 : Int32) (n1 : Int32) (n2 : Int32) : Met l yX11_soonest (wsG yX11_soonest cX11_soonest 4 (some .int)) ({ frames := 2, cells := 0, slots := 0, locals := 44 }) (va_Pc [.ref a0, .int n0, .int n1, .int n2] (g5_P G [(a0, .inr (11, [.ref a1, .ref a2, .ref a3, .ref a4, .ref a5, .ref a6, .ref a7, .ref a8, .ref a9, .ref a10, .int 0, .int 0, .int (-1), .ref a11, .int 0, .ref a12, .int 0])), (a1, .inr (1, [.long 0, .int 1000, .int (-1), .int (-1), .int 0, .ref a13, .ref a14, .ref a15, .ref a16, .ref a17, .ref a18, .long 0, .ref a19])), (a15, .inr (6, [.int 5, .int 24, .ref a20, .int 0]))] sz)) (va_Qi (fun (r : Int32) (u : va_W) => ((n0.toInt < 0) ∧ (r = (-1)) ∧ (u = [])) ∨ ((n0.toInt ≥ 0) ∧ (n0.toInt ≥ 0) ∧ (r = (-1)) ∧ (u = []))) (g5_B G (va_A [(a0, .inr (11, [.ref a1, .ref a2, .ref a3, .ref a4, .ref a5, .ref a6, .ref a7, .ref a8, .ref a9, .ref a10, .int 0, .int 0, .int (-1), .ref a11, .int 0, .ref a12, .int 0])), (a1, .inr (1, [.long 0, .int 1000, .int (-1), .int (-1), .int 0, .ref a13, .ref a14, .ref a15, .ref a16, .ref a17, .ref a18, .long 0, .ref a19])), (a15, .inr (6, [.int 5, .int 24, .ref a20, .int 0]))] sz)) (va_A [(a0, .inr (11, [.ref a1, .ref a2, .ref a3, .ref a4, .ref a5, .ref a6, .ref a7, .ref a8, .ref a9, .ref a10, .int 0, .int 0, .int (-1), .ref a11, .int 0, .ref a12, .int 0])), (a1, .inr (1, [.long 0, .int 1000, .int (-1), .int (-1), .int 0, .ref a13, .ref a14, .ref a15, .ref a16, .ref a17, .ref a18, .long 0, .ref a19])), (a15, .inr (6, [.int 5, .int 24, .ref a20, .int 0]))] sz)) 0 0 (va_A [(a0, .inr (11, [.ref a1, .ref a2, .ref a3, .ref a4, .ref a5, .ref a6, .ref a7, .ref a8, .ref a9, .ref a10, .int 0, .int 0, .int (-1), .ref a11, .int 0, .ref a12, .int 0])), (a1, .inr (1, [.long 0, .int 1000, .int (-1), .int (-1), .int 0, .ref a13, .ref a14, .ref a15, .ref a16, .ref a17, .ref a18, .long 0, .ref a19])), (a15, .inr (6, [.int 5, .int 24, .ref a20, .int 0]))] sz) := by
  refine Met.ofW (cc := cX11_soonest) (maxL := 4) (ret := (some .int)) (by decide) rfl ?_
  intro p e s m args below meth c s₁ B hml hv
  obtain ⟨rfl, hsz, hP, hK, hD0, hN, hT⟩ := hv
  have hx := B.exec
  have hb := B.bytes
  have hr := B.returns
  have hts : ∀ w ∈ tblG, w.before _ s = true := fun w h => atoms_spec (ws := (wsG yX11_soonest cX11_soonest 4 (some .int))) B.pre w (List.mem_cons_of_mem _ h)
  have hown : s.vm.findClass RX11 = some m.cls := findClass_of_methodNamed B.named
  have hlocks := B.notSynchronized
  subst hsz
  have hD := hD0.self (sz := s.heap.size)
  generalize hAe : va_A [(a0, .inr (11, [.ref a1, .ref a2, .ref a3, .ref a4, .ref a5, .ref a6, .ref a7, .ref a8, .ref a9, .ref a10, .int 0, .int 0, .int (-1), .ref a11, .int 0, .ref a12, .int 0])), (a1, .inr (1, [.long 0, .int 1000, .int (-1), .int (-1), .int 0, .ref a13, .ref a14, .ref a15, .ref a16, .ref a17, .ref a18, .long 0, .ref a19])), (a15, .inr (6, [.int 5, .int 24, .ref a20, .int 0]))] s.heap.size = A at hD hT ⊢
  have hA : ∀ q : Nat, s.heap.size ≤ q → A q := fun q h => by rw [← hAe]; exact Or.inr h
  have hS : va_S A s.heap s.heap [] := va_S.rf
  have hP : va_P G.1 vwCl [(a0, .inr (11, [.ref a1, .ref a2, .ref a3, .ref a4, .ref a5, .ref a6, .ref a7, .ref a8, .ref a9, .ref a10, .int 0, .int 0, .int (-1), .ref a11, .int 0, .ref a12, .int 0])), (a1, .inr (1, [.long 0, .int 1000, .int (-1), .int (-1), .int 0, .ref a13, .ref a14, .ref a15, .ref a16, .ref a17, .ref a18, .long 0, .ref a19])), (a15, .inr (6, [.int 5, .int 24, .ref a20, .int 0]))] s.heap := hP
  have hl := lv_entry ([.ref a0, .int n0, .int n1, .int n2]) (n := 4) (Nat.le_of_ble_eq_true rfl)
  rw [lg_entry_eq]
  generalize (lg_sl ([.ref a0, .int n0, .int n1, .int n2]) ++ List.replicate (4 - (lg_sl ([.ref a0, .int n0, .int n1, .int n2])).length) Slot.unset).toArray = ls at hl ⊢
  have hl : lv_has ls 4 [(0, .ref a0), (1, .int n0), (2, .int n1), (3, .int n2)] := hl
  refine lv_aload_n hx hb dX11_soonest_0 rfl (lv_at hl 0 rfl) ?_
  refine lv_iload_n hx hb dX11_soonest_1 rfl (lv_at hl 1 rfl) ?_
  refine lv_iload_n hx hb dX11_soonest_2 rfl (lv_at hl 2 rfl) ?_
  refine lv_iload_n hx hb dX11_soonest_3 rfl (lv_at hl 3 rfl) ?_
  have hPc := hP.sub (ws' := [(a0, .inr (11, [.ref a1, .ref a2, .ref a3, .ref a4, .ref a5, .ref a6, .ref a7, .ref a8, .ref a9, .ref a10, .int 0, .int 0, .int (-1), .ref a11, .int 0, .ref a12, .int 0])), (a1, .inr (1, [.long 0, .int 1000, .int (-1), .int (-1), .int 0, .ref a13, .ref a14, .ref a15, .ref a16, .ref a17, .ref a18, .long 0, .ref a19])), (a15, .inr (6, [.int 5, .int 24, .ref a20, .int 0]))]) [0, 1, 2] rfl
  have hDc := hD.sub (ws' := [(a0, .inr (11, [.ref a1, .ref a2, .ref a3, .ref a4, .ref a5, .ref a6, .ref a7, .ref a8, .ref a9, .ref a10, .int 0, .int 0, .int (-1), .ref a11, .int 0, .ref a12, .int 0])), (a1, .inr (1, [.long 0, .int 1000, .int (-1), .int (-1), .int 0, .ref a13, .ref a14, .ref a15, .ref a16, .ref a17, .ref a18, .long 0, .ref a19])), (a15, .inr (6, [.int 5, .int 24, .ref a20, .int 0]))]) [0, 1, 2] (by decide) rfl
  have hFc := va_free (wc := [(a0, .inr (11, [.ref a1, .ref a2, .ref a3, .ref a4, .ref a5, .ref a6, .ref a7, .ref a8, .ref a9, .ref a10, .int 0, .int 0, .int (-1), .ref a11, .int 0, .ref a12, .int 0])), (a1, .inr (1, [.long 0, .int 1000, .int (-1), .int (-1), .int 0, .ref a13, .ref a14, .ref a15, .ref a16, .ref a17, .ref a18, .long 0, .ref a19])), (a15, .inr (6, [.int 5, .int 24, .ref a20, .int 0]))]) hD hS hA [0, 1, 2] rfl
  refine va_calli (va_runV (As := [.int n0, .int n1, .int n2]) (rest := []) ⟨hx, hb, hml, hown, hts⟩ (kX11_canWalk l G a0 a1 a2 a3 a4 a5 a6 a7 a8 a9 a10 a11 a12 a13 a14 a15 a16 a17 a18 a19 a20 s.heap.size n0 n1 n2) (cwV 3 hts gV_X11_327 rfl rfl rfl hv_X11_canWalk ⟨Nat.le_of_ble_eq_true rfl, Nat.le_of_ble_eq_true rfl⟩) (g5_preV hPc hK hDc hN hT hS hFc (ci := 11) (q0 := 0) rfl rfl) rfl rfl hl.1 rfl (lv_room (Nat.le_of_ble_eq_true rfl)) dX11_soonest_4 ⟨Nat.le_of_ble_eq_true rfl, Nat.le_of_ble_eq_true rfl⟩) hS (fun q _ h => hFc q h) hFc (fun r u t H1 locs ht hvm hw hB hz1 hk1 hS => ?_)
  obtain ⟨hP1, hD1⟩ := hB
  rw [ht] at hP1
  rcases hw with ⟨i_1, rfl, rfl⟩ | ⟨i_2, i_3, rfl, rfl⟩
  ·
    obtain ⟨hP, hD⟩ := va_join (wr := []) (w1 := [(a0, .inr (11, [.ref a1, .ref a2, .ref a3, .ref a4, .ref a5, .ref a6, .ref a7, .ref a8, .ref a9, .ref a10, .int 0, .int 0, .int (-1), .ref a11, .int 0, .ref a12, .int 0])), (a1, .inr (1, [.long 0, .int 1000, .int (-1), .int (-1), .int 0, .ref a13, .ref a14, .ref a15, .ref a16, .ref a17, .ref a18, .long 0, .ref a19])), (a15, .inr (6, [.int 5, .int 24, .ref a20, .int 0]))]) hP hD [0, 1, 2] [] rfl rfl (by decide) (by decide) hk1 hFc hP1 hD1
    generalize H1 = H at hP hS ⊢
    have hP : va_P G.1 vwCl [(a0, .inr (11, [.ref a1, .ref a2, .ref a3, .ref a4, .ref a5, .ref a6, .ref a7, .ref a8, .ref a9, .ref a10, .int 0, .int 0, .int (-1), .ref a11, .int 0, .ref a12, .int 0])), (a1, .inr (1, [.long 0, .int 1000, .int (-1), .int (-1), .int 0, .ref a13, .ref a14, .ref a15, .ref a16, .ref a17, .ref a18, .long 0, .ref a19])), (a15, .inr (6, [.int 5, .int 24, .ref a20, .int 0]))] H := hP
    have hD : va_D A [(a0, .inr (11, [.ref a1, .ref a2, .ref a3, .ref a4, .ref a5, .ref a6, .ref a7, .ref a8, .ref a9, .ref a10, .int 0, .int 0, .int (-1), .ref a11, .int 0, .ref a12, .int 0])), (a1, .inr (1, [.long 0, .int 1000, .int (-1), .int (-1), .int 0, .ref a13, .ref a14, .ref a15, .ref a16, .ref a17, .ref a18, .long 0, .ref a19])), (a15, .inr (6, [.int 5, .int 24, .ref a20, .int 0]))] := hD
    refine lv_if_ne (tgt := 12) hx hb dX11_soonest_7 (by decide) (fun c_4 => ?_) (fun c_4 => ?_)
    ·
      exact absurd c_4 (by decide)
    ·
      refine lv_iconst (v := (-1)) hx hb dX11_soonest_10 (by decide) ?_
      have hP := hP.sub (ws' := []) [] rfl
      have hD := hD.sub (ws' := []) [] (by decide) rfl
      exact W.iret (v := (-1)) hx hb hr (fun t ht hW => ⟨⟨(-1), [], rfl, Or.inl (⟨i_1, rfl, rfl⟩), by rw [ht]; exact hP, hD⟩, hS.F ht⟩) hS.2.2 dX11_soonest_11
  ·
    obtain ⟨hP, hD⟩ := va_join (wr := []) (w1 := [(a0, .inr (11, [.ref a1, .ref a2, .ref a3, .ref a4, .ref a5, .ref a6, .ref a7, .ref a8, .ref a9, .ref a10, .int 0, .int 0, .int (-1), .ref a11, .int 0, .ref a12, .int 0])), (a1, .inr (1, [.long 0, .int 1000, .int (-1), .int (-1), .int 0, .ref a13, .ref a14, .ref a15, .ref a16, .ref a17, .ref a18, .long 0, .ref a19])), (a15, .inr (6, [.int 5, .int 24, .ref a20, .int 0]))]) hP hD [0, 1, 2] [] rfl rfl (by decide) (by decide) hk1 hFc hP1 hD1
    generalize H1 = H at hP hS ⊢
    have hP : va_P G.1 vwCl [(a0, .inr (11, [.ref a1, .ref a2, .ref a3, .ref a4, .ref a5, .ref a6, .ref a7, .ref a8, .ref a9, .ref a10, .int 0, .int 0, .int (-1), .ref a11, .int 0, .ref a12, .int 0])), (a1, .inr (1, [.long 0, .int 1000, .int (-1), .int (-1), .int 0, .ref a13, .ref a14, .ref a15, .ref a16, .ref a17, .ref a18, .long 0, .ref a19])), (a15, .inr (6, [.int 5, .int 24, .ref a20, .int 0]))] H := hP
    have hD : va_D A [(a0, .inr (11, [.ref a1, .ref a2, .ref a3, .ref a4, .ref a5, .ref a6, .ref a7, .ref a8, .ref a9, .ref a10, .int 0, .int 0, .int (-1), .ref a11, .int 0, .ref a12, .int 0])), (a1, .inr (1, [.long 0, .int 1000, .int (-1), .int (-1), .int 0, .ref a13, .ref a14, .ref a15, .ref a16, .ref a17, .ref a18, .long 0, .ref a19])), (a15, .inr (6, [.int 5, .int 24, .ref a20, .int 0]))] := hD
    refine lv_if_ne (tgt := 12) hx hb dX11_soonest_7 (by decide) (fun c_5 => ?_) (fun c_5 => ?_)
    ·
      exact absurd c_5 (by decide)
    ·
      refine lv_iconst (v := (-1)) hx hb dX11_soonest_10 (by decide) ?_
      have hP := hP.sub (ws' := []) [] rfl
      have hD := hD.sub (ws' := []) [] (by decide) rfl
      exact W.iret (v := (-1)) hx hb hr (fun t ht hW => ⟨⟨(-1), [], rfl, Or.inr (⟨i_2, i_3, rfl, rfl⟩), by rw [ht]; exact hP, hD⟩, hS.F ht⟩) hS.2.2 dX11_soonest_11
theorem dX11_way_0 : decode cX11_way 0 = .ok (.aload_n 0, 1) := by decide +kernel
theorem dX11_way_1 : decode cX11_way 1 = .ok (.iload_n 1, 1) := by decide +kernel
theorem dX11_way_2 : decode cX11_way 2 = .ok (.iload_n 2, 1) := by decide +kernel
theorem dX11_way_3 : decode cX11_way 3 = .ok (.iload_n 3, 1) := by decide +kernel
theorem dX11_way_4 : decode cX11_way 4 = .ok (.invokevirtual 327, 3) := by decide +kernel
theorem dX11_way_7 : decode cX11_way 7 = .ok (.ifCond .eq 9, 3) := by decide +kernel
theorem dX11_way_10 : decode cX11_way 10 = .ok (.iload 4, 2) := by decide +kernel
theorem dX11_way_12 : decode cX11_way 12 = .ok (.iload_n 3, 1) := by decide +kernel
theorem dX11_way_13 : decode cX11_way 13 = .ok (.if_icmp .ge 5, 3) := by decide +kernel
theorem dX11_way_16 : decode cX11_way 16 = .ok (.iconst (-1), 1) := by decide +kernel
theorem dX11_way_17 : decode cX11_way 17 = .ok (.ireturn, 1) := by decide +kernel
theorem dX11_way_18 : decode cX11_way 18 = .ok (.aload_n 0, 1) := by decide +kernel
theorem dX11_way_19 : decode cX11_way 19 = .ok (.getfield 59, 3) := by decide +kernel
theorem dX11_way_22 : decode cX11_way 22 = .ok (.iload_n 1, 1) := by decide +kernel
theorem dX11_way_23 : decode cX11_way 23 = .ok (.iload_n 2, 1) := by decide +kernel
theorem dX11_way_24 : decode cX11_way 24 = .ok (.iload_n 3, 1) := by decide +kernel
theorem dX11_way_25 : decode cX11_way 25 = .ok (.bipush 24, 2) := by decide +kernel
theorem dX11_way_27 : decode cX11_way 27 = .ok (.invokevirtual 330, 3) := by decide +kernel
theorem dX11_way_30 : decode cX11_way 30 = .ok (.istore 5, 2) := by decide +kernel
theorem dX11_way_32 : decode cX11_way 32 = .ok (.iload 5, 2) := by decide +kernel
theorem dX11_way_34 : decode cX11_way 34 = .ok (.iconst (-1), 1) := by decide +kernel
theorem dX11_way_35 : decode cX11_way 35 = .ok (.if_icmp .eq 10, 3) := by decide +kernel
theorem dX11_way_38 : decode cX11_way 38 = .ok (.iload 4, 2) := by decide +kernel
theorem dX11_way_40 : decode cX11_way 40 = .ok (.iload 5, 2) := by decide +kernel
theorem dX11_way_42 : decode cX11_way 42 = .ok (.if_icmp .le 7, 3) := by decide +kernel
theorem dX11_way_45 : decode cX11_way 45 = .ok (.iconst (-1), 1) := by decide +kernel
theorem dX11_way_46 : decode cX11_way 46 = .ok (.goto 16, 3) := by decide +kernel
theorem dX11_way_49 : decode cX11_way 49 = .ok (.aload_n 0, 1) := by decide +kernel
theorem dX11_way_50 : decode cX11_way 50 = .ok (.getfield 59, 3) := by decide +kernel
theorem dX11_way_53 : decode cX11_way 53 = .ok (.iload_n 2, 1) := by decide +kernel
theorem dX11_way_54 : decode cX11_way 54 = .ok (.iload_n 3, 1) := by decide +kernel
theorem dX11_way_55 : decode cX11_way 55 = .ok (.iload 5, 2) := by decide +kernel
theorem dX11_way_57 : decode cX11_way 57 = .ok (.iload 4, 2) := by decide +kernel
theorem dX11_way_59 : decode cX11_way 59 = .ok (.invokevirtual 334, 3) := by decide +kernel
theorem dX11_way_62 : decode cX11_way 62 = .ok (.ireturn, 1) := by decide +kernel
set_option maxHeartbeats 4000000 in
set_option maxRecDepth 100000 in
theorem kX11_way (l : Launch) (G : g5_G) (a0 a1 a2 a3 a4 a5 a6 a7 a8 a9 a10 a11 a12 a13 a14 a15 a16 a17 a18 a19 a20 : Nat) (sz : Nat) (n0 : Int32) (n1 : Int32) (n2 : Int32) (n3 : Int32) : Met l yX11_way (wsG yX11_way cX11_way 6 (some .int)) ({ frames := 2, cells := 0, slots := 0, locals := 44 }) (va_Pc [.ref a0, .int n0, .int n1, .int n2, .int n3] (g5_P G [(a0, .inr (11, [.ref a1, .ref a2, .ref a3, .ref a4, .ref a5, .ref a6, .ref a7, .ref a8, .ref a9, .ref a10, .int 0, .int 0, .int (-1), .ref a11, .int 0, .ref a12, .int 0])), (a1, .inr (1, [.long 0, .int 1000, .int (-1), .int (-1), .int 0, .ref a13, .ref a14, .ref a15, .ref a16, .ref a17, .ref a18, .long 0, .ref a19])), (a15, .inr (6, [.int 5, .int 24, .ref a20, .int 0]))] sz)) (va_Qi (fun (r : Int32) (u : va_W) => ((n0.toInt < 0) ∧ (r = (-1)) ∧ (u = [])) ∨ ((n0.toInt ≥ 0) ∧ (n0.toInt ≥ 0) ∧ (r = (-1)) ∧ (u = []))) (g5_B G (va_A [(a0, .inr (11, [.ref a1, .ref a2, .ref a3, .ref a4, .ref a5, .ref a6, .ref a7, .ref a8, .ref a9, .ref a10, .int 0, .int 0, .int (-1), .ref a11, .int 0, .ref a12, .int 0])), (a1, .inr (1, [.long 0, .int 1000, .int (-1), .int (-1), .int 0, .ref a13, .ref a14, .ref a15, .ref a16, .ref a17, .ref a18, .long 0, .ref a19])), (a15, .inr (6, [.int 5, .int 24, .ref a20, .int 0]))] sz)) (va_A [(a0, .inr (11, [.ref a1, .ref a2, .ref a3, .ref a4, .ref a5, .ref a6, .ref a7, .ref a8, .ref a9, .ref a10, .int 0, .int 0, .int (-1), .ref a11, .int 0, .ref a12, .int 0])), (a1, .inr (1, [.long 0, .int 1000, .int (-1), .int (-1), .int 0, .ref a13, .ref a14, .ref a15, .ref a16, .ref a17, .ref a18, .long 0, .ref a19])), (a15, .inr (6, [.int 5, .int 24, .ref a20, .int 0]))] sz)) 0 0 (va_A [(a0, .inr (11, [.ref a1, .ref a2, .ref a3, .ref a4, .ref a5, .ref a6, .ref a7, .ref a8, .ref a9, .ref a10, .int 0, .int 0, .int (-1), .ref a11, .int 0, .ref a12, .int 0])), (a1, .inr (1, [.long 0, .int 1000, .int (-1), .int (-1), .int 0, .ref a13, .ref a14, .ref a15, .ref a16, .ref a17, .ref a18, .long 0, .ref a19])), (a15, .inr (6, [.int 5, .int 24, .ref a20, .int 0]))] sz) := by
  refine Met.ofW (cc := cX11_way) (maxL := 6) (ret := (some .int)) (by decide) rfl ?_
  intro p e s m args below meth c s₁ B hml hv
  obtain ⟨rfl, hsz, hP, hK, hD0, hN, hT⟩ := hv
  have hx := B.exec
  have hb := B.bytes
  have hr := B.returns
  have hts : ∀ w ∈ tblG, w.before _ s = true := fun w h => atoms_spec (ws := (wsG yX11_way cX11_way 6 (some .int))) B.pre w (List.mem_cons_of_mem _ h)
  have hown : s.vm.findClass RX11 = some m.cls := findClass_of_methodNamed B.named
  have hlocks := B.notSynchronized
  subst hsz
  have hD := hD0.self (sz := s.heap.size)
  generalize hAe : va_A [(a0, .inr (11, [.ref a1, .ref a2, .ref a3, .ref a4, .ref a5, .ref a6, .ref a7, .ref a8, .ref a9, .ref a10, .int 0, .int 0, .int (-1), .ref a11, .int 0, .ref a12, .int 0])), (a1, .inr (1, [.long 0, .int 1000, .int (-1), .int (-1), .int 0, .ref a13, .ref a14, .ref a15, .ref a16, .ref a17, .ref a18, .long 0, .ref a19])), (a15, .inr (6, [.int 5, .int 24, .ref a20, .int 0]))] s.heap.size = A at hD hT ⊢
  have hA : ∀ q : Nat, s.heap.size ≤ q → A q := fun q h => by rw [← hAe]; exact Or.inr h
  have hS : va_S A s.heap s.heap [] := va_S.rf
  have hP : va_P G.1 vwCl [(a0, .inr (11, [.ref a1, .ref a2, .ref a3, .ref a4, .ref a5, .ref a6, .ref a7, .ref a8, .ref a9, .ref a10, .int 0, .int 0, .int (-1), .ref a11, .int 0, .ref a12, .int 0])), (a1, .inr (1, [.long 0, .int 1000, .int (-1), .int (-1), .int 0, .ref a13, .ref a14, .ref a15, .ref a16, .ref a17, .ref a18, .long 0, .ref a19])), (a15, .inr (6, [.int 5, .int 24, .ref a20, .int 0]))] s.heap := hP
  have hl := lv_entry ([.ref a0, .int n0, .int n1, .int n2, .int n3]) (n := 6) (Nat.le_of_ble_eq_true rfl)
  rw [lg_entry_eq]
  generalize (lg_sl ([.ref a0, .int n0, .int n1, .int n2, .int n3]) ++ List.replicate (6 - (lg_sl ([.ref a0, .int n0, .int n1, .int n2, .int n3])).length) Slot.unset).toArray = ls at hl ⊢
  have hl : lv_has ls 6 [(0, .ref a0), (1, .int n0), (2, .int n1), (3, .int n2), (4, .int n3)] := hl
  refine lv_aload_n hx hb dX11_way_0 rfl (lv_at hl 0 rfl) ?_
  refine lv_iload_n hx hb dX11_way_1 rfl (lv_at hl 1 rfl) ?_
  refine lv_iload_n hx hb dX11_way_2 rfl (lv_at hl 2 rfl) ?_
  refine lv_iload_n hx hb dX11_way_3 rfl (lv_at hl 3 rfl) ?_
  have hPc := hP.sub (ws' := [(a0, .inr (11, [.ref a1, .ref a2, .ref a3, .ref a4, .ref a5, .ref a6, .ref a7, .ref a8, .ref a9, .ref a10, .int 0, .int 0, .int (-1), .ref a11, .int 0, .ref a12, .int 0])), (a1, .inr (1, [.long 0, .int 1000, .int (-1), .int (-1), .int 0, .ref a13, .ref a14, .ref a15, .ref a16, .ref a17, .ref a18, .long 0, .ref a19])), (a15, .inr (6, [.int 5, .int 24, .ref a20, .int 0]))]) [0, 1, 2] rfl
  have hDc := hD.sub (ws' := [(a0, .inr (11, [.ref a1, .ref a2, .ref a3, .ref a4, .ref a5, .ref a6, .ref a7, .ref a8, .ref a9, .ref a10, .int 0, .int 0, .int (-1), .ref a11, .int 0, .ref a12, .int 0])), (a1, .inr (1, [.long 0, .int 1000, .int (-1), .int (-1), .int 0, .ref a13, .ref a14, .ref a15, .ref a16, .ref a17, .ref a18, .long 0, .ref a19])), (a15, .inr (6, [.int 5, .int 24, .ref a20, .int 0]))]) [0, 1, 2] (by decide) rfl
  have hFc := va_free (wc := [(a0, .inr (11, [.ref a1, .ref a2, .ref a3, .ref a4, .ref a5, .ref a6, .ref a7, .ref a8, .ref a9, .ref a10, .int 0, .int 0, .int (-1), .ref a11, .int 0, .ref a12, .int 0])), (a1, .inr (1, [.long 0, .int 1000, .int (-1), .int (-1), .int 0, .ref a13, .ref a14, .ref a15, .ref a16, .ref a17, .ref a18, .long 0, .ref a19])), (a15, .inr (6, [.int 5, .int 24, .ref a20, .int 0]))]) hD hS hA [0, 1, 2] rfl
  refine va_calli (va_runV (As := [.int n0, .int n1, .int n2]) (rest := []) ⟨hx, hb, hml, hown, hts⟩ (kX11_canWalk l G a0 a1 a2 a3 a4 a5 a6 a7 a8 a9 a10 a11 a12 a13 a14 a15 a16 a17 a18 a19 a20 s.heap.size n0 n1 n2) (cwV 3 hts gV_X11_327 rfl rfl rfl hv_X11_canWalk ⟨Nat.le_of_ble_eq_true rfl, Nat.le_of_ble_eq_true rfl⟩) (g5_preV hPc hK hDc hN hT hS hFc (ci := 11) (q0 := 0) rfl rfl) rfl rfl hl.1 rfl (lv_room (Nat.le_of_ble_eq_true rfl)) dX11_way_4 ⟨Nat.le_of_ble_eq_true rfl, Nat.le_of_ble_eq_true rfl⟩) hS (fun q _ h => hFc q h) hFc (fun r u t H1 locs ht hvm hw hB hz1 hk1 hS => ?_)
  obtain ⟨hP1, hD1⟩ := hB
  rw [ht] at hP1
  rcases hw with ⟨i_1, rfl, rfl⟩ | ⟨i_2, i_3, rfl, rfl⟩
  ·
    obtain ⟨hP, hD⟩ := va_join (wr := []) (w1 := [(a0, .inr (11, [.ref a1, .ref a2, .ref a3, .ref a4, .ref a5, .ref a6, .ref a7, .ref a8, .ref a9, .ref a10, .int 0, .int 0, .int (-1), .ref a11, .int 0, .ref a12, .int 0])), (a1, .inr (1, [.long 0, .int 1000, .int (-1), .int (-1), .int 0, .ref a13, .ref a14, .ref a15, .ref a16, .ref a17, .ref a18, .long 0, .ref a19])), (a15, .inr (6, [.int 5, .int 24, .ref a20, .int 0]))]) hP hD [0, 1, 2] [] rfl rfl (by decide) (by decide) hk1 hFc hP1 hD1
    generalize H1 = H at hP hS ⊢
    have hP : va_P G.1 vwCl [(a0, .inr (11, [.ref a1, .ref a2, .ref a3, .ref a4, .ref a5, .ref a6, .ref a7, .ref a8, .ref a9, .ref a10, .int 0, .int 0, .int (-1), .ref a11, .int 0, .ref a12, .int 0])), (a1, .inr (1, [.long 0, .int 1000, .int (-1), .int (-1), .int 0, .ref a13, .ref a14, .ref a15, .ref a16, .ref a17, .ref a18, .long 0, .ref a19])), (a15, .inr (6, [.int 5, .int 24, .ref a20, .int 0]))] H := hP
    have hD : va_D A [(a0, .inr (11, [.ref a1, .ref a2, .ref a3, .ref a4, .ref a5, .ref a6, .ref a7, .ref a8, .ref a9, .ref a10, .int 0, .int 0, .int (-1), .ref a11, .int 0, .ref a12, .int 0])), (a1, .inr (1, [.long 0, .int 1000, .int (-1), .int (-1), .int 0, .ref a13, .ref a14, .ref a15, .ref a16, .ref a17, .ref a18, .long 0, .ref a19])), (a15, .inr (6, [.int 5, .int 24, .ref a20, .int 0]))] := hD
    refine lv_if_eq (tgt := 16) hx hb dX11_way_7 (by decide) (fun c_4 => ?_) (fun c_4 => ?_)
    ·
      refine lv_iconst (v := (-1)) hx hb dX11_way_16 (by decide) ?_
      have hP := hP.sub (ws' := []) [] rfl
      have hD := hD.sub (ws' := []) [] (by decide) rfl
      exact W.iret (v := (-1)) hx hb hr (fun t ht hW => ⟨⟨(-1), [], rfl, Or.inl (⟨i_1, rfl, rfl⟩), by rw [ht]; exact hP, hD⟩, hS.F ht⟩) hS.2.2 dX11_way_17
    ·
      exact absurd c_4 (by decide)
  ·
    obtain ⟨hP, hD⟩ := va_join (wr := []) (w1 := [(a0, .inr (11, [.ref a1, .ref a2, .ref a3, .ref a4, .ref a5, .ref a6, .ref a7, .ref a8, .ref a9, .ref a10, .int 0, .int 0, .int (-1), .ref a11, .int 0, .ref a12, .int 0])), (a1, .inr (1, [.long 0, .int 1000, .int (-1), .int (-1), .int 0, .ref a13, .ref a14, .ref a15, .ref a16, .ref a17, .ref a18, .long 0, .ref a19])), (a15, .inr (6, [.int 5, .int 24, .ref a20, .int 0]))]) hP hD [0, 1, 2] [] rfl rfl (by decide) (by decide) hk1 hFc hP1 hD1
    generalize H1 = H at hP hS ⊢
    have hP : va_P G.1 vwCl [(a0, .inr (11, [.ref a1, .ref a2, .ref a3, .ref a4, .ref a5, .ref a6, .ref a7, .ref a8, .ref a9, .ref a10, .int 0, .int 0, .int (-1), .ref a11, .int 0, .ref a12, .int 0])), (a1, .inr (1, [.long 0, .int 1000, .int (-1), .int (-1), .int 0, .ref a13, .ref a14, .ref a15, .ref a16, .ref a17, .ref a18, .long 0, .ref a19])), (a15, .inr (6, [.int 5, .int 24, .ref a20, .int 0]))] H := hP
    have hD : va_D A [(a0, .inr (11, [.ref a1, .ref a2, .ref a3, .ref a4, .ref a5, .ref a6, .ref a7, .ref a8, .ref a9, .ref a10, .int 0, .int 0, .int (-1), .ref a11, .int 0, .ref a12, .int 0])), (a1, .inr (1, [.long 0, .int 1000, .int (-1), .int (-1), .int 0, .ref a13, .ref a14, .ref a15, .ref a16, .ref a17, .ref a18, .long 0, .ref a19])), (a15, .inr (6, [.int 5, .int 24, .ref a20, .int 0]))] := hD
    refine lv_if_eq (tgt := 16) hx hb dX11_way_7 (by decide) (fun c_5 => ?_) (fun c_5 => ?_)
    ·
      refine lv_iconst (v := (-1)) hx hb dX11_way_16 (by decide) ?_
      have hP := hP.sub (ws' := []) [] rfl
      have hD := hD.sub (ws' := []) [] (by decide) rfl
      exact W.iret (v := (-1)) hx hb hr (fun t ht hW => ⟨⟨(-1), [], rfl, Or.inr (⟨i_2, i_3, rfl, rfl⟩), by rw [ht]; exact hP, hD⟩, hS.F ht⟩) hS.2.2 dX11_way_17
    ·
      exact absurd c_5 (by decide)
theorem dX11_sooner_0 : decode cX11_sooner 0 = .ok (.aload_n 0, 1) := by decide +kernel
theorem dX11_sooner_1 : decode cX11_sooner 1 = .ok (.iload_n 1, 1) := by decide +kernel
theorem dX11_sooner_2 : decode cX11_sooner 2 = .ok (.iload_n 2, 1) := by decide +kernel
theorem dX11_sooner_3 : decode cX11_sooner 3 = .ok (.iload_n 3, 1) := by decide +kernel
theorem dX11_sooner_4 : decode cX11_sooner 4 = .ok (.invokevirtual 327, 3) := by decide +kernel
theorem dX11_sooner_7 : decode cX11_sooner 7 = .ok (.ifCond .eq 14, 3) := by decide +kernel
theorem dX11_sooner_10 : decode cX11_sooner 10 = .ok (.iload 4, 2) := by decide +kernel
theorem dX11_sooner_12 : decode cX11_sooner 12 = .ok (.ifCond .lt 9, 3) := by decide +kernel
theorem dX11_sooner_15 : decode cX11_sooner 15 = .ok (.iload 4, 2) := by decide +kernel
theorem dX11_sooner_17 : decode cX11_sooner 17 = .ok (.iconst 2, 1) := by decide +kernel
theorem dX11_sooner_18 : decode cX11_sooner 18 = .ok (.if_icmp .le 5, 3) := by decide +kernel
theorem dX11_sooner_21 : decode cX11_sooner 21 = .ok (.iconst (-1), 1) := by decide +kernel
theorem dX11_sooner_22 : decode cX11_sooner 22 = .ok (.ireturn, 1) := by decide +kernel
theorem dX11_sooner_23 : decode cX11_sooner 23 = .ok (.aload_n 0, 1) := by decide +kernel
theorem dX11_sooner_24 : decode cX11_sooner 24 = .ok (.getfield 59, 3) := by decide +kernel
theorem dX11_sooner_27 : decode cX11_sooner 27 = .ok (.iload_n 1, 1) := by decide +kernel
theorem dX11_sooner_28 : decode cX11_sooner 28 = .ok (.iload_n 2, 1) := by decide +kernel
theorem dX11_sooner_29 : decode cX11_sooner 29 = .ok (.iload_n 3, 1) := by decide +kernel
theorem dX11_sooner_30 : decode cX11_sooner 30 = .ok (.bipush 24, 2) := by decide +kernel
theorem dX11_sooner_32 : decode cX11_sooner 32 = .ok (.invokevirtual 330, 3) := by decide +kernel
theorem dX11_sooner_35 : decode cX11_sooner 35 = .ok (.istore 5, 2) := by decide +kernel
theorem dX11_sooner_37 : decode cX11_sooner 37 = .ok (.iload 5, 2) := by decide +kernel
theorem dX11_sooner_39 : decode cX11_sooner 39 = .ok (.iconst (-1), 1) := by decide +kernel
theorem dX11_sooner_40 : decode cX11_sooner 40 = .ok (.if_icmp .ne 8, 3) := by decide +kernel
theorem dX11_sooner_43 : decode cX11_sooner 43 = .ok (.bipush 24, 2) := by decide +kernel
theorem dX11_sooner_45 : decode cX11_sooner 45 = .ok (.goto 5, 3) := by decide +kernel
theorem dX11_sooner_48 : decode cX11_sooner 48 = .ok (.iload 5, 2) := by decide +kernel
theorem dX11_sooner_50 : decode cX11_sooner 50 = .ok (.istore 6, 2) := by decide +kernel
theorem dX11_sooner_52 : decode cX11_sooner 52 = .ok (.iconst (-1), 1) := by decide +kernel
theorem dX11_sooner_53 : decode cX11_sooner 53 = .ok (.istore 7, 2) := by decide +kernel
theorem dX11_sooner_55 : decode cX11_sooner 55 = .ok (.iconst 0, 1) := by decide +kernel
theorem dX11_sooner_56 : decode cX11_sooner 56 = .ok (.istore 8, 2) := by decide +kernel
theorem dX11_sooner_58 : decode cX11_sooner 58 = .ok (.iload 8, 2) := by decide +kernel
theorem dX11_sooner_60 : decode cX11_sooner 60 = .ok (.aload_n 0, 1) := by decide +kernel
theorem dX11_sooner_61 : decode cX11_sooner 61 = .ok (.getfield 12, 3) := by decide +kernel
theorem dX11_sooner_64 : decode cX11_sooner 64 = .ok (.getfield 136, 3) := by decide +kernel
theorem dX11_sooner_67 : decode cX11_sooner 67 = .ok (.getfield 238, 3) := by decide +kernel
theorem dX11_sooner_70 : decode cX11_sooner 70 = .ok (.if_icmp .ge 132, 3) := by decide +kernel
theorem dX11_sooner_73 : decode cX11_sooner 73 = .ok (.aload_n 0, 1) := by decide +kernel
theorem dX11_sooner_74 : decode cX11_sooner 74 = .ok (.getfield 12, 3) := by decide +kernel
theorem dX11_sooner_77 : decode cX11_sooner 77 = .ok (.getfield 136, 3) := by decide +kernel
theorem dX11_sooner_80 : decode cX11_sooner 80 = .ok (.iload 8, 2) := by decide +kernel
theorem dX11_sooner_82 : decode cX11_sooner 82 = .ok (.iconst 1, 1) := by decide +kernel
theorem dX11_sooner_83 : decode cX11_sooner 83 = .ok (.invokevirtual 163, 3) := by decide +kernel
theorem dX11_sooner_86 : decode cX11_sooner 86 = .ok (.istore 9, 2) := by decide +kernel
theorem dX11_sooner_88 : decode cX11_sooner 88 = .ok (.iconst 0, 1) := by decide +kernel
theorem dX11_sooner_89 : decode cX11_sooner 89 = .ok (.istore 10, 2) := by decide +kernel
theorem dX11_sooner_91 : decode cX11_sooner 91 = .ok (.iload 10, 2) := by decide +kernel
theorem dX11_sooner_93 : decode cX11_sooner 93 = .ok (.bipush 6, 2) := by decide +kernel
theorem dX11_sooner_95 : decode cX11_sooner 95 = .ok (.if_icmp .ge 86, 3) := by decide +kernel
theorem dX11_sooner_98 : decode cX11_sooner 98 = .ok (.aload_n 0, 1) := by decide +kernel
theorem dX11_sooner_99 : decode cX11_sooner 99 = .ok (.getfield 12, 3) := by decide +kernel
theorem dX11_sooner_102 : decode cX11_sooner 102 = .ok (.getfield 136, 3) := by decide +kernel
theorem dX11_sooner_105 : decode cX11_sooner 105 = .ok (.iload 8, 2) := by decide +kernel
theorem dX11_sooner_107 : decode cX11_sooner 107 = .ok (.iconst 1, 1) := by decide +kernel
theorem dX11_sooner_108 : decode cX11_sooner 108 = .ok (.iload 10, 2) := by decide +kernel
theorem dX11_sooner_110 : decode cX11_sooner 110 = .ok (.invokevirtual 149, 3) := by decide +kernel
theorem dX11_sooner_113 : decode cX11_sooner 113 = .ok (.iload 10, 2) := by decide +kernel
theorem dX11_sooner_115 : decode cX11_sooner 115 = .ok (.iload 9, 2) := by decide +kernel
theorem dX11_sooner_117 : decode cX11_sooner 117 = .ok (.if_icmp .ne 7, 3) := by decide +kernel
theorem dX11_sooner_120 : decode cX11_sooner 120 = .ok (.iconst (-1), 1) := by decide +kernel
theorem dX11_sooner_121 : decode cX11_sooner 121 = .ok (.goto 17, 3) := by decide +kernel
theorem dX11_sooner_124 : decode cX11_sooner 124 = .ok (.aload_n 0, 1) := by decide +kernel
theorem dX11_sooner_125 : decode cX11_sooner 125 = .ok (.getfield 59, 3) := by decide +kernel
theorem dX11_sooner_128 : decode cX11_sooner 128 = .ok (.iload 8, 2) := by decide +kernel
theorem dX11_sooner_130 : decode cX11_sooner 130 = .ok (.iload_n 1, 1) := by decide +kernel
theorem dX11_sooner_131 : decode cX11_sooner 131 = .ok (.iload_n 2, 1) := by decide +kernel
theorem dX11_sooner_132 : decode cX11_sooner 132 = .ok (.iload_n 3, 1) := by decide +kernel
theorem dX11_sooner_133 : decode cX11_sooner 133 = .ok (.iload 6, 2) := by decide +kernel
theorem dX11_sooner_135 : decode cX11_sooner 135 = .ok (.invokevirtual 336, 3) := by decide +kernel
theorem dX11_sooner_138 : decode cX11_sooner 138 = .ok (.istore 11, 2) := by decide +kernel
theorem dX11_sooner_140 : decode cX11_sooner 140 = .ok (.iload 11, 2) := by decide +kernel
theorem dX11_sooner_142 : decode cX11_sooner 142 = .ok (.iconst (-1), 1) := by decide +kernel
theorem dX11_sooner_143 : decode cX11_sooner 143 = .ok (.if_icmp .eq 32, 3) := by decide +kernel
theorem dX11_sooner_146 : decode cX11_sooner 146 = .ok (.iload 11, 2) := by decide +kernel
theorem dX11_sooner_148 : decode cX11_sooner 148 = .ok (.istore 6, 2) := by decide +kernel
theorem dX11_sooner_150 : decode cX11_sooner 150 = .ok (.iload 4, 2) := by decide +kernel
theorem dX11_sooner_152 : decode cX11_sooner 152 = .ok (.ifCond .ne 8, 3) := by decide +kernel
theorem dX11_sooner_155 : decode cX11_sooner 155 = .ok (.iload 11, 2) := by decide +kernel
theorem dX11_sooner_157 : decode cX11_sooner 157 = .ok (.goto 16, 3) := by decide +kernel
theorem dX11_sooner_160 : decode cX11_sooner 160 = .ok (.iload 4, 2) := by decide +kernel
theorem dX11_sooner_162 : decode cX11_sooner 162 = .ok (.iconst 1, 1) := by decide +kernel
theorem dX11_sooner_163 : decode cX11_sooner 163 = .ok (.if_icmp .ne 8, 3) := by decide +kernel
theorem dX11_sooner_166 : decode cX11_sooner 166 = .ok (.iload 8, 2) := by decide +kernel
theorem dX11_sooner_168 : decode cX11_sooner 168 = .ok (.goto 5, 3) := by decide +kernel
theorem dX11_sooner_171 : decode cX11_sooner 171 = .ok (.iload 10, 2) := by decide +kernel
theorem dX11_sooner_173 : decode cX11_sooner 173 = .ok (.istore 7, 2) := by decide +kernel
theorem dX11_sooner_175 : decode cX11_sooner 175 = .ok (.iinc 10 1, 3) := by decide +kernel
theorem dX11_sooner_178 : decode cX11_sooner 178 = .ok (.goto (-87), 3) := by decide +kernel
theorem dX11_sooner_181 : decode cX11_sooner 181 = .ok (.aload_n 0, 1) := by decide +kernel
theorem dX11_sooner_182 : decode cX11_sooner 182 = .ok (.getfield 12, 3) := by decide +kernel
theorem dX11_sooner_185 : decode cX11_sooner 185 = .ok (.getfield 136, 3) := by decide +kernel
theorem dX11_sooner_188 : decode cX11_sooner 188 = .ok (.iload 8, 2) := by decide +kernel
theorem dX11_sooner_190 : decode cX11_sooner 190 = .ok (.iconst 1, 1) := by decide +kernel
theorem dX11_sooner_191 : decode cX11_sooner 191 = .ok (.iload 9, 2) := by decide +kernel
theorem dX11_sooner_193 : decode cX11_sooner 193 = .ok (.invokevirtual 149, 3) := by decide +kernel
theorem dX11_sooner_196 : decode cX11_sooner 196 = .ok (.iinc 8 1, 3) := by decide +kernel
theorem dX11_sooner_199 : decode cX11_sooner 199 = .ok (.goto (-141), 3) := by decide +kernel
theorem dX11_sooner_202 : decode cX11_sooner 202 = .ok (.iload 7, 2) := by decide +kernel
theorem dX11_sooner_204 : decode cX11_sooner 204 = .ok (.ireturn, 1) := by decide +kernel
set_option maxHeartbeats 4000000 in
set_option maxRecDepth 100000 in
theorem kX11_sooner (l : Launch) (G : g5_G) (a0 a1 a2 a3 a4 a5 a6 a7 a8 a9 a10 a11 a12 a13 a14 a15 a16 a17 a18 a19 a20 : Nat) (sz : Nat) (n0 : Int32) (n1 : Int32) (n2 : Int32) (n3 : Int32) : Met l yX11_sooner (wsG yX11_sooner cX11_sooner 12 (some .int)) ({ frames := 2, cells := 0, slots := 0, locals := 44 }) (va_Pc [.ref a0, .int n0, .int n1, .int n2, .int n3] (g5_P G [(a0, .inr (11, [.ref a1, .ref a2, .ref a3, .ref a4, .ref a5, .ref a6, .ref a7, .ref a8, .ref a9, .ref a10, .int 0, .int 0, .int (-1), .ref a11, .int 0, .ref a12, .int 0])), (a1, .inr (1, [.long 0, .int 1000, .int (-1), .int (-1), .int 0, .ref a13, .ref a14, .ref a15, .ref a16, .ref a17, .ref a18, .long 0, .ref a19])), (a15, .inr (6, [.int 5, .int 24, .ref a20, .int 0]))] sz)) (va_Qi (fun (r : Int32) (u : va_W) => ((n0.toInt < 0) ∧ (r = (-1)) ∧ (u = [])) ∨ ((n0.toInt ≥ 0) ∧ (n0.toInt ≥ 0) ∧ (r = (-1)) ∧ (u = []))) (g5_B G (va_A [(a0, .inr (11, [.ref a1, .ref a2, .ref a3, .ref a4, .ref a5, .ref a6, .ref a7, .ref a8, .ref a9, .ref a10, .int 0, .int 0, .int (-1), .ref a11, .int 0, .ref a12, .int 0])), (a1, .inr (1, [.long 0, .int 1000, .int (-1), .int (-1), .int 0, .ref a13, .ref a14, .ref a15, .ref a16, .ref a17, .ref a18, .long 0, .ref a19])), (a15, .inr (6, [.int 5, .int 24, .ref a20, .int 0]))] sz)) (va_A [(a0, .inr (11, [.ref a1, .ref a2, .ref a3, .ref a4, .ref a5, .ref a6, .ref a7, .ref a8, .ref a9, .ref a10, .int 0, .int 0, .int (-1), .ref a11, .int 0, .ref a12, .int 0])), (a1, .inr (1, [.long 0, .int 1000, .int (-1), .int (-1), .int 0, .ref a13, .ref a14, .ref a15, .ref a16, .ref a17, .ref a18, .long 0, .ref a19])), (a15, .inr (6, [.int 5, .int 24, .ref a20, .int 0]))] sz)) 0 0 (va_A [(a0, .inr (11, [.ref a1, .ref a2, .ref a3, .ref a4, .ref a5, .ref a6, .ref a7, .ref a8, .ref a9, .ref a10, .int 0, .int 0, .int (-1), .ref a11, .int 0, .ref a12, .int 0])), (a1, .inr (1, [.long 0, .int 1000, .int (-1), .int (-1), .int 0, .ref a13, .ref a14, .ref a15, .ref a16, .ref a17, .ref a18, .long 0, .ref a19])), (a15, .inr (6, [.int 5, .int 24, .ref a20, .int 0]))] sz) := by
  refine Met.ofW (cc := cX11_sooner) (maxL := 12) (ret := (some .int)) (by decide) rfl ?_
  intro p e s m args below meth c s₁ B hml hv
  obtain ⟨rfl, hsz, hP, hK, hD0, hN, hT⟩ := hv
  have hx := B.exec
  have hb := B.bytes
  have hr := B.returns
  have hts : ∀ w ∈ tblG, w.before _ s = true := fun w h => atoms_spec (ws := (wsG yX11_sooner cX11_sooner 12 (some .int))) B.pre w (List.mem_cons_of_mem _ h)
  have hown : s.vm.findClass RX11 = some m.cls := findClass_of_methodNamed B.named
  have hlocks := B.notSynchronized
  subst hsz
  have hD := hD0.self (sz := s.heap.size)
  generalize hAe : va_A [(a0, .inr (11, [.ref a1, .ref a2, .ref a3, .ref a4, .ref a5, .ref a6, .ref a7, .ref a8, .ref a9, .ref a10, .int 0, .int 0, .int (-1), .ref a11, .int 0, .ref a12, .int 0])), (a1, .inr (1, [.long 0, .int 1000, .int (-1), .int (-1), .int 0, .ref a13, .ref a14, .ref a15, .ref a16, .ref a17, .ref a18, .long 0, .ref a19])), (a15, .inr (6, [.int 5, .int 24, .ref a20, .int 0]))] s.heap.size = A at hD hT ⊢
  have hA : ∀ q : Nat, s.heap.size ≤ q → A q := fun q h => by rw [← hAe]; exact Or.inr h
  have hS : va_S A s.heap s.heap [] := va_S.rf
  have hP : va_P G.1 vwCl [(a0, .inr (11, [.ref a1, .ref a2, .ref a3, .ref a4, .ref a5, .ref a6, .ref a7, .ref a8, .ref a9, .ref a10, .int 0, .int 0, .int (-1), .ref a11, .int 0, .ref a12, .int 0])), (a1, .inr (1, [.long 0, .int 1000, .int (-1), .int (-1), .int 0, .ref a13, .ref a14, .ref a15, .ref a16, .ref a17, .ref a18, .long 0, .ref a19])), (a15, .inr (6, [.int 5, .int 24, .ref a20, .int 0]))] s.heap := hP
  have hl := lv_entry ([.ref a0, .int n0, .int n1, .int n2, .int n3]) (n := 12) (Nat.le_of_ble_eq_true rfl)
  rw [lg_entry_eq]
  generalize (lg_sl ([.ref a0, .int n0, .int n1, .int n2, .int n3]) ++ List.replicate (12 - (lg_sl ([.ref a0, .int n0, .int n1, .int n2, .int n3])).length) Slot.unset).toArray = ls at hl ⊢
  have hl : lv_has ls 12 [(0, .ref a0), (1, .int n0), (2, .int n1), (3, .int n2), (4, .int n3)] := hl
  refine lv_aload_n hx hb dX11_sooner_0 rfl (lv_at hl 0 rfl) ?_
  refine lv_iload_n hx hb dX11_sooner_1 rfl (lv_at hl 1 rfl) ?_
  refine lv_iload_n hx hb dX11_sooner_2 rfl (lv_at hl 2 rfl) ?_
  refine lv_iload_n hx hb dX11_sooner_3 rfl (lv_at hl 3 rfl) ?_
  have hPc := hP.sub (ws' := [(a0, .inr (11, [.ref a1, .ref a2, .ref a3, .ref a4, .ref a5, .ref a6, .ref a7, .ref a8, .ref a9, .ref a10, .int 0, .int 0, .int (-1), .ref a11, .int 0, .ref a12, .int 0])), (a1, .inr (1, [.long 0, .int 1000, .int (-1), .int (-1), .int 0, .ref a13, .ref a14, .ref a15, .ref a16, .ref a17, .ref a18, .long 0, .ref a19])), (a15, .inr (6, [.int 5, .int 24, .ref a20, .int 0]))]) [0, 1, 2] rfl
  have hDc := hD.sub (ws' := [(a0, .inr (11, [.ref a1, .ref a2, .ref a3, .ref a4, .ref a5, .ref a6, .ref a7, .ref a8, .ref a9, .ref a10, .int 0, .int 0, .int (-1), .ref a11, .int 0, .ref a12, .int 0])), (a1, .inr (1, [.long 0, .int 1000, .int (-1), .int (-1), .int 0, .ref a13, .ref a14, .ref a15, .ref a16, .ref a17, .ref a18, .long 0, .ref a19])), (a15, .inr (6, [.int 5, .int 24, .ref a20, .int 0]))]) [0, 1, 2] (by decide) rfl
  have hFc := va_free (wc := [(a0, .inr (11, [.ref a1, .ref a2, .ref a3, .ref a4, .ref a5, .ref a6, .ref a7, .ref a8, .ref a9, .ref a10, .int 0, .int 0, .int (-1), .ref a11, .int 0, .ref a12, .int 0])), (a1, .inr (1, [.long 0, .int 1000, .int (-1), .int (-1), .int 0, .ref a13, .ref a14, .ref a15, .ref a16, .ref a17, .ref a18, .long 0, .ref a19])), (a15, .inr (6, [.int 5, .int 24, .ref a20, .int 0]))]) hD hS hA [0, 1, 2] rfl
  refine va_calli (va_runV (As := [.int n0, .int n1, .int n2]) (rest := []) ⟨hx, hb, hml, hown, hts⟩ (kX11_canWalk l G a0 a1 a2 a3 a4 a5 a6 a7 a8 a9 a10 a11 a12 a13 a14 a15 a16 a17 a18 a19 a20 s.heap.size n0 n1 n2) (cwV 3 hts gV_X11_327 rfl rfl rfl hv_X11_canWalk ⟨Nat.le_of_ble_eq_true rfl, Nat.le_of_ble_eq_true rfl⟩) (g5_preV hPc hK hDc hN hT hS hFc (ci := 11) (q0 := 0) rfl rfl) rfl rfl hl.1 rfl (lv_room (Nat.le_of_ble_eq_true rfl)) dX11_sooner_4 ⟨Nat.le_of_ble_eq_true rfl, Nat.le_of_ble_eq_true rfl⟩) hS (fun q _ h => hFc q h) hFc (fun r u t H1 locs ht hvm hw hB hz1 hk1 hS => ?_)
  obtain ⟨hP1, hD1⟩ := hB
  rw [ht] at hP1
  rcases hw with ⟨i_1, rfl, rfl⟩ | ⟨i_2, i_3, rfl, rfl⟩
  ·
    obtain ⟨hP, hD⟩ := va_join (wr := []) (w1 := [(a0, .inr (11, [.ref a1, .ref a2, .ref a3, .ref a4, .ref a5, .ref a6, .ref a7, .ref a8, .ref a9, .ref a10, .int 0, .int 0, .int (-1), .ref a11, .int 0, .ref a12, .int 0])), (a1, .inr (1, [.long 0, .int 1000, .int (-1), .int (-1), .int 0, .ref a13, .ref a14, .ref a15, .ref a16, .ref a17, .ref a18, .long 0, .ref a19])), (a15, .inr (6, [.int 5, .int 24, .ref a20, .int 0]))]) hP hD [0, 1, 2] [] rfl rfl (by decide) (by decide) hk1 hFc hP1 hD1
    generalize H1 = H at hP hS ⊢
    have hP : va_P G.1 vwCl [(a0, .inr (11, [.ref a1, .ref a2, .ref a3, .ref a4, .ref a5, .ref a6, .ref a7, .ref a8, .ref a9, .ref a10, .int 0, .int 0, .int (-1), .ref a11, .int 0, .ref a12, .int 0])), (a1, .inr (1, [.long 0, .int 1000, .int (-1), .int (-1), .int 0, .ref a13, .ref a14, .ref a15, .ref a16, .ref a17, .ref a18, .long 0, .ref a19])), (a15, .inr (6, [.int 5, .int 24, .ref a20, .int 0]))] H := hP
    have hD : va_D A [(a0, .inr (11, [.ref a1, .ref a2, .ref a3, .ref a4, .ref a5, .ref a6, .ref a7, .ref a8, .ref a9, .ref a10, .int 0, .int 0, .int (-1), .ref a11, .int 0, .ref a12, .int 0])), (a1, .inr (1, [.long 0, .int 1000, .int (-1), .int (-1), .int 0, .ref a13, .ref a14, .ref a15, .ref a16, .ref a17, .ref a18, .long 0, .ref a19])), (a15, .inr (6, [.int 5, .int 24, .ref a20, .int 0]))] := hD
    refine lv_if_eq (tgt := 21) hx hb dX11_sooner_7 (by decide) (fun c_4 => ?_) (fun c_4 => ?_)
    ·
      refine lv_iconst (v := (-1)) hx hb dX11_sooner_21 (by decide) ?_
      have hP := hP.sub (ws' := []) [] rfl
      have hD := hD.sub (ws' := []) [] (by decide) rfl
      exact W.iret (v := (-1)) hx hb hr (fun t ht hW => ⟨⟨(-1), [], rfl, Or.inl (⟨i_1, rfl, rfl⟩), by rw [ht]; exact hP, hD⟩, hS.F ht⟩) hS.2.2 dX11_sooner_22
    ·
      exact absurd c_4 (by decide)
  ·
    obtain ⟨hP, hD⟩ := va_join (wr := []) (w1 := [(a0, .inr (11, [.ref a1, .ref a2, .ref a3, .ref a4, .ref a5, .ref a6, .ref a7, .ref a8, .ref a9, .ref a10, .int 0, .int 0, .int (-1), .ref a11, .int 0, .ref a12, .int 0])), (a1, .inr (1, [.long 0, .int 1000, .int (-1), .int (-1), .int 0, .ref a13, .ref a14, .ref a15, .ref a16, .ref a17, .ref a18, .long 0, .ref a19])), (a15, .inr (6, [.int 5, .int 24, .ref a20, .int 0]))]) hP hD [0, 1, 2] [] rfl rfl (by decide) (by decide) hk1 hFc hP1 hD1
    generalize H1 = H at hP hS ⊢
    have hP : va_P G.1 vwCl [(a0, .inr (11, [.ref a1, .ref a2, .ref a3, .ref a4, .ref a5, .ref a6, .ref a7, .ref a8, .ref a9, .ref a10, .int 0, .int 0, .int (-1), .ref a11, .int 0, .ref a12, .int 0])), (a1, .inr (1, [.long 0, .int 1000, .int (-1), .int (-1), .int 0, .ref a13, .ref a14, .ref a15, .ref a16, .ref a17, .ref a18, .long 0, .ref a19])), (a15, .inr (6, [.int 5, .int 24, .ref a20, .int 0]))] H := hP
    have hD : va_D A [(a0, .inr (11, [.ref a1, .ref a2, .ref a3, .ref a4, .ref a5, .ref a6, .ref a7, .ref a8, .ref a9, .ref a10, .int 0, .int 0, .int (-1), .ref a11, .int 0, .ref a12, .int 0])), (a1, .inr (1, [.long 0, .int 1000, .int (-1), .int (-1), .int 0, .ref a13, .ref a14, .ref a15, .ref a16, .ref a17, .ref a18, .long 0, .ref a19])), (a15, .inr (6, [.int 5, .int 24, .ref a20, .int 0]))] := hD
    refine lv_if_eq (tgt := 21) hx hb dX11_sooner_7 (by decide) (fun c_5 => ?_) (fun c_5 => ?_)
    ·
      refine lv_iconst (v := (-1)) hx hb dX11_sooner_21 (by decide) ?_
      have hP := hP.sub (ws' := []) [] rfl
      have hD := hD.sub (ws' := []) [] (by decide) rfl
      exact W.iret (v := (-1)) hx hb hr (fun t ht hW => ⟨⟨(-1), [], rfl, Or.inr (⟨i_2, i_3, rfl, rfl⟩), by rw [ht]; exact hP, hD⟩, hS.F ht⟩) hS.2.2 dX11_sooner_22
    ·
      exact absurd c_5 (by decide)
theorem dX11_drawn_0 : decode cX11_drawn 0 = .ok (.aload_n 0, 1) := by decide +kernel
theorem dX11_drawn_1 : decode cX11_drawn 1 = .ok (.getfield 87, 3) := by decide +kernel
theorem dX11_drawn_4 : decode cX11_drawn 4 = .ok (.ifCond .eq 19, 3) := by decide +kernel
theorem dX11_drawn_7 : decode cX11_drawn 7 = .ok (.iload_n 1, 1) := by decide +kernel
theorem dX11_drawn_8 : decode cX11_drawn 8 = .ok (.invokestatic 127, 3) := by decide +kernel
theorem dX11_drawn_11 : decode cX11_drawn 11 = .ok (.ifCond .eq 12, 3) := by decide +kernel
theorem dX11_drawn_14 : decode cX11_drawn 14 = .ok (.aload_n 0, 1) := by decide +kernel
theorem dX11_drawn_15 : decode cX11_drawn 15 = .ok (.getfield 84, 3) := by decide +kernel
theorem dX11_drawn_18 : decode cX11_drawn 18 = .ok (.iload_n 1, 1) := by decide +kernel
theorem dX11_drawn_19 : decode cX11_drawn 19 = .ok (.iaload, 1) := by decide +kernel
theorem dX11_drawn_20 : decode cX11_drawn 20 = .ok (.goto 4, 3) := by decide +kernel
theorem dX11_drawn_23 : decode cX11_drawn 23 = .ok (.iconst (-1), 1) := by decide +kernel
theorem dX11_drawn_24 : decode cX11_drawn 24 = .ok (.ireturn, 1) := by decide +kernel
set_option maxHeartbeats 4000000 in
set_option maxRecDepth 100000 in
theorem kX11_drawn (l : Launch) (G : g5_G) (a0 a1 a2 a3 a4 a5 a6 a7 a8 a9 a10 a11 a12 : Nat) (sz : Nat) (n0 : Int32) : Met l yX11_drawn (wsG yX11_drawn cX11_drawn 2 (some .int)) ({ frames := 0, cells := 0, slots := 0, locals := 0 }) (va_Pc [.ref a0, .int n0] (g5_P G [(a0, .inr (11, [.ref a1, .ref a2, .ref a3, .ref a4, .ref a5, .ref a6, .ref a7, .ref a8, .ref a9, .ref a10, .int 0, .int 0, .int (-1), .ref a11, .int 0, .ref a12, .int 0]))] sz)) (va_Qi (fun (r : Int32) (u : va_W) => ((r = (-1)) ∧ (u = []))) (g5_B G (va_A [(a0, .inr (11, [.ref a1, .ref a2, .ref a3, .ref a4, .ref a5, .ref a6, .ref a7, .ref a8, .ref a9, .ref a10, .int 0, .int 0, .int (-1), .ref a11, .int 0, .ref a12, .int 0]))] sz)) (va_A [(a0, .inr (11, [.ref a1, .ref a2, .ref a3, .ref a4, .ref a5, .ref a6, .ref a7, .ref a8, .ref a9, .ref a10, .int 0, .int 0, .int (-1), .ref a11, .int 0, .ref a12, .int 0]))] sz)) 0 0 (va_A [(a0, .inr (11, [.ref a1, .ref a2, .ref a3, .ref a4, .ref a5, .ref a6, .ref a7, .ref a8, .ref a9, .ref a10, .int 0, .int 0, .int (-1), .ref a11, .int 0, .ref a12, .int 0]))] sz) := by
  refine Met.ofW (cc := cX11_drawn) (maxL := 2) (ret := (some .int)) (by decide) rfl ?_
  intro p e s m args below meth c s₁ B hml hv
  obtain ⟨rfl, hsz, hP, hK, hD0, hN, hT⟩ := hv
  have hx := B.exec
  have hb := B.bytes
  have hr := B.returns
  have hts : ∀ w ∈ tblG, w.before _ s = true := fun w h => atoms_spec (ws := (wsG yX11_drawn cX11_drawn 2 (some .int))) B.pre w (List.mem_cons_of_mem _ h)
  have hown : s.vm.findClass RX11 = some m.cls := findClass_of_methodNamed B.named
  have hlocks := B.notSynchronized
  subst hsz
  have hD := hD0.self (sz := s.heap.size)
  generalize hAe : va_A [(a0, .inr (11, [.ref a1, .ref a2, .ref a3, .ref a4, .ref a5, .ref a6, .ref a7, .ref a8, .ref a9, .ref a10, .int 0, .int 0, .int (-1), .ref a11, .int 0, .ref a12, .int 0]))] s.heap.size = A at hD hT ⊢
  have hA : ∀ q : Nat, s.heap.size ≤ q → A q := fun q h => by rw [← hAe]; exact Or.inr h
  have hS : va_S A s.heap s.heap [] := va_S.rf
  have hP : va_P G.1 vwCl [(a0, .inr (11, [.ref a1, .ref a2, .ref a3, .ref a4, .ref a5, .ref a6, .ref a7, .ref a8, .ref a9, .ref a10, .int 0, .int 0, .int (-1), .ref a11, .int 0, .ref a12, .int 0]))] s.heap := hP
  have hl := lv_entry ([.ref a0, .int n0]) (n := 2) (Nat.le_of_ble_eq_true rfl)
  rw [lg_entry_eq]
  generalize (lg_sl ([.ref a0, .int n0]) ++ List.replicate (2 - (lg_sl ([.ref a0, .int n0])).length) Slot.unset).toArray = ls at hl ⊢
  have hl : lv_has ls 2 [(0, .ref a0), (1, .int n0)] := hl
  refine lv_aload_n hx hb dX11_drawn_0 rfl (lv_at hl 0 rfl) ?_
  refine va_get (D := G.1) (ci := 11) (v := .int 0) (C := RX11) (T := TX11) (N := 17) hx hb hts inG_X11 hown hK hP 0 rfl rfl 14 (by decide) (hts _ fl_X11_87) (fun _ h9 => h9) rfl dX11_drawn_1 ?_
  refine lv_if_eq (tgt := 23) hx hb dX11_drawn_4 (by decide) (fun c_1 => ?_) (fun c_1 => ?_)
  ·
    refine lv_iconst (v := (-1)) hx hb dX11_drawn_23 (by decide) ?_
    have hP := hP.sub (ws' := []) [] rfl
    have hD := hD.sub (ws' := []) [] (by decide) rfl
    exact W.iret (v := (-1)) hx hb hr (fun t ht hW => ⟨⟨(-1), [], rfl, ⟨rfl, rfl⟩, by rw [ht]; exact hP, hD⟩, hS.F ht⟩) hS.2.2 dX11_drawn_24
  ·
    exact absurd c_1 (by decide)
theorem dX11_isImage_0 : decode cX11_isImage 0 = .ok (.iload_n 0, 1) := by decide +kernel
theorem dX11_isImage_1 : decode cX11_isImage 1 = .ok (.ifCond .lt 12, 3) := by decide +kernel
theorem dX11_isImage_4 : decode cX11_isImage 4 = .ok (.iload_n 0, 1) := by decide +kernel
theorem dX11_isImage_5 : decode cX11_isImage 5 = .ok (.iconst 2, 1) := by decide +kernel
theorem dX11_isImage_6 : decode cX11_isImage 6 = .ok (.if_icmp .ge 7, 3) := by decide +kernel
theorem dX11_isImage_9 : decode cX11_isImage 9 = .ok (.iconst 1, 1) := by decide +kernel
theorem dX11_isImage_10 : decode cX11_isImage 10 = .ok (.goto 4, 3) := by decide +kernel
theorem dX11_isImage_13 : decode cX11_isImage 13 = .ok (.iconst 0, 1) := by decide +kernel
theorem dX11_isImage_14 : decode cX11_isImage 14 = .ok (.ireturn, 1) := by decide +kernel
set_option maxHeartbeats 4000000 in
set_option maxRecDepth 100000 in
theorem kX11_isImage (l : Launch) (G : g5_G) (sz : Nat) (n0 : Int32) : Met l yX11_isImage (wsG yX11_isImage cX11_isImage 1 (some .boolean)) ({ frames := 0, cells := 0, slots := 0, locals := 0 }) (va_Pc [.int n0] (g5_P G [] sz)) (va_Qi (fun (r : Int32) (u : va_W) => ((n0.toInt < 0) ∧ (r = 0) ∧ (u = [])) ∨ ((n0.toInt ≥ 0) ∧ (n0.toInt ≥ 2) ∧ (r = 0) ∧ (u = [])) ∨ ((n0.toInt ≥ 0) ∧ (n0.toInt < 2) ∧ (r = 1) ∧ (u = []))) (g5_B G (va_A [] sz)) (va_A [] sz)) 0 0 (va_A [] sz) := by
  refine Met.ofW (cc := cX11_isImage) (maxL := 1) (ret := (some .boolean)) (by decide) rfl ?_
  intro p e s m args below meth c s₁ B hml hv
  obtain ⟨rfl, hsz, hP, hK, hD0, hN, hT⟩ := hv
  have hx := B.exec
  have hb := B.bytes
  have hr := B.returns
  have hts : ∀ w ∈ tblG, w.before _ s = true := fun w h => atoms_spec (ws := (wsG yX11_isImage cX11_isImage 1 (some .boolean))) B.pre w (List.mem_cons_of_mem _ h)
  have hown : s.vm.findClass RX11 = some m.cls := findClass_of_methodNamed B.named
  have hlocks := B.notSynchronized
  subst hsz
  have hD := hD0.self (sz := s.heap.size)
  generalize hAe : va_A [] s.heap.size = A at hD hT ⊢
  have hA : ∀ q : Nat, s.heap.size ≤ q → A q := fun q h => by rw [← hAe]; exact Or.inr h
  have hS : va_S A s.heap s.heap [] := va_S.rf
  have hP : va_P G.1 vwCl [] s.heap := hP
  have hl := lv_entry ([.int n0]) (n := 1) (Nat.le_of_ble_eq_true rfl)
  rw [lg_entry_eq]
  generalize (lg_sl ([.int n0]) ++ List.replicate (1 - (lg_sl ([.int n0])).length) Slot.unset).toArray = ls at hl ⊢
  have hl : lv_has ls 1 [(0, .int n0)] := hl
  refine lv_iload_n hx hb dX11_isImage_0 rfl (lv_at hl 0 rfl) ?_
  refine lv_if_lt (tgt := 13) hx hb dX11_isImage_1 (by decide) (fun c_1 => ?_) (fun c_1 => ?_)
  ·
    have i_1 : n0.toInt < 0 := by have z := g5_lt (a := n0.toInt) (b := 0) (by rfl) (by decide) c_1; omega
    refine lv_iconst (v := 0) hx hb dX11_isImage_13 (by decide) ?_
    exact W.zret (v := 0) hx hb hr rfl (fun t ht hW => ⟨⟨0, [], rfl, Or.inl (⟨i_1, rfl, rfl⟩), by rw [ht]; exact hP, hD⟩, hS.F ht⟩) hS.2.2 dX11_isImage_14
  ·
    have i_1 : n0.toInt ≥ 0 := by have z := g5_ltN (a := n0.toInt) (b := 0) (by rfl) (by decide) c_1; omega
    refine lv_iload_n hx hb dX11_isImage_4 rfl (lv_at hl 0 rfl) ?_
    refine lv_iconst (v := 2) hx hb dX11_isImage_5 (by decide) ?_
    refine lv_icmp_ge (tgt := 13) hx hb dX11_isImage_6 (by decide) (fun c_2 => ?_) (fun c_2 => ?_)
    ·
      have i_2 : n0.toInt ≥ 2 := by have z := g5_ge (a := n0.toInt) (b := 2) (by rfl) (by decide) c_2; omega
      refine lv_iconst (v := 0) hx hb dX11_isImage_13 (by decide) ?_
      exact W.zret (v := 0) hx hb hr rfl (fun t ht hW => ⟨⟨0, [], rfl, Or.inr (Or.inl (⟨i_1, i_2, rfl, rfl⟩)), by rw [ht]; exact hP, hD⟩, hS.F ht⟩) hS.2.2 dX11_isImage_14
    ·
      have i_2 : n0.toInt < 2 := by have z := g5_geN (a := n0.toInt) (b := 2) (by rfl) (by decide) c_2; omega
      refine lv_iconst (v := 1) hx hb dX11_isImage_9 (by decide) ?_
      refine lv_goto (tgt := 14) hx hb dX11_isImage_10 (by decide) ?_
      exact W.zret (v := 1) hx hb hr rfl (fun t ht hW => ⟨⟨1, [], rfl, Or.inr (Or.inr (⟨i_1, i_2, rfl, rfl⟩)), by rw [ht]; exact hP, hD⟩, hS.F ht⟩) hS.2.2 dX11_isImage_14
theorem ml_X11_351 : Cond.methodLink RX11 351 yX11_isImage ∈ tblG := tg 1160 (by decide +kernel) (by decide +kernel)
theorem st_X11_isImage : Cond.static yX11_isImage ∈ tblG := tg 1161 (by decide +kernel) (by decide +kernel)
theorem cd_X11_isImage : Cond.code yX11_isImage cX11_isImage 1 (some .boolean) ∈ tblG := tg 1162 (by decide +kernel) (by decide +kernel)
theorem gW_X11_isImage : GoodIn tblG (wsG yX11_isImage cX11_isImage 1 (some .boolean)) := tgi cd_X11_isImage
theorem gS_X11_351 : GoodIn tblG (va_wsS RX11 351 yX11_isImage (wsG yX11_isImage cX11_isImage 1 (some .boolean))) := tgS ml_X11_351 st_X11_isImage ini_X11 gW_X11_isImage
theorem hs_X11_isImage : yX11_isImage.cls ≠ "java/lang/invoke/MethodHandle" ∧ yX11_isImage.cls ≠ "java/lang/invoke/VarHandle" ∧ (parseMethodDescriptor yX11_isImage.desc).map (fun d => d.parameters.length) = some 1 := by decide +kernel
theorem ml_X6_37 : Cond.methodLink RX6 37 arraycopyName ∈ tblG := tg 946 (by decide +kernel) (by decide +kernel)
theorem ac_nat : Cond.native arraycopyName ∈ tblG := tg 773 (by decide +kernel) (by decide +kernel)
theorem ac_st : Cond.static arraycopyName ∈ tblG := tg 772 (by decide +kernel) (by decide +kernel)
theorem ac_ini : Cond.initialized "java/lang/System" ∈ tblG := tg 107 (by decide +kernel) (by decide +kernel)
theorem dX6_copyFrom_0 : decode cX6_copyFrom 0 = .ok (.aload_n 1, 1) := by decide +kernel
theorem dX6_copyFrom_1 : decode cX6_copyFrom 1 = .ok (.getfield 21, 3) := by decide +kernel
theorem dX6_copyFrom_4 : decode cX6_copyFrom 4 = .ok (.arraylength, 1) := by decide +kernel
theorem dX6_copyFrom_5 : decode cX6_copyFrom 5 = .ok (.aload_n 0, 1) := by decide +kernel
theorem dX6_copyFrom_6 : decode cX6_copyFrom 6 = .ok (.getfield 21, 3) := by decide +kernel
theorem dX6_copyFrom_9 : decode cX6_copyFrom 9 = .ok (.arraylength, 1) := by decide +kernel
theorem dX6_copyFrom_10 : decode cX6_copyFrom 10 = .ok (.if_icmp .ne 29, 3) := by decide +kernel
theorem dX6_copyFrom_13 : decode cX6_copyFrom 13 = .ok (.aload_n 1, 1) := by decide +kernel
theorem dX6_copyFrom_14 : decode cX6_copyFrom 14 = .ok (.getfield 21, 3) := by decide +kernel
theorem dX6_copyFrom_17 : decode cX6_copyFrom 17 = .ok (.iconst 0, 1) := by decide +kernel
theorem dX6_copyFrom_18 : decode cX6_copyFrom 18 = .ok (.aload_n 0, 1) := by decide +kernel
theorem dX6_copyFrom_19 : decode cX6_copyFrom 19 = .ok (.getfield 21, 3) := by decide +kernel
theorem dX6_copyFrom_22 : decode cX6_copyFrom 22 = .ok (.iconst 0, 1) := by decide +kernel
theorem dX6_copyFrom_23 : decode cX6_copyFrom 23 = .ok (.aload_n 0, 1) := by decide +kernel
theorem dX6_copyFrom_24 : decode cX6_copyFrom 24 = .ok (.getfield 21, 3) := by decide +kernel
theorem dX6_copyFrom_27 : decode cX6_copyFrom 27 = .ok (.arraylength, 1) := by decide +kernel
theorem dX6_copyFrom_28 : decode cX6_copyFrom 28 = .ok (.invokestatic 37, 3) := by decide +kernel
theorem dX6_copyFrom_31 : decode cX6_copyFrom 31 = .ok (.aload_n 0, 1) := by decide +kernel
theorem dX6_copyFrom_32 : decode cX6_copyFrom 32 = .ok (.aload_n 1, 1) := by decide +kernel
theorem dX6_copyFrom_33 : decode cX6_copyFrom 33 = .ok (.getfield 9, 3) := by decide +kernel
theorem dX6_copyFrom_36 : decode cX6_copyFrom 36 = .ok (.putfield 9, 3) := by decide +kernel
theorem dX6_copyFrom_39 : decode cX6_copyFrom 39 = .ok (.return_, 1) := by decide +kernel
set_option maxHeartbeats 4000000 in
set_option maxRecDepth 100000 in
theorem kX6_copyFrom (l : Launch) (G : g5_G) (a0 a1 a2 a3 : Nat) (sz : Nat) : Met l yX6_copyFrom (wsG yX6_copyFrom cX6_copyFrom 2 none) ({ frames := 1, cells := 0, slots := 0, locals := 60 }) (va_Pc [.ref a0, .ref a1] (g5_P G [(a0, .inr (6, [.int 6, .int 5, .ref a2, .int 0])), (a1, .inr (6, [.int 6, .int 5, .ref a3, .int 0])), (a3, .inl (G.2 0, 30, .inl (fun _ => 0))), (a2, .inl (G.2 0, 30, .inl (fun _ => 0)))] sz)) (va_Qv (fun (u : va_W) => ((u = [(a0, .inr (6, [.int 6, .int 5, .ref a2, .int 0])), (a1, .inr (6, [.int 6, .int 5, .ref a3, .int 0])), (a3, .inl (G.2 0, 30, .inl (fun _ => 0))), (a2, .inl (G.2 0, 30, .inl (va_cpy (fun _ => 0) (fun _ => 0) 0 0 30)))]))) (g5_B G (va_A [(a0, .inr (6, [.int 6, .int 5, .ref a2, .int 0])), (a1, .inr (6, [.int 6, .int 5, .ref a3, .int 0])), (a3, .inl (G.2 0, 30, .inl (fun _ => 0))), (a2, .inl (G.2 0, 30, .inl (fun _ => 0)))] sz)) (va_A [(a0, .inr (6, [.int 6, .int 5, .ref a2, .int 0])), (a1, .inr (6, [.int 6, .int 5, .ref a3, .int 0])), (a3, .inl (G.2 0, 30, .inl (fun _ => 0))), (a2, .inl (G.2 0, 30, .inl (fun _ => 0)))] sz)) 0 0 (va_A [(a0, .inr (6, [.int 6, .int 5, .ref a2, .int 0])), (a1, .inr (6, [.int 6, .int 5, .ref a3, .int 0])), (a3, .inl (G.2 0, 30, .inl (fun _ => 0))), (a2, .inl (G.2 0, 30, .inl (fun _ => 0)))] sz) := by
  refine Met.ofW (cc := cX6_copyFrom) (maxL := 2) (ret := none) (by decide) rfl ?_
  intro p e s m args below meth c s₁ B hml hv
  obtain ⟨rfl, hsz, hP, hK, hD0, hN, hT⟩ := hv
  have hx := B.exec
  have hb := B.bytes
  have hr := B.returns
  have hts : ∀ w ∈ tblG, w.before _ s = true := fun w h => atoms_spec (ws := (wsG yX6_copyFrom cX6_copyFrom 2 none)) B.pre w (List.mem_cons_of_mem _ h)
  have hown : s.vm.findClass RX6 = some m.cls := findClass_of_methodNamed B.named
  have hlocks := B.notSynchronized
  subst hsz
  have hD := hD0.self (sz := s.heap.size)
  generalize hAe : va_A [(a0, .inr (6, [.int 6, .int 5, .ref a2, .int 0])), (a1, .inr (6, [.int 6, .int 5, .ref a3, .int 0])), (a3, .inl (G.2 0, 30, .inl (fun _ => 0))), (a2, .inl (G.2 0, 30, .inl (fun _ => 0)))] s.heap.size = A at hD hT ⊢
  have hA : ∀ q : Nat, s.heap.size ≤ q → A q := fun q h => by rw [← hAe]; exact Or.inr h
  have hS : va_S A s.heap s.heap [] := va_S.rf
  have hP : va_P G.1 vwCl [(a0, .inr (6, [.int 6, .int 5, .ref a2, .int 0])), (a1, .inr (6, [.int 6, .int 5, .ref a3, .int 0])), (a3, .inl (G.2 0, 30, .inl (fun _ => 0))), (a2, .inl (G.2 0, 30, .inl (fun _ => 0)))] s.heap := hP
  have hl := lv_entry ([.ref a0, .ref a1]) (n := 2) (Nat.le_of_ble_eq_true rfl)
  rw [lg_entry_eq]
  generalize (lg_sl ([.ref a0, .ref a1]) ++ List.replicate (2 - (lg_sl ([.ref a0, .ref a1])).length) Slot.unset).toArray = ls at hl ⊢
  have hl : lv_has ls 2 [(0, .ref a0), (1, .ref a1)] := hl
  refine lv_aload_n hx hb dX6_copyFrom_0 rfl (lv_at hl 1 rfl) ?_
  refine va_get (D := G.1) (ci := 6) (v := .ref a3) (C := RX6) (T := TX6) (N := 4) hx hb hts inG_X6 hown hK hP 1 rfl rfl 2 (by decide) (hts _ fl_X6_21) (fun _ h9 => h9) rfl dX6_copyFrom_1 ?_
  refine va_alen hx hb hK hP 2 0 rfl rfl (v := 30) (by show Int32.ofNat 30 = 30; decide) dX6_copyFrom_4 ?_
  refine lv_aload_n hx hb dX6_copyFrom_5 rfl (lv_at hl 0 rfl) ?_
  refine va_get (D := G.1) (ci := 6) (v := .ref a2) (C := RX6) (T := TX6) (N := 4) hx hb hts inG_X6 hown hK hP 0 rfl rfl 2 (by decide) (hts _ fl_X6_21) (fun _ h9 => h9) rfl dX6_copyFrom_6 ?_
  refine va_alen hx hb hK hP 3 0 rfl rfl (v := 30) (by show Int32.ofNat 30 = 30; decide) dX6_copyFrom_9 ?_
  refine lv_icmp_ne (tgt := 39) hx hb dX6_copyFrom_10 (by decide) (fun c_1 => ?_) (fun c_1 => ?_)
  ·
    exact absurd c_1 (by decide)
  ·
    refine lv_aload_n hx hb dX6_copyFrom_13 rfl (lv_at hl 1 rfl) ?_
    refine va_get (D := G.1) (ci := 6) (v := .ref a3) (C := RX6) (T := TX6) (N := 4) hx hb hts inG_X6 hown hK hP 1 rfl rfl 2 (by decide) (hts _ fl_X6_21) (fun _ h9 => h9) rfl dX6_copyFrom_14 ?_
    refine lv_iconst (v := 0) hx hb dX6_copyFrom_17 (by decide) ?_
    refine lv_aload_n hx hb dX6_copyFrom_18 rfl (lv_at hl 0 rfl) ?_
    refine va_get (D := G.1) (ci := 6) (v := .ref a2) (C := RX6) (T := TX6) (N := 4) hx hb hts inG_X6 hown hK hP 0 rfl rfl 2 (by decide) (hts _ fl_X6_21) (fun _ h9 => h9) rfl dX6_copyFrom_19 ?_
    refine lv_iconst (v := 0) hx hb dX6_copyFrom_22 (by decide) ?_
    refine lv_aload_n hx hb dX6_copyFrom_23 rfl (lv_at hl 0 rfl) ?_
    refine va_get (D := G.1) (ci := 6) (v := .ref a2) (C := RX6) (T := TX6) (N := 4) hx hb hts inG_X6 hown hK hP 0 rfl rfl 2 (by decide) (hts _ fl_X6_21) (fun _ h9 => h9) rfl dX6_copyFrom_24 ?_
    refine va_alen hx hb hK hP 3 0 rfl rfl (v := 30) (by show Int32.ofNat 30 = 30; decide) dX6_copyFrom_27 ?_
    refine va_copyi hx hb (hml.trans hl.1.symm) hown (hts _ ml_X6_37) (hts _ ac_nat) (hts _ ac_st) (hts _ ac_ini) hK hP hD hS 2 3 0 0 rfl rfl rfl rfl rfl (sp := 0) (dp := 0) (n := 30) (by decide) (by decide) (by decide) (by decide) (by decide) (fun _ _ => rfl) (Nat.le_of_ble_eq_true rfl) (by decide) dX6_copyFrom_28 (fun H locs hP hD hS => ?_)
    have hP : va_P G.1 vwCl [(a0, .inr (6, [.int 6, .int 5, .ref a2, .int 0])), (a1, .inr (6, [.int 6, .int 5, .ref a3, .int 0])), (a3, .inl (G.2 0, 30, .inl (fun _ => 0))), (a2, .inl (G.2 0, 30, .inl (va_cpy (fun _ => 0) (fun _ => 0) 0 0 30)))] H := hP
    have hD : va_D A [(a0, .inr (6, [.int 6, .int 5, .ref a2, .int 0])), (a1, .inr (6, [.int 6, .int 5, .ref a3, .int 0])), (a3, .inl (G.2 0, 30, .inl (fun _ => 0))), (a2, .inl (G.2 0, 30, .inl (va_cpy (fun _ => 0) (fun _ => 0) 0 0 30)))] := hD
    refine lv_aload_n hx hb dX6_copyFrom_31 rfl (lv_at hl 0 rfl) ?_
    refine lv_aload_n hx hb dX6_copyFrom_32 rfl (lv_at hl 1 rfl) ?_
    refine va_get (D := G.1) (ci := 6) (v := .int 0) (C := RX6) (T := TX6) (N := 4) hx hb hts inG_X6 hown hK hP 1 rfl rfl 3 (by decide) (hts _ fl_X6_9) (fun _ h9 => h9) rfl dX6_copyFrom_33 ?_
    refine va_put (D := G.1) (ci := 6) (v := .int 0) (ty := .int) (C := RX6) (T := TX6) (N := 4) hx hb hts inG_X6 tyX6 tyX6_ok nmX6 hown hK hP hD hS 0 rfl rfl 3 (by decide) (hts _ fl_X6_9) (fun _ h9 => h9) rfl (by decide +kernel) rfl rfl (Nat.le_of_ble_eq_true rfl) dX6_copyFrom_36 (fun H locs hP hD hS => ?_)
    have hP : va_P G.1 vwCl [(a0, .inr (6, [.int 6, .int 5, .ref a2, .int 0])), (a1, .inr (6, [.int 6, .int 5, .ref a3, .int 0])), (a3, .inl (G.2 0, 30, .inl (fun _ => 0))), (a2, .inl (G.2 0, 30, .inl (va_cpy (fun _ => 0) (fun _ => 0) 0 0 30)))] H := hP
    have hD : va_D A [(a0, .inr (6, [.int 6, .int 5, .ref a2, .int 0])), (a1, .inr (6, [.int 6, .int 5, .ref a3, .int 0])), (a3, .inl (G.2 0, 30, .inl (fun _ => 0))), (a2, .inl (G.2 0, 30, .inl (va_cpy (fun _ => 0) (fun _ => 0) 0 0 30)))] := hD
    exact W.vret hx hb hr (fun t ht hW => ⟨⟨[(a0, .inr (6, [.int 6, .int 5, .ref a2, .int 0])), (a1, .inr (6, [.int 6, .int 5, .ref a3, .int 0])), (a3, .inl (G.2 0, 30, .inl (fun _ => 0))), (a2, .inl (G.2 0, 30, .inl (va_cpy (fun _ => 0) (fun _ => 0) 0 0 30)))], rfl, rfl, by rw [ht]; exact hP, hD⟩, hS.F ht⟩) hS.2.2 dX6_copyFrom_39
theorem ml_X1_80 : Cond.methodLink RX1 80 yX6_copyFrom ∈ tblG := tg 1167 (by decide +kernel) (by decide +kernel)
theorem im_X6_copyFrom : Cond.instanceMethod yX6_copyFrom ∈ tblG := tg 1168 (by decide +kernel) (by decide +kernel)
theorem se_X6_copyFrom : Cond.selects RX6 yX6_copyFrom yX6_copyFrom ∈ tblG := tg 1169 (by decide +kernel) (by decide +kernel)
theorem cd_X6_copyFrom : Cond.code yX6_copyFrom cX6_copyFrom 2 none ∈ tblG := tg 1170 (by decide +kernel) (by decide +kernel)
theorem gW_X6_copyFrom : GoodIn tblG (wsG yX6_copyFrom cX6_copyFrom 2 none) := tgi cd_X6_copyFrom
theorem gV_X1_80 : GoodIn tblG (wsV RX1 80 RX6 yX6_copyFrom (wsG yX6_copyFrom cX6_copyFrom 2 none)) := tgV ml_X1_80 im_X6_copyFrom se_X6_copyFrom ini_X6 gW_X6_copyFrom
theorem hv_X6_copyFrom : yX6_copyFrom.cls = RX6 ∧ yX6_copyFrom.cls ≠ "java/lang/invoke/MethodHandle" ∧ yX6_copyFrom.cls ≠ "java/lang/invoke/VarHandle" ∧ (parseMethodDescriptor yX6_copyFrom.desc).map (fun d => d.parameters.length) = some 1 := by decide +kernel
set_option maxHeartbeats 4000000 in
set_option maxRecDepth 100000 in
theorem kX6_copyFrom_2 (l : Launch) (G : g5_G) (a0 a1 a2 a3 : Nat) (sz : Nat) : Met l yX6_copyFrom (wsG yX6_copyFrom cX6_copyFrom 2 none) ({ frames := 1, cells := 0, slots := 0, locals := 60 }) (va_Pc [.ref a0, .ref a1] (g5_P G [(a0, .inr (6, [.int 5, .int 24, .ref a2, .int 0])), (a1, .inr (6, [.int 5, .int 24, .ref a3, .int 0])), (a3, .inl (G.2 0, 120, .inl (fun _ => 0))), (a2, .inl (G.2 0, 120, .inl (fun _ => 0)))] sz)) (va_Qv (fun (u : va_W) => ((u = [(a0, .inr (6, [.int 5, .int 24, .ref a2, .int 0])), (a1, .inr (6, [.int 5, .int 24, .ref a3, .int 0])), (a3, .inl (G.2 0, 120, .inl (fun _ => 0))), (a2, .inl (G.2 0, 120, .inl (va_cpy (fun _ => 0) (fun _ => 0) 0 0 120)))]))) (g5_B G (va_A [(a0, .inr (6, [.int 5, .int 24, .ref a2, .int 0])), (a1, .inr (6, [.int 5, .int 24, .ref a3, .int 0])), (a3, .inl (G.2 0, 120, .inl (fun _ => 0))), (a2, .inl (G.2 0, 120, .inl (fun _ => 0)))] sz)) (va_A [(a0, .inr (6, [.int 5, .int 24, .ref a2, .int 0])), (a1, .inr (6, [.int 5, .int 24, .ref a3, .int 0])), (a3, .inl (G.2 0, 120, .inl (fun _ => 0))), (a2, .inl (G.2 0, 120, .inl (fun _ => 0)))] sz)) 0 0 (va_A [(a0, .inr (6, [.int 5, .int 24, .ref a2, .int 0])), (a1, .inr (6, [.int 5, .int 24, .ref a3, .int 0])), (a3, .inl (G.2 0, 120, .inl (fun _ => 0))), (a2, .inl (G.2 0, 120, .inl (fun _ => 0)))] sz) := by
  refine Met.ofW (cc := cX6_copyFrom) (maxL := 2) (ret := none) (by decide) rfl ?_
  intro p e s m args below meth c s₁ B hml hv
  obtain ⟨rfl, hsz, hP, hK, hD0, hN, hT⟩ := hv
  have hx := B.exec
  have hb := B.bytes
  have hr := B.returns
  have hts : ∀ w ∈ tblG, w.before _ s = true := fun w h => atoms_spec (ws := (wsG yX6_copyFrom cX6_copyFrom 2 none)) B.pre w (List.mem_cons_of_mem _ h)
  have hown : s.vm.findClass RX6 = some m.cls := findClass_of_methodNamed B.named
  have hlocks := B.notSynchronized
  subst hsz
  have hD := hD0.self (sz := s.heap.size)
  generalize hAe : va_A [(a0, .inr (6, [.int 5, .int 24, .ref a2, .int 0])), (a1, .inr (6, [.int 5, .int 24, .ref a3, .int 0])), (a3, .inl (G.2 0, 120, .inl (fun _ => 0))), (a2, .inl (G.2 0, 120, .inl (fun _ => 0)))] s.heap.size = A at hD hT ⊢
  have hA : ∀ q : Nat, s.heap.size ≤ q → A q := fun q h => by rw [← hAe]; exact Or.inr h
  have hS : va_S A s.heap s.heap [] := va_S.rf
  have hP : va_P G.1 vwCl [(a0, .inr (6, [.int 5, .int 24, .ref a2, .int 0])), (a1, .inr (6, [.int 5, .int 24, .ref a3, .int 0])), (a3, .inl (G.2 0, 120, .inl (fun _ => 0))), (a2, .inl (G.2 0, 120, .inl (fun _ => 0)))] s.heap := hP
  have hl := lv_entry ([.ref a0, .ref a1]) (n := 2) (Nat.le_of_ble_eq_true rfl)
  rw [lg_entry_eq]
  generalize (lg_sl ([.ref a0, .ref a1]) ++ List.replicate (2 - (lg_sl ([.ref a0, .ref a1])).length) Slot.unset).toArray = ls at hl ⊢
  have hl : lv_has ls 2 [(0, .ref a0), (1, .ref a1)] := hl
  refine lv_aload_n hx hb dX6_copyFrom_0 rfl (lv_at hl 1 rfl) ?_
  refine va_get (D := G.1) (ci := 6) (v := .ref a3) (C := RX6) (T := TX6) (N := 4) hx hb hts inG_X6 hown hK hP 1 rfl rfl 2 (by decide) (hts _ fl_X6_21) (fun _ h9 => h9) rfl dX6_copyFrom_1 ?_
  refine va_alen hx hb hK hP 2 0 rfl rfl (v := 120) (by show Int32.ofNat 120 = 120; decide) dX6_copyFrom_4 ?_
  refine lv_aload_n hx hb dX6_copyFrom_5 rfl (lv_at hl 0 rfl) ?_
  refine va_get (D := G.1) (ci := 6) (v := .ref a2) (C := RX6) (T := TX6) (N := 4) hx hb hts inG_X6 hown hK hP 0 rfl rfl 2 (by decide) (hts _ fl_X6_21) (fun _ h9 => h9) rfl dX6_copyFrom_6 ?_
  refine va_alen hx hb hK hP 3 0 rfl rfl (v := 120) (by show Int32.ofNat 120 = 120; decide) dX6_copyFrom_9 ?_
  refine lv_icmp_ne (tgt := 39) hx hb dX6_copyFrom_10 (by decide) (fun c_1 => ?_) (fun c_1 => ?_)
  ·
    exact absurd c_1 (by decide)
  ·
    refine lv_aload_n hx hb dX6_copyFrom_13 rfl (lv_at hl 1 rfl) ?_
    refine va_get (D := G.1) (ci := 6) (v := .ref a3) (C := RX6) (T := TX6) (N := 4) hx hb hts inG_X6 hown hK hP 1 rfl rfl 2 (by decide) (hts _ fl_X6_21) (fun _ h9 => h9) rfl dX6_copyFrom_14 ?_
    refine lv_iconst (v := 0) hx hb dX6_copyFrom_17 (by decide) ?_
    refine lv_aload_n hx hb dX6_copyFrom_18 rfl (lv_at hl 0 rfl) ?_
    refine va_get (D := G.1) (ci := 6) (v := .ref a2) (C := RX6) (T := TX6) (N := 4) hx hb hts inG_X6 hown hK hP 0 rfl rfl 2 (by decide) (hts _ fl_X6_21) (fun _ h9 => h9) rfl dX6_copyFrom_19 ?_
    refine lv_iconst (v := 0) hx hb dX6_copyFrom_22 (by decide) ?_
    refine lv_aload_n hx hb dX6_copyFrom_23 rfl (lv_at hl 0 rfl) ?_
    refine va_get (D := G.1) (ci := 6) (v := .ref a2) (C := RX6) (T := TX6) (N := 4) hx hb hts inG_X6 hown hK hP 0 rfl rfl 2 (by decide) (hts _ fl_X6_21) (fun _ h9 => h9) rfl dX6_copyFrom_24 ?_
    refine va_alen hx hb hK hP 3 0 rfl rfl (v := 120) (by show Int32.ofNat 120 = 120; decide) dX6_copyFrom_27 ?_
    refine va_copyi hx hb (hml.trans hl.1.symm) hown (hts _ ml_X6_37) (hts _ ac_nat) (hts _ ac_st) (hts _ ac_ini) hK hP hD hS 2 3 0 0 rfl rfl rfl rfl rfl (sp := 0) (dp := 0) (n := 120) (by decide) (by decide) (by decide) (by decide) (by decide) (fun _ _ => rfl) (Nat.le_of_ble_eq_true rfl) (by decide) dX6_copyFrom_28 (fun H locs hP hD hS => ?_)
    have hP : va_P G.1 vwCl [(a0, .inr (6, [.int 5, .int 24, .ref a2, .int 0])), (a1, .inr (6, [.int 5, .int 24, .ref a3, .int 0])), (a3, .inl (G.2 0, 120, .inl (fun _ => 0))), (a2, .inl (G.2 0, 120, .inl (va_cpy (fun _ => 0) (fun _ => 0) 0 0 120)))] H := hP
    have hD : va_D A [(a0, .inr (6, [.int 5, .int 24, .ref a2, .int 0])), (a1, .inr (6, [.int 5, .int 24, .ref a3, .int 0])), (a3, .inl (G.2 0, 120, .inl (fun _ => 0))), (a2, .inl (G.2 0, 120, .inl (va_cpy (fun _ => 0) (fun _ => 0) 0 0 120)))] := hD
    refine lv_aload_n hx hb dX6_copyFrom_31 rfl (lv_at hl 0 rfl) ?_
    refine lv_aload_n hx hb dX6_copyFrom_32 rfl (lv_at hl 1 rfl) ?_
    refine va_get (D := G.1) (ci := 6) (v := .int 0) (C := RX6) (T := TX6) (N := 4) hx hb hts inG_X6 hown hK hP 1 rfl rfl 3 (by decide) (hts _ fl_X6_9) (fun _ h9 => h9) rfl dX6_copyFrom_33 ?_
    refine va_put (D := G.1) (ci := 6) (v := .int 0) (ty := .int) (C := RX6) (T := TX6) (N := 4) hx hb hts inG_X6 tyX6 tyX6_ok nmX6 hown hK hP hD hS 0 rfl rfl 3 (by decide) (hts _ fl_X6_9) (fun _ h9 => h9) rfl (by decide +kernel) rfl rfl (Nat.le_of_ble_eq_true rfl) dX6_copyFrom_36 (fun H locs hP hD hS => ?_)
    have hP : va_P G.1 vwCl [(a0, .inr (6, [.int 5, .int 24, .ref a2, .int 0])), (a1, .inr (6, [.int 5, .int 24, .ref a3, .int 0])), (a3, .inl (G.2 0, 120, .inl (fun _ => 0))), (a2, .inl (G.2 0, 120, .inl (va_cpy (fun _ => 0) (fun _ => 0) 0 0 120)))] H := hP
    have hD : va_D A [(a0, .inr (6, [.int 5, .int 24, .ref a2, .int 0])), (a1, .inr (6, [.int 5, .int 24, .ref a3, .int 0])), (a3, .inl (G.2 0, 120, .inl (fun _ => 0))), (a2, .inl (G.2 0, 120, .inl (va_cpy (fun _ => 0) (fun _ => 0) 0 0 120)))] := hD
    exact W.vret hx hb hr (fun t ht hW => ⟨⟨[(a0, .inr (6, [.int 5, .int 24, .ref a2, .int 0])), (a1, .inr (6, [.int 5, .int 24, .ref a3, .int 0])), (a3, .inl (G.2 0, 120, .inl (fun _ => 0))), (a2, .inl (G.2 0, 120, .inl (va_cpy (fun _ => 0) (fun _ => 0) 0 0 120)))], rfl, rfl, by rw [ht]; exact hP, hD⟩, hS.F ht⟩) hS.2.2 dX6_copyFrom_39
set_option maxHeartbeats 4000000 in
set_option maxRecDepth 100000 in
theorem kX6_copyFrom_3 (l : Launch) (G : g5_G) (a0 a1 a2 a3 : Nat) (sz : Nat) : Met l yX6_copyFrom (wsG yX6_copyFrom cX6_copyFrom 2 none) ({ frames := 1, cells := 0, slots := 0, locals := 60 }) (va_Pc [.ref a0, .ref a1] (g5_P G [(a0, .inr (6, [.int 10, .int 4, .ref a2, .int 0])), (a1, .inr (6, [.int 10, .int 4, .ref a3, .int 0])), (a3, .inl (G.2 0, 40, .inl (fun _ => 0))), (a2, .inl (G.2 0, 40, .inl (fun _ => 0)))] sz)) (va_Qv (fun (u : va_W) => ((u = [(a0, .inr (6, [.int 10, .int 4, .ref a2, .int 0])), (a1, .inr (6, [.int 10, .int 4, .ref a3, .int 0])), (a3, .inl (G.2 0, 40, .inl (fun _ => 0))), (a2, .inl (G.2 0, 40, .inl (va_cpy (fun _ => 0) (fun _ => 0) 0 0 40)))]))) (g5_B G (va_A [(a0, .inr (6, [.int 10, .int 4, .ref a2, .int 0])), (a1, .inr (6, [.int 10, .int 4, .ref a3, .int 0])), (a3, .inl (G.2 0, 40, .inl (fun _ => 0))), (a2, .inl (G.2 0, 40, .inl (fun _ => 0)))] sz)) (va_A [(a0, .inr (6, [.int 10, .int 4, .ref a2, .int 0])), (a1, .inr (6, [.int 10, .int 4, .ref a3, .int 0])), (a3, .inl (G.2 0, 40, .inl (fun _ => 0))), (a2, .inl (G.2 0, 40, .inl (fun _ => 0)))] sz)) 0 0 (va_A [(a0, .inr (6, [.int 10, .int 4, .ref a2, .int 0])), (a1, .inr (6, [.int 10, .int 4, .ref a3, .int 0])), (a3, .inl (G.2 0, 40, .inl (fun _ => 0))), (a2, .inl (G.2 0, 40, .inl (fun _ => 0)))] sz) := by
  refine Met.ofW (cc := cX6_copyFrom) (maxL := 2) (ret := none) (by decide) rfl ?_
  intro p e s m args below meth c s₁ B hml hv
  obtain ⟨rfl, hsz, hP, hK, hD0, hN, hT⟩ := hv
  have hx := B.exec
  have hb := B.bytes
  have hr := B.returns
  have hts : ∀ w ∈ tblG, w.before _ s = true := fun w h => atoms_spec (ws := (wsG yX6_copyFrom cX6_copyFrom 2 none)) B.pre w (List.mem_cons_of_mem _ h)
  have hown : s.vm.findClass RX6 = some m.cls := findClass_of_methodNamed B.named
  have hlocks := B.notSynchronized
  subst hsz
  have hD := hD0.self (sz := s.heap.size)
  generalize hAe : va_A [(a0, .inr (6, [.int 10, .int 4, .ref a2, .int 0])), (a1, .inr (6, [.int 10, .int 4, .ref a3, .int 0])), (a3, .inl (G.2 0, 40, .inl (fun _ => 0))), (a2, .inl (G.2 0, 40, .inl (fun _ => 0)))] s.heap.size = A at hD hT ⊢
  have hA : ∀ q : Nat, s.heap.size ≤ q → A q := fun q h => by rw [← hAe]; exact Or.inr h
  have hS : va_S A s.heap s.heap [] := va_S.rf
  have hP : va_P G.1 vwCl [(a0, .inr (6, [.int 10, .int 4, .ref a2, .int 0])), (a1, .inr (6, [.int 10, .int 4, .ref a3, .int 0])), (a3, .inl (G.2 0, 40, .inl (fun _ => 0))), (a2, .inl (G.2 0, 40, .inl (fun _ => 0)))] s.heap := hP
  have hl := lv_entry ([.ref a0, .ref a1]) (n := 2) (Nat.le_of_ble_eq_true rfl)
  rw [lg_entry_eq]
  generalize (lg_sl ([.ref a0, .ref a1]) ++ List.replicate (2 - (lg_sl ([.ref a0, .ref a1])).length) Slot.unset).toArray = ls at hl ⊢
  have hl : lv_has ls 2 [(0, .ref a0), (1, .ref a1)] := hl
  refine lv_aload_n hx hb dX6_copyFrom_0 rfl (lv_at hl 1 rfl) ?_
  refine va_get (D := G.1) (ci := 6) (v := .ref a3) (C := RX6) (T := TX6) (N := 4) hx hb hts inG_X6 hown hK hP 1 rfl rfl 2 (by decide) (hts _ fl_X6_21) (fun _ h9 => h9) rfl dX6_copyFrom_1 ?_
  refine va_alen hx hb hK hP 2 0 rfl rfl (v := 40) (by show Int32.ofNat 40 = 40; decide) dX6_copyFrom_4 ?_
  refine lv_aload_n hx hb dX6_copyFrom_5 rfl (lv_at hl 0 rfl) ?_
  refine va_get (D := G.1) (ci := 6) (v := .ref a2) (C := RX6) (T := TX6) (N := 4) hx hb hts inG_X6 hown hK hP 0 rfl rfl 2 (by decide) (hts _ fl_X6_21) (fun _ h9 => h9) rfl dX6_copyFrom_6 ?_
  refine va_alen hx hb hK hP 3 0 rfl rfl (v := 40) (by show Int32.ofNat 40 = 40; decide) dX6_copyFrom_9 ?_
  refine lv_icmp_ne (tgt := 39) hx hb dX6_copyFrom_10 (by decide) (fun c_1 => ?_) (fun c_1 => ?_)
  ·
    exact absurd c_1 (by decide)
  ·
    refine lv_aload_n hx hb dX6_copyFrom_13 rfl (lv_at hl 1 rfl) ?_
    refine va_get (D := G.1) (ci := 6) (v := .ref a3) (C := RX6) (T := TX6) (N := 4) hx hb hts inG_X6 hown hK hP 1 rfl rfl 2 (by decide) (hts _ fl_X6_21) (fun _ h9 => h9) rfl dX6_copyFrom_14 ?_
    refine lv_iconst (v := 0) hx hb dX6_copyFrom_17 (by decide) ?_
    refine lv_aload_n hx hb dX6_copyFrom_18 rfl (lv_at hl 0 rfl) ?_
    refine va_get (D := G.1) (ci := 6) (v := .ref a2) (C := RX6) (T := TX6) (N := 4) hx hb hts inG_X6 hown hK hP 0 rfl rfl 2 (by decide) (hts _ fl_X6_21) (fun _ h9 => h9) rfl dX6_copyFrom_19 ?_
    refine lv_iconst (v := 0) hx hb dX6_copyFrom_22 (by decide) ?_
    refine lv_aload_n hx hb dX6_copyFrom_23 rfl (lv_at hl 0 rfl) ?_
    refine va_get (D := G.1) (ci := 6) (v := .ref a2) (C := RX6) (T := TX6) (N := 4) hx hb hts inG_X6 hown hK hP 0 rfl rfl 2 (by decide) (hts _ fl_X6_21) (fun _ h9 => h9) rfl dX6_copyFrom_24 ?_
    refine va_alen hx hb hK hP 3 0 rfl rfl (v := 40) (by show Int32.ofNat 40 = 40; decide) dX6_copyFrom_27 ?_
    refine va_copyi hx hb (hml.trans hl.1.symm) hown (hts _ ml_X6_37) (hts _ ac_nat) (hts _ ac_st) (hts _ ac_ini) hK hP hD hS 2 3 0 0 rfl rfl rfl rfl rfl (sp := 0) (dp := 0) (n := 40) (by decide) (by decide) (by decide) (by decide) (by decide) (fun _ _ => rfl) (Nat.le_of_ble_eq_true rfl) (by decide) dX6_copyFrom_28 (fun H locs hP hD hS => ?_)
    have hP : va_P G.1 vwCl [(a0, .inr (6, [.int 10, .int 4, .ref a2, .int 0])), (a1, .inr (6, [.int 10, .int 4, .ref a3, .int 0])), (a3, .inl (G.2 0, 40, .inl (fun _ => 0))), (a2, .inl (G.2 0, 40, .inl (va_cpy (fun _ => 0) (fun _ => 0) 0 0 40)))] H := hP
    have hD : va_D A [(a0, .inr (6, [.int 10, .int 4, .ref a2, .int 0])), (a1, .inr (6, [.int 10, .int 4, .ref a3, .int 0])), (a3, .inl (G.2 0, 40, .inl (fun _ => 0))), (a2, .inl (G.2 0, 40, .inl (va_cpy (fun _ => 0) (fun _ => 0) 0 0 40)))] := hD
    refine lv_aload_n hx hb dX6_copyFrom_31 rfl (lv_at hl 0 rfl) ?_
    refine lv_aload_n hx hb dX6_copyFrom_32 rfl (lv_at hl 1 rfl) ?_
    refine va_get (D := G.1) (ci := 6) (v := .int 0) (C := RX6) (T := TX6) (N := 4) hx hb hts inG_X6 hown hK hP 1 rfl rfl 3 (by decide) (hts _ fl_X6_9) (fun _ h9 => h9) rfl dX6_copyFrom_33 ?_
    refine va_put (D := G.1) (ci := 6) (v := .int 0) (ty := .int) (C := RX6) (T := TX6) (N := 4) hx hb hts inG_X6 tyX6 tyX6_ok nmX6 hown hK hP hD hS 0 rfl rfl 3 (by decide) (hts _ fl_X6_9) (fun _ h9 => h9) rfl (by decide +kernel) rfl rfl (Nat.le_of_ble_eq_true rfl) dX6_copyFrom_36 (fun H locs hP hD hS => ?_)
    have hP : va_P G.1 vwCl [(a0, .inr (6, [.int 10, .int 4, .ref a2, .int 0])), (a1, .inr (6, [.int 10, .int 4, .ref a3, .int 0])), (a3, .inl (G.2 0, 40, .inl (fun _ => 0))), (a2, .inl (G.2 0, 40, .inl (va_cpy (fun _ => 0) (fun _ => 0) 0 0 40)))] H := hP
    have hD : va_D A [(a0, .inr (6, [.int 10, .int 4, .ref a2, .int 0])), (a1, .inr (6, [.int 10, .int 4, .ref a3, .int 0])), (a3, .inl (G.2 0, 40, .inl (fun _ => 0))), (a2, .inl (G.2 0, 40, .inl (va_cpy (fun _ => 0) (fun _ => 0) 0 0 40)))] := hD
    exact W.vret hx hb hr (fun t ht hW => ⟨⟨[(a0, .inr (6, [.int 10, .int 4, .ref a2, .int 0])), (a1, .inr (6, [.int 10, .int 4, .ref a3, .int 0])), (a3, .inl (G.2 0, 40, .inl (fun _ => 0))), (a2, .inl (G.2 0, 40, .inl (va_cpy (fun _ => 0) (fun _ => 0) 0 0 40)))], rfl, rfl, by rw [ht]; exact hP, hD⟩, hS.F ht⟩) hS.2.2 dX6_copyFrom_39
set_option maxHeartbeats 4000000 in
set_option maxRecDepth 100000 in
theorem kX6_copyFrom_4 (l : Launch) (G : g5_G) (a0 a1 a2 a3 : Nat) (sz : Nat) : Met l yX6_copyFrom (wsG yX6_copyFrom cX6_copyFrom 2 none) ({ frames := 1, cells := 0, slots := 0, locals := 60 }) (va_Pc [.ref a0, .ref a1] (g5_P G [(a0, .inr (6, [.int 8, .int 5, .ref a2, .int 0])), (a1, .inr (6, [.int 8, .int 5, .ref a3, .int 0])), (a3, .inl (G.2 0, 40, .inl (fun _ => 0))), (a2, .inl (G.2 0, 40, .inl (fun _ => 0)))] sz)) (va_Qv (fun (u : va_W) => ((u = [(a0, .inr (6, [.int 8, .int 5, .ref a2, .int 0])), (a1, .inr (6, [.int 8, .int 5, .ref a3, .int 0])), (a3, .inl (G.2 0, 40, .inl (fun _ => 0))), (a2, .inl (G.2 0, 40, .inl (va_cpy (fun _ => 0) (fun _ => 0) 0 0 40)))]))) (g5_B G (va_A [(a0, .inr (6, [.int 8, .int 5, .ref a2, .int 0])), (a1, .inr (6, [.int 8, .int 5, .ref a3, .int 0])), (a3, .inl (G.2 0, 40, .inl (fun _ => 0))), (a2, .inl (G.2 0, 40, .inl (fun _ => 0)))] sz)) (va_A [(a0, .inr (6, [.int 8, .int 5, .ref a2, .int 0])), (a1, .inr (6, [.int 8, .int 5, .ref a3, .int 0])), (a3, .inl (G.2 0, 40, .inl (fun _ => 0))), (a2, .inl (G.2 0, 40, .inl (fun _ => 0)))] sz)) 0 0 (va_A [(a0, .inr (6, [.int 8, .int 5, .ref a2, .int 0])), (a1, .inr (6, [.int 8, .int 5, .ref a3, .int 0])), (a3, .inl (G.2 0, 40, .inl (fun _ => 0))), (a2, .inl (G.2 0, 40, .inl (fun _ => 0)))] sz) := by
  refine Met.ofW (cc := cX6_copyFrom) (maxL := 2) (ret := none) (by decide) rfl ?_
  intro p e s m args below meth c s₁ B hml hv
  obtain ⟨rfl, hsz, hP, hK, hD0, hN, hT⟩ := hv
  have hx := B.exec
  have hb := B.bytes
  have hr := B.returns
  have hts : ∀ w ∈ tblG, w.before _ s = true := fun w h => atoms_spec (ws := (wsG yX6_copyFrom cX6_copyFrom 2 none)) B.pre w (List.mem_cons_of_mem _ h)
  have hown : s.vm.findClass RX6 = some m.cls := findClass_of_methodNamed B.named
  have hlocks := B.notSynchronized
  subst hsz
  have hD := hD0.self (sz := s.heap.size)
  generalize hAe : va_A [(a0, .inr (6, [.int 8, .int 5, .ref a2, .int 0])), (a1, .inr (6, [.int 8, .int 5, .ref a3, .int 0])), (a3, .inl (G.2 0, 40, .inl (fun _ => 0))), (a2, .inl (G.2 0, 40, .inl (fun _ => 0)))] s.heap.size = A at hD hT ⊢
  have hA : ∀ q : Nat, s.heap.size ≤ q → A q := fun q h => by rw [← hAe]; exact Or.inr h
  have hS : va_S A s.heap s.heap [] := va_S.rf
  have hP : va_P G.1 vwCl [(a0, .inr (6, [.int 8, .int 5, .ref a2, .int 0])), (a1, .inr (6, [.int 8, .int 5, .ref a3, .int 0])), (a3, .inl (G.2 0, 40, .inl (fun _ => 0))), (a2, .inl (G.2 0, 40, .inl (fun _ => 0)))] s.heap := hP
  have hl := lv_entry ([.ref a0, .ref a1]) (n := 2) (Nat.le_of_ble_eq_true rfl)
  rw [lg_entry_eq]
  generalize (lg_sl ([.ref a0, .ref a1]) ++ List.replicate (2 - (lg_sl ([.ref a0, .ref a1])).length) Slot.unset).toArray = ls at hl ⊢
  have hl : lv_has ls 2 [(0, .ref a0), (1, .ref a1)] := hl
  refine lv_aload_n hx hb dX6_copyFrom_0 rfl (lv_at hl 1 rfl) ?_
  refine va_get (D := G.1) (ci := 6) (v := .ref a3) (C := RX6) (T := TX6) (N := 4) hx hb hts inG_X6 hown hK hP 1 rfl rfl 2 (by decide) (hts _ fl_X6_21) (fun _ h9 => h9) rfl dX6_copyFrom_1 ?_
  refine va_alen hx hb hK hP 2 0 rfl rfl (v := 40) (by show Int32.ofNat 40 = 40; decide) dX6_copyFrom_4 ?_
  refine lv_aload_n hx hb dX6_copyFrom_5 rfl (lv_at hl 0 rfl) ?_
  refine va_get (D := G.1) (ci := 6) (v := .ref a2) (C := RX6) (T := TX6) (N := 4) hx hb hts inG_X6 hown hK hP 0 rfl rfl 2 (by decide) (hts _ fl_X6_21) (fun _ h9 => h9) rfl dX6_copyFrom_6 ?_
  refine va_alen hx hb hK hP 3 0 rfl rfl (v := 40) (by show Int32.ofNat 40 = 40; decide) dX6_copyFrom_9 ?_
  refine lv_icmp_ne (tgt := 39) hx hb dX6_copyFrom_10 (by decide) (fun c_1 => ?_) (fun c_1 => ?_)
  ·
    exact absurd c_1 (by decide)
  ·
    refine lv_aload_n hx hb dX6_copyFrom_13 rfl (lv_at hl 1 rfl) ?_
    refine va_get (D := G.1) (ci := 6) (v := .ref a3) (C := RX6) (T := TX6) (N := 4) hx hb hts inG_X6 hown hK hP 1 rfl rfl 2 (by decide) (hts _ fl_X6_21) (fun _ h9 => h9) rfl dX6_copyFrom_14 ?_
    refine lv_iconst (v := 0) hx hb dX6_copyFrom_17 (by decide) ?_
    refine lv_aload_n hx hb dX6_copyFrom_18 rfl (lv_at hl 0 rfl) ?_
    refine va_get (D := G.1) (ci := 6) (v := .ref a2) (C := RX6) (T := TX6) (N := 4) hx hb hts inG_X6 hown hK hP 0 rfl rfl 2 (by decide) (hts _ fl_X6_21) (fun _ h9 => h9) rfl dX6_copyFrom_19 ?_
    refine lv_iconst (v := 0) hx hb dX6_copyFrom_22 (by decide) ?_
    refine lv_aload_n hx hb dX6_copyFrom_23 rfl (lv_at hl 0 rfl) ?_
    refine va_get (D := G.1) (ci := 6) (v := .ref a2) (C := RX6) (T := TX6) (N := 4) hx hb hts inG_X6 hown hK hP 0 rfl rfl 2 (by decide) (hts _ fl_X6_21) (fun _ h9 => h9) rfl dX6_copyFrom_24 ?_
    refine va_alen hx hb hK hP 3 0 rfl rfl (v := 40) (by show Int32.ofNat 40 = 40; decide) dX6_copyFrom_27 ?_
    refine va_copyi hx hb (hml.trans hl.1.symm) hown (hts _ ml_X6_37) (hts _ ac_nat) (hts _ ac_st) (hts _ ac_ini) hK hP hD hS 2 3 0 0 rfl rfl rfl rfl rfl (sp := 0) (dp := 0) (n := 40) (by decide) (by decide) (by decide) (by decide) (by decide) (fun _ _ => rfl) (Nat.le_of_ble_eq_true rfl) (by decide) dX6_copyFrom_28 (fun H locs hP hD hS => ?_)
    have hP : va_P G.1 vwCl [(a0, .inr (6, [.int 8, .int 5, .ref a2, .int 0])), (a1, .inr (6, [.int 8, .int 5, .ref a3, .int 0])), (a3, .inl (G.2 0, 40, .inl (fun _ => 0))), (a2, .inl (G.2 0, 40, .inl (va_cpy (fun _ => 0) (fun _ => 0) 0 0 40)))] H := hP
    have hD : va_D A [(a0, .inr (6, [.int 8, .int 5, .ref a2, .int 0])), (a1, .inr (6, [.int 8, .int 5, .ref a3, .int 0])), (a3, .inl (G.2 0, 40, .inl (fun _ => 0))), (a2, .inl (G.2 0, 40, .inl (va_cpy (fun _ => 0) (fun _ => 0) 0 0 40)))] := hD
    refine lv_aload_n hx hb dX6_copyFrom_31 rfl (lv_at hl 0 rfl) ?_
    refine lv_aload_n hx hb dX6_copyFrom_32 rfl (lv_at hl 1 rfl) ?_
    refine va_get (D := G.1) (ci := 6) (v := .int 0) (C := RX6) (T := TX6) (N := 4) hx hb hts inG_X6 hown hK hP 1 rfl rfl 3 (by decide) (hts _ fl_X6_9) (fun _ h9 => h9) rfl dX6_copyFrom_33 ?_
    refine va_put (D := G.1) (ci := 6) (v := .int 0) (ty := .int) (C := RX6) (T := TX6) (N := 4) hx hb hts inG_X6 tyX6 tyX6_ok nmX6 hown hK hP hD hS 0 rfl rfl 3 (by decide) (hts _ fl_X6_9) (fun _ h9 => h9) rfl (by decide +kernel) rfl rfl (Nat.le_of_ble_eq_true rfl) dX6_copyFrom_36 (fun H locs hP hD hS => ?_)
    have hP : va_P G.1 vwCl [(a0, .inr (6, [.int 8, .int 5, .ref a2, .int 0])), (a1, .inr (6, [.int 8, .int 5, .ref a3, .int 0])), (a3, .inl (G.2 0, 40, .inl (fun _ => 0))), (a2, .inl (G.2 0, 40, .inl (va_cpy (fun _ => 0) (fun _ => 0) 0 0 40)))] H := hP
    have hD : va_D A [(a0, .inr (6, [.int 8, .int 5, .ref a2, .int 0])), (a1, .inr (6, [.int 8, .int 5, .ref a3, .int 0])), (a3, .inl (G.2 0, 40, .inl (fun _ => 0))), (a2, .inl (G.2 0, 40, .inl (va_cpy (fun _ => 0) (fun _ => 0) 0 0 40)))] := hD
    exact W.vret hx hb hr (fun t ht hW => ⟨⟨[(a0, .inr (6, [.int 8, .int 5, .ref a2, .int 0])), (a1, .inr (6, [.int 8, .int 5, .ref a3, .int 0])), (a3, .inl (G.2 0, 40, .inl (fun _ => 0))), (a2, .inl (G.2 0, 40, .inl (va_cpy (fun _ => 0) (fun _ => 0) 0 0 40)))], rfl, rfl, by rw [ht]; exact hP, hD⟩, hS.F ht⟩) hS.2.2 dX6_copyFrom_39
set_option maxHeartbeats 4000000 in
set_option maxRecDepth 100000 in
theorem kX6_copyFrom_5 (l : Launch) (G : g5_G) (a0 a1 a2 a3 : Nat) (sz : Nat) : Met l yX6_copyFrom (wsG yX6_copyFrom cX6_copyFrom 2 none) ({ frames := 1, cells := 0, slots := 0, locals := 60 }) (va_Pc [.ref a0, .ref a1] (g5_P G [(a0, .inr (6, [.int 6, .int 6, .ref a2, .int 0])), (a1, .inr (6, [.int 6, .int 6, .ref a3, .int 0])), (a3, .inl (G.2 0, 36, .inl (fun _ => 0))), (a2, .inl (G.2 0, 36, .inl (fun _ => 0)))] sz)) (va_Qv (fun (u : va_W) => ((u = [(a0, .inr (6, [.int 6, .int 6, .ref a2, .int 0])), (a1, .inr (6, [.int 6, .int 6, .ref a3, .int 0])), (a3, .inl (G.2 0, 36, .inl (fun _ => 0))), (a2, .inl (G.2 0, 36, .inl (va_cpy (fun _ => 0) (fun _ => 0) 0 0 36)))]))) (g5_B G (va_A [(a0, .inr (6, [.int 6, .int 6, .ref a2, .int 0])), (a1, .inr (6, [.int 6, .int 6, .ref a3, .int 0])), (a3, .inl (G.2 0, 36, .inl (fun _ => 0))), (a2, .inl (G.2 0, 36, .inl (fun _ => 0)))] sz)) (va_A [(a0, .inr (6, [.int 6, .int 6, .ref a2, .int 0])), (a1, .inr (6, [.int 6, .int 6, .ref a3, .int 0])), (a3, .inl (G.2 0, 36, .inl (fun _ => 0))), (a2, .inl (G.2 0, 36, .inl (fun _ => 0)))] sz)) 0 0 (va_A [(a0, .inr (6, [.int 6, .int 6, .ref a2, .int 0])), (a1, .inr (6, [.int 6, .int 6, .ref a3, .int 0])), (a3, .inl (G.2 0, 36, .inl (fun _ => 0))), (a2, .inl (G.2 0, 36, .inl (fun _ => 0)))] sz) := by
  refine Met.ofW (cc := cX6_copyFrom) (maxL := 2) (ret := none) (by decide) rfl ?_
  intro p e s m args below meth c s₁ B hml hv
  obtain ⟨rfl, hsz, hP, hK, hD0, hN, hT⟩ := hv
  have hx := B.exec
  have hb := B.bytes
  have hr := B.returns
  have hts : ∀ w ∈ tblG, w.before _ s = true := fun w h => atoms_spec (ws := (wsG yX6_copyFrom cX6_copyFrom 2 none)) B.pre w (List.mem_cons_of_mem _ h)
  have hown : s.vm.findClass RX6 = some m.cls := findClass_of_methodNamed B.named
  have hlocks := B.notSynchronized
  subst hsz
  have hD := hD0.self (sz := s.heap.size)
  generalize hAe : va_A [(a0, .inr (6, [.int 6, .int 6, .ref a2, .int 0])), (a1, .inr (6, [.int 6, .int 6, .ref a3, .int 0])), (a3, .inl (G.2 0, 36, .inl (fun _ => 0))), (a2, .inl (G.2 0, 36, .inl (fun _ => 0)))] s.heap.size = A at hD hT ⊢
  have hA : ∀ q : Nat, s.heap.size ≤ q → A q := fun q h => by rw [← hAe]; exact Or.inr h
  have hS : va_S A s.heap s.heap [] := va_S.rf
  have hP : va_P G.1 vwCl [(a0, .inr (6, [.int 6, .int 6, .ref a2, .int 0])), (a1, .inr (6, [.int 6, .int 6, .ref a3, .int 0])), (a3, .inl (G.2 0, 36, .inl (fun _ => 0))), (a2, .inl (G.2 0, 36, .inl (fun _ => 0)))] s.heap := hP
  have hl := lv_entry ([.ref a0, .ref a1]) (n := 2) (Nat.le_of_ble_eq_true rfl)
  rw [lg_entry_eq]
  generalize (lg_sl ([.ref a0, .ref a1]) ++ List.replicate (2 - (lg_sl ([.ref a0, .ref a1])).length) Slot.unset).toArray = ls at hl ⊢
  have hl : lv_has ls 2 [(0, .ref a0), (1, .ref a1)] := hl
  refine lv_aload_n hx hb dX6_copyFrom_0 rfl (lv_at hl 1 rfl) ?_
  refine va_get (D := G.1) (ci := 6) (v := .ref a3) (C := RX6) (T := TX6) (N := 4) hx hb hts inG_X6 hown hK hP 1 rfl rfl 2 (by decide) (hts _ fl_X6_21) (fun _ h9 => h9) rfl dX6_copyFrom_1 ?_
  refine va_alen hx hb hK hP 2 0 rfl rfl (v := 36) (by show Int32.ofNat 36 = 36; decide) dX6_copyFrom_4 ?_
  refine lv_aload_n hx hb dX6_copyFrom_5 rfl (lv_at hl 0 rfl) ?_
  refine va_get (D := G.1) (ci := 6) (v := .ref a2) (C := RX6) (T := TX6) (N := 4) hx hb hts inG_X6 hown hK hP 0 rfl rfl 2 (by decide) (hts _ fl_X6_21) (fun _ h9 => h9) rfl dX6_copyFrom_6 ?_
  refine va_alen hx hb hK hP 3 0 rfl rfl (v := 36) (by show Int32.ofNat 36 = 36; decide) dX6_copyFrom_9 ?_
  refine lv_icmp_ne (tgt := 39) hx hb dX6_copyFrom_10 (by decide) (fun c_1 => ?_) (fun c_1 => ?_)
  ·
    exact absurd c_1 (by decide)
  ·
    refine lv_aload_n hx hb dX6_copyFrom_13 rfl (lv_at hl 1 rfl) ?_
    refine va_get (D := G.1) (ci := 6) (v := .ref a3) (C := RX6) (T := TX6) (N := 4) hx hb hts inG_X6 hown hK hP 1 rfl rfl 2 (by decide) (hts _ fl_X6_21) (fun _ h9 => h9) rfl dX6_copyFrom_14 ?_
    refine lv_iconst (v := 0) hx hb dX6_copyFrom_17 (by decide) ?_
    refine lv_aload_n hx hb dX6_copyFrom_18 rfl (lv_at hl 0 rfl) ?_
    refine va_get (D := G.1) (ci := 6) (v := .ref a2) (C := RX6) (T := TX6) (N := 4) hx hb hts inG_X6 hown hK hP 0 rfl rfl 2 (by decide) (hts _ fl_X6_21) (fun _ h9 => h9) rfl dX6_copyFrom_19 ?_
    refine lv_iconst (v := 0) hx hb dX6_copyFrom_22 (by decide) ?_
    refine lv_aload_n hx hb dX6_copyFrom_23 rfl (lv_at hl 0 rfl) ?_
    refine va_get (D := G.1) (ci := 6) (v := .ref a2) (C := RX6) (T := TX6) (N := 4) hx hb hts inG_X6 hown hK hP 0 rfl rfl 2 (by decide) (hts _ fl_X6_21) (fun _ h9 => h9) rfl dX6_copyFrom_24 ?_
    refine va_alen hx hb hK hP 3 0 rfl rfl (v := 36) (by show Int32.ofNat 36 = 36; decide) dX6_copyFrom_27 ?_
    refine va_copyi hx hb (hml.trans hl.1.symm) hown (hts _ ml_X6_37) (hts _ ac_nat) (hts _ ac_st) (hts _ ac_ini) hK hP hD hS 2 3 0 0 rfl rfl rfl rfl rfl (sp := 0) (dp := 0) (n := 36) (by decide) (by decide) (by decide) (by decide) (by decide) (fun _ _ => rfl) (Nat.le_of_ble_eq_true rfl) (by decide) dX6_copyFrom_28 (fun H locs hP hD hS => ?_)
    have hP : va_P G.1 vwCl [(a0, .inr (6, [.int 6, .int 6, .ref a2, .int 0])), (a1, .inr (6, [.int 6, .int 6, .ref a3, .int 0])), (a3, .inl (G.2 0, 36, .inl (fun _ => 0))), (a2, .inl (G.2 0, 36, .inl (va_cpy (fun _ => 0) (fun _ => 0) 0 0 36)))] H := hP
    have hD : va_D A [(a0, .inr (6, [.int 6, .int 6, .ref a2, .int 0])), (a1, .inr (6, [.int 6, .int 6, .ref a3, .int 0])), (a3, .inl (G.2 0, 36, .inl (fun _ => 0))), (a2, .inl (G.2 0, 36, .inl (va_cpy (fun _ => 0) (fun _ => 0) 0 0 36)))] := hD
    refine lv_aload_n hx hb dX6_copyFrom_31 rfl (lv_at hl 0 rfl) ?_
    refine lv_aload_n hx hb dX6_copyFrom_32 rfl (lv_at hl 1 rfl) ?_
    refine va_get (D := G.1) (ci := 6) (v := .int 0) (C := RX6) (T := TX6) (N := 4) hx hb hts inG_X6 hown hK hP 1 rfl rfl 3 (by decide) (hts _ fl_X6_9) (fun _ h9 => h9) rfl dX6_copyFrom_33 ?_
    refine va_put (D := G.1) (ci := 6) (v := .int 0) (ty := .int) (C := RX6) (T := TX6) (N := 4) hx hb hts inG_X6 tyX6 tyX6_ok nmX6 hown hK hP hD hS 0 rfl rfl 3 (by decide) (hts _ fl_X6_9) (fun _ h9 => h9) rfl (by decide +kernel) rfl rfl (Nat.le_of_ble_eq_true rfl) dX6_copyFrom_36 (fun H locs hP hD hS => ?_)
    have hP : va_P G.1 vwCl [(a0, .inr (6, [.int 6, .int 6, .ref a2, .int 0])), (a1, .inr (6, [.int 6, .int 6, .ref a3, .int 0])), (a3, .inl (G.2 0, 36, .inl (fun _ => 0))), (a2, .inl (G.2 0, 36, .inl (va_cpy (fun _ => 0) (fun _ => 0) 0 0 36)))] H := hP
    have hD : va_D A [(a0, .inr (6, [.int 6, .int 6, .ref a2, .int 0])), (a1, .inr (6, [.int 6, .int 6, .ref a3, .int 0])), (a3, .inl (G.2 0, 36, .inl (fun _ => 0))), (a2, .inl (G.2 0, 36, .inl (va_cpy (fun _ => 0) (fun _ => 0) 0 0 36)))] := hD
    exact W.vret hx hb hr (fun t ht hW => ⟨⟨[(a0, .inr (6, [.int 6, .int 6, .ref a2, .int 0])), (a1, .inr (6, [.int 6, .int 6, .ref a3, .int 0])), (a3, .inl (G.2 0, 36, .inl (fun _ => 0))), (a2, .inl (G.2 0, 36, .inl (va_cpy (fun _ => 0) (fun _ => 0) 0 0 36)))], rfl, rfl, by rw [ht]; exact hP, hD⟩, hS.F ht⟩) hS.2.2 dX6_copyFrom_39
theorem ml_X1_84 : Cond.methodLink RX1 84 arraycopyName ∈ tblG := tg 1171 (by decide +kernel) (by decide +kernel)
theorem dX1_copyFrom_0 : decode cX1_copyFrom 0 = .ok (.aload_n 0, 1) := by decide +kernel
theorem dX1_copyFrom_1 : decode cX1_copyFrom 1 = .ok (.aload_n 1, 1) := by decide +kernel
theorem dX1_copyFrom_2 : decode cX1_copyFrom 2 = .ok (.getfield 9, 3) := by decide +kernel
theorem dX1_copyFrom_5 : decode cX1_copyFrom 5 = .ok (.putfield 9, 3) := by decide +kernel
theorem dX1_copyFrom_8 : decode cX1_copyFrom 8 = .ok (.aload_n 0, 1) := by decide +kernel
theorem dX1_copyFrom_9 : decode cX1_copyFrom 9 = .ok (.aload_n 1, 1) := by decide +kernel
theorem dX1_copyFrom_10 : decode cX1_copyFrom 10 = .ok (.getfield 15, 3) := by decide +kernel
theorem dX1_copyFrom_13 : decode cX1_copyFrom 13 = .ok (.putfield 15, 3) := by decide +kernel
theorem dX1_copyFrom_16 : decode cX1_copyFrom 16 = .ok (.aload_n 0, 1) := by decide +kernel
theorem dX1_copyFrom_17 : decode cX1_copyFrom 17 = .ok (.aload_n 1, 1) := by decide +kernel
theorem dX1_copyFrom_18 : decode cX1_copyFrom 18 = .ok (.getfield 19, 3) := by decide +kernel
theorem dX1_copyFrom_21 : decode cX1_copyFrom 21 = .ok (.putfield 19, 3) := by decide +kernel
theorem dX1_copyFrom_24 : decode cX1_copyFrom 24 = .ok (.aload_n 0, 1) := by decide +kernel
theorem dX1_copyFrom_25 : decode cX1_copyFrom 25 = .ok (.aload_n 1, 1) := by decide +kernel
theorem dX1_copyFrom_26 : decode cX1_copyFrom 26 = .ok (.getfield 22, 3) := by decide +kernel
theorem dX1_copyFrom_29 : decode cX1_copyFrom 29 = .ok (.putfield 22, 3) := by decide +kernel
theorem dX1_copyFrom_32 : decode cX1_copyFrom 32 = .ok (.aload_n 0, 1) := by decide +kernel
theorem dX1_copyFrom_33 : decode cX1_copyFrom 33 = .ok (.aload_n 1, 1) := by decide +kernel
theorem dX1_copyFrom_34 : decode cX1_copyFrom 34 = .ok (.getfield 25, 3) := by decide +kernel
theorem dX1_copyFrom_37 : decode cX1_copyFrom 37 = .ok (.putfield 25, 3) := by decide +kernel
theorem dX1_copyFrom_40 : decode cX1_copyFrom 40 = .ok (.iconst 0, 1) := by decide +kernel
theorem dX1_copyFrom_41 : decode cX1_copyFrom 41 = .ok (.istore_n 2, 1) := by decide +kernel
theorem dX1_copyFrom_42 : decode cX1_copyFrom 42 = .ok (.iload_n 2, 1) := by decide +kernel
theorem dX1_copyFrom_43 : decode cX1_copyFrom 43 = .ok (.bipush 6, 2) := by decide +kernel
theorem dX1_copyFrom_45 : decode cX1_copyFrom 45 = .ok (.if_icmp .ge 21, 3) := by decide +kernel
theorem dX1_copyFrom_48 : decode cX1_copyFrom 48 = .ok (.aload_n 0, 1) := by decide +kernel
theorem dX1_copyFrom_49 : decode cX1_copyFrom 49 = .ok (.getfield 30, 3) := by decide +kernel
theorem dX1_copyFrom_52 : decode cX1_copyFrom 52 = .ok (.iload_n 2, 1) := by decide +kernel
theorem dX1_copyFrom_53 : decode cX1_copyFrom 53 = .ok (.aload_n 1, 1) := by decide +kernel
theorem dX1_copyFrom_54 : decode cX1_copyFrom 54 = .ok (.getfield 30, 3) := by decide +kernel
theorem dX1_copyFrom_57 : decode cX1_copyFrom 57 = .ok (.iload_n 2, 1) := by decide +kernel
theorem dX1_copyFrom_58 : decode cX1_copyFrom 58 = .ok (.aaload, 1) := by decide +kernel
theorem dX1_copyFrom_59 : decode cX1_copyFrom 59 = .ok (.aastore, 1) := by decide +kernel
theorem dX1_copyFrom_60 : decode cX1_copyFrom 60 = .ok (.iinc 2 1, 3) := by decide +kernel
theorem dX1_copyFrom_63 : decode cX1_copyFrom 63 = .ok (.goto (-21), 3) := by decide +kernel
theorem dX1_copyFrom_66 : decode cX1_copyFrom 66 = .ok (.aload_n 0, 1) := by decide +kernel
theorem dX1_copyFrom_67 : decode cX1_copyFrom 67 = .ok (.getfield 39, 3) := by decide +kernel
theorem dX1_copyFrom_70 : decode cX1_copyFrom 70 = .ok (.aload_n 1, 1) := by decide +kernel
theorem dX1_copyFrom_71 : decode cX1_copyFrom 71 = .ok (.getfield 39, 3) := by decide +kernel
theorem dX1_copyFrom_74 : decode cX1_copyFrom 74 = .ok (.invokevirtual 80, 3) := by decide +kernel
theorem dX1_copyFrom_77 : decode cX1_copyFrom 77 = .ok (.aload_n 0, 1) := by decide +kernel
theorem dX1_copyFrom_78 : decode cX1_copyFrom 78 = .ok (.getfield 43, 3) := by decide +kernel
theorem dX1_copyFrom_81 : decode cX1_copyFrom 81 = .ok (.aload_n 1, 1) := by decide +kernel
theorem dX1_copyFrom_82 : decode cX1_copyFrom 82 = .ok (.getfield 43, 3) := by decide +kernel
theorem dX1_copyFrom_85 : decode cX1_copyFrom 85 = .ok (.invokevirtual 80, 3) := by decide +kernel
theorem dX1_copyFrom_88 : decode cX1_copyFrom 88 = .ok (.aload_n 0, 1) := by decide +kernel
theorem dX1_copyFrom_89 : decode cX1_copyFrom 89 = .ok (.getfield 46, 3) := by decide +kernel
theorem dX1_copyFrom_92 : decode cX1_copyFrom 92 = .ok (.aload_n 1, 1) := by decide +kernel
theorem dX1_copyFrom_93 : decode cX1_copyFrom 93 = .ok (.getfield 46, 3) := by decide +kernel
theorem dX1_copyFrom_96 : decode cX1_copyFrom 96 = .ok (.invokevirtual 80, 3) := by decide +kernel
theorem dX1_copyFrom_99 : decode cX1_copyFrom 99 = .ok (.aload_n 0, 1) := by decide +kernel
theorem dX1_copyFrom_100 : decode cX1_copyFrom 100 = .ok (.getfield 49, 3) := by decide +kernel
theorem dX1_copyFrom_103 : decode cX1_copyFrom 103 = .ok (.aload_n 1, 1) := by decide +kernel
theorem dX1_copyFrom_104 : decode cX1_copyFrom 104 = .ok (.getfield 49, 3) := by decide +kernel
theorem dX1_copyFrom_107 : decode cX1_copyFrom 107 = .ok (.invokevirtual 80, 3) := by decide +kernel
theorem dX1_copyFrom_110 : decode cX1_copyFrom 110 = .ok (.aload_n 0, 1) := by decide +kernel
theorem dX1_copyFrom_111 : decode cX1_copyFrom 111 = .ok (.getfield 52, 3) := by decide +kernel
theorem dX1_copyFrom_114 : decode cX1_copyFrom 114 = .ok (.aload_n 1, 1) := by decide +kernel
theorem dX1_copyFrom_115 : decode cX1_copyFrom 115 = .ok (.getfield 52, 3) := by decide +kernel
theorem dX1_copyFrom_118 : decode cX1_copyFrom 118 = .ok (.invokevirtual 80, 3) := by decide +kernel
theorem dX1_copyFrom_121 : decode cX1_copyFrom 121 = .ok (.aload_n 0, 1) := by decide +kernel
theorem dX1_copyFrom_122 : decode cX1_copyFrom 122 = .ok (.aload_n 1, 1) := by decide +kernel
theorem dX1_copyFrom_123 : decode cX1_copyFrom 123 = .ok (.getfield 55, 3) := by decide +kernel
theorem dX1_copyFrom_126 : decode cX1_copyFrom 126 = .ok (.putfield 55, 3) := by decide +kernel
theorem dX1_copyFrom_129 : decode cX1_copyFrom 129 = .ok (.aload_n 1, 1) := by decide +kernel
theorem dX1_copyFrom_130 : decode cX1_copyFrom 130 = .ok (.getfield 58, 3) := by decide +kernel
theorem dX1_copyFrom_133 : decode cX1_copyFrom 133 = .ok (.iconst 0, 1) := by decide +kernel
theorem dX1_copyFrom_134 : decode cX1_copyFrom 134 = .ok (.aload_n 0, 1) := by decide +kernel
theorem dX1_copyFrom_135 : decode cX1_copyFrom 135 = .ok (.getfield 58, 3) := by decide +kernel
theorem dX1_copyFrom_138 : decode cX1_copyFrom 138 = .ok (.iconst 0, 1) := by decide +kernel
theorem dX1_copyFrom_139 : decode cX1_copyFrom 139 = .ok (.bipush 24, 2) := by decide +kernel
theorem dX1_copyFrom_141 : decode cX1_copyFrom 141 = .ok (.invokestatic 84, 3) := by decide +kernel
theorem dX1_copyFrom_144 : decode cX1_copyFrom 144 = .ok (.return_, 1) := by decide +kernel
set_option maxHeartbeats 4000000 in
set_option maxRecDepth 100000 in
theorem kX1_copyFrom (l : Launch) (G : g5_G) (a0 a1 a2 a3 a4 a5 a6 a7 a8 a9 a10 a11 a12 a13 a14 a15 a16 a17 a18 a19 a20 a21 a22 a23 a24 a25 : Nat) (sz : Nat) : Met l yX1_copyFrom (wsG yX1_copyFrom cX1_copyFrom 3 none) ({ frames := 2, cells := 0, slots := 0, locals := 81 }) (va_Pc [.ref a0, .ref a1] (g5_P G [(a0, .inr (1, [.long 0, .int 1000, .int (-1), .int (-1), .int 0, .ref a2, .ref a3, .ref a4, .ref a5, .ref a6, .ref a7, .long 0, .ref a8])), (a1, .inr (1, [.long 0, .int 1000, .int (-1), .int (-1), .int 0, .ref a9, .ref a10, .ref a11, .ref a12, .ref a13, .ref a14, .long 0, .ref a15])), (a9, .inl (G.2 4, 6, .inr (.inr (.inr (.inr (fun _ => none)))))), (a2, .inl (G.2 4, 6, .inr (.inr (.inr (.inr (fun _ => none)))))), (a3, .inr (6, [.int 6, .int 5, .ref a16, .int 0])), (a10, .inr (6, [.int 6, .int 5, .ref a17, .int 0])), (a17, .inl (G.2 0, 30, .inl (fun _ => 0))), (a16, .inl (G.2 0, 30, .inl (fun _ => 0))), (a4, .inr (6, [.int 5, .int 24, .ref a18, .int 0])), (a11, .inr (6, [.int 5, .int 24, .ref a19, .int 0])), (a19, .inl (G.2 0, 120, .inl (fun _ => 0))), (a18, .inl (G.2 0, 120, .inl (fun _ => 0))), (a5, .inr (6, [.int 10, .int 4, .ref a20, .int 0])), (a12, .inr (6, [.int 10, .int 4, .ref a21, .int 0])), (a21, .inl (G.2 0, 40, .inl (fun _ => 0))), (a20, .inl (G.2 0, 40, .inl (fun _ => 0))), (a6, .inr (6, [.int 8, .int 5, .ref a22, .int 0])), (a13, .inr (6, [.int 8, .int 5, .ref a23, .int 0])), (a23, .inl (G.2 0, 40, .inl (fun _ => 0))), (a22, .inl (G.2 0, 40, .inl (fun _ => 0))), (a7, .inr (6, [.int 6, .int 6, .ref a24, .int 0])), (a14, .inr (6, [.int 6, .int 6, .ref a25, .int 0])), (a25, .inl (G.2 0, 36, .inl (fun _ => 0))), (a24, .inl (G.2 0, 36, .inl (fun _ => 0))), (a15, .inl (G.2 1, 24, .inr (.inl (fun _ => 0)))), (a8, .inl (G.2 1, 24, .inr (.inl (fun _ => 0))))] sz)) (va_Qv (fun (u : va_W) => ((u = [(a0, .inr (1, [.long 0, .int 1000, .int (-1), .int (-1), .int 0, .ref a2, .ref a3, .ref a4, .ref a5, .ref a6, .ref a7, .long 0, .ref a8])), (a1, .inr (1, [.long 0, .int 1000, .int (-1), .int (-1), .int 0, .ref a9, .ref a10, .ref a11, .ref a12, .ref a13, .ref a14, .long 0, .ref a15])), (a9, .inl (G.2 4, 6, .inr (.inr (.inr (.inr (fun _ => none)))))), (a2, .inl (G.2 4, 6, .inr (.inr (.inr (.inr (va_up (va_up (va_up (va_up (va_up (va_up (fun _ => none) 0 none) 1 none) 2 none) 3 none) 4 none) 5 none)))))), (a15, .inl (G.2 1, 24, .inr (.inl (fun _ => 0)))), (a8, .inl (G.2 1, 24, .inr (.inl (va_cpy (fun _ => 0) (fun _ => 0) 0 0 24)))), (a3, .inr (6, [.int 6, .int 5, .ref a16, .int 0])), (a10, .inr (6, [.int 6, .int 5, .ref a17, .int 0])), (a17, .inl (G.2 0, 30, .inl (fun _ => 0))), (a16, .inl (G.2 0, 30, .inl (va_cpy (fun _ => 0) (fun _ => 0) 0 0 30))), (a4, .inr (6, [.int 5, .int 24, .ref a18, .int 0])), (a11, .inr (6, [.int 5, .int 24, .ref a19, .int 0])), (a19, .inl (G.2 0, 120, .inl (fun _ => 0))), (a18, .inl (G.2 0, 120, .inl (va_cpy (fun _ => 0) (fun _ => 0) 0 0 120))), (a5, .inr (6, [.int 10, .int 4, .ref a20, .int 0])), (a12, .inr (6, [.int 10, .int 4, .ref a21, .int 0])), (a21, .inl (G.2 0, 40, .inl (fun _ => 0))), (a20, .inl (G.2 0, 40, .inl (va_cpy (fun _ => 0) (fun _ => 0) 0 0 40))), (a6, .inr (6, [.int 8, .int 5, .ref a22, .int 0])), (a13, .inr (6, [.int 8, .int 5, .ref a23, .int 0])), (a23, .inl (G.2 0, 40, .inl (fun _ => 0))), (a22, .inl (G.2 0, 40, .inl (va_cpy (fun _ => 0) (fun _ => 0) 0 0 40))), (a7, .inr (6, [.int 6, .int 6, .ref a24, .int 0])), (a14, .inr (6, [.int 6, .int 6, .ref a25, .int 0])), (a25, .inl (G.2 0, 36, .inl (fun _ => 0))), (a24, .inl (G.2 0, 36, .inl (va_cpy (fun _ => 0) (fun _ => 0) 0 0 36)))]))) (g5_B G (va_A [(a0, .inr (1, [.long 0, .int 1000, .int (-1), .int (-1), .int 0, .ref a2, .ref a3, .ref a4, .ref a5, .ref a6, .ref a7, .long 0, .ref a8])), (a1, .inr (1, [.long 0, .int 1000, .int (-1), .int (-1), .int 0, .ref a9, .ref a10, .ref a11, .ref a12, .ref a13, .ref a14, .long 0, .ref a15])), (a9, .inl (G.2 4, 6, .inr (.inr (.inr (.inr (fun _ => none)))))), (a2, .inl (G.2 4, 6, .inr (.inr (.inr (.inr (fun _ => none)))))), (a3, .inr (6, [.int 6, .int 5, .ref a16, .int 0])), (a10, .inr (6, [.int 6, .int 5, .ref a17, .int 0])), (a17, .inl (G.2 0, 30, .inl (fun _ => 0))), (a16, .inl (G.2 0, 30, .inl (fun _ => 0))), (a4, .inr (6, [.int 5, .int 24, .ref a18, .int 0])), (a11, .inr (6, [.int 5, .int 24, .ref a19, .int 0])), (a19, .inl (G.2 0, 120, .inl (fun _ => 0))), (a18, .inl (G.2 0, 120, .inl (fun _ => 0))), (a5, .inr (6, [.int 10, .int 4, .ref a20, .int 0])), (a12, .inr (6, [.int 10, .int 4, .ref a21, .int 0])), (a21, .inl (G.2 0, 40, .inl (fun _ => 0))), (a20, .inl (G.2 0, 40, .inl (fun _ => 0))), (a6, .inr (6, [.int 8, .int 5, .ref a22, .int 0])), (a13, .inr (6, [.int 8, .int 5, .ref a23, .int 0])), (a23, .inl (G.2 0, 40, .inl (fun _ => 0))), (a22, .inl (G.2 0, 40, .inl (fun _ => 0))), (a7, .inr (6, [.int 6, .int 6, .ref a24, .int 0])), (a14, .inr (6, [.int 6, .int 6, .ref a25, .int 0])), (a25, .inl (G.2 0, 36, .inl (fun _ => 0))), (a24, .inl (G.2 0, 36, .inl (fun _ => 0))), (a15, .inl (G.2 1, 24, .inr (.inl (fun _ => 0)))), (a8, .inl (G.2 1, 24, .inr (.inl (fun _ => 0))))] sz)) (va_A [(a0, .inr (1, [.long 0, .int 1000, .int (-1), .int (-1), .int 0, .ref a2, .ref a3, .ref a4, .ref a5, .ref a6, .ref a7, .long 0, .ref a8])), (a1, .inr (1, [.long 0, .int 1000, .int (-1), .int (-1), .int 0, .ref a9, .ref a10, .ref a11, .ref a12, .ref a13, .ref a14, .long 0, .ref a15])), (a9, .inl (G.2 4, 6, .inr (.inr (.inr (.inr (fun _ => none)))))), (a2, .inl (G.2 4, 6, .inr (.inr (.inr (.inr (fun _ => none)))))), (a3, .inr (6, [.int 6, .int 5, .ref a16, .int 0])), (a10, .inr (6, [.int 6, .int 5, .ref a17, .int 0])), (a17, .inl (G.2 0, 30, .inl (fun _ => 0))), (a16, .inl (G.2 0, 30, .inl (fun _ => 0))), (a4, .inr (6, [.int 5, .int 24, .ref a18, .int 0])), (a11, .inr (6, [.int 5, .int 24, .ref a19, .int 0])), (a19, .inl (G.2 0, 120, .inl (fun _ => 0))), (a18, .inl (G.2 0, 120, .inl (fun _ => 0))), (a5, .inr (6, [.int 10, .int 4, .ref a20, .int 0])), (a12, .inr (6, [.int 10, .int 4, .ref a21, .int 0])), (a21, .inl (G.2 0, 40, .inl (fun _ => 0))), (a20, .inl (G.2 0, 40, .inl (fun _ => 0))), (a6, .inr (6, [.int 8, .int 5, .ref a22, .int 0])), (a13, .inr (6, [.int 8, .int 5, .ref a23, .int 0])), (a23, .inl (G.2 0, 40, .inl (fun _ => 0))), (a22, .inl (G.2 0, 40, .inl (fun _ => 0))), (a7, .inr (6, [.int 6, .int 6, .ref a24, .int 0])), (a14, .inr (6, [.int 6, .int 6, .ref a25, .int 0])), (a25, .inl (G.2 0, 36, .inl (fun _ => 0))), (a24, .inl (G.2 0, 36, .inl (fun _ => 0))), (a15, .inl (G.2 1, 24, .inr (.inl (fun _ => 0)))), (a8, .inl (G.2 1, 24, .inr (.inl (fun _ => 0))))] sz)) 0 0 (va_A [(a0, .inr (1, [.long 0, .int 1000, .int (-1), .int (-1), .int 0, .ref a2, .ref a3, .ref a4, .ref a5, .ref a6, .ref a7, .long 0, .ref a8])), (a1, .inr (1, [.long 0, .int 1000, .int (-1), .int (-1), .int 0, .ref a9, .ref a10, .ref a11, .ref a12, .ref a13, .ref a14, .long 0, .ref a15])), (a9, .inl (G.2 4, 6, .inr (.inr (.inr (.inr (fun _ => none)))))), (a2, .inl (G.2 4, 6, .inr (.inr (.inr (.inr (fun _ => none)))))), (a3, .inr (6, [.int 6, .int 5, .ref a16, .int 0])), (a10, .inr (6, [.int 6, .int 5, .ref a17, .int 0])), (a17, .inl (G.2 0, 30, .inl (fun _ => 0))), (a16, .inl (G.2 0, 30, .inl (fun _ => 0))), (a4, .inr (6, [.int 5, .int 24, .ref a18, .int 0])), (a11, .inr (6, [.int 5, .int 24, .ref a19, .int 0])), (a19, .inl (G.2 0, 120, .inl (fun _ => 0))), (a18, .inl (G.2 0, 120, .inl (fun _ => 0))), (a5, .inr (6, [.int 10, .int 4, .ref a20, .int 0])), (a12, .inr (6, [.int 10, .int 4, .ref a21, .int 0])), (a21, .inl (G.2 0, 40, .inl (fun _ => 0))), (a20, .inl (G.2 0, 40, .inl (fun _ => 0))), (a6, .inr (6, [.int 8, .int 5, .ref a22, .int 0])), (a13, .inr (6, [.int 8, .int 5, .ref a23, .int 0])), (a23, .inl (G.2 0, 40, .inl (fun _ => 0))), (a22, .inl (G.2 0, 40, .inl (fun _ => 0))), (a7, .inr (6, [.int 6, .int 6, .ref a24, .int 0])), (a14, .inr (6, [.int 6, .int 6, .ref a25, .int 0])), (a25, .inl (G.2 0, 36, .inl (fun _ => 0))), (a24, .inl (G.2 0, 36, .inl (fun _ => 0))), (a15, .inl (G.2 1, 24, .inr (.inl (fun _ => 0)))), (a8, .inl (G.2 1, 24, .inr (.inl (fun _ => 0))))] sz) := by
  refine Met.ofW (cc := cX1_copyFrom) (maxL := 3) (ret := none) (by decide) rfl ?_
  intro p e s m args below meth c s₁ B hml hv
  obtain ⟨rfl, hsz, hP, hK, hD0, hN, hT⟩ := hv
  have hx := B.exec
  have hb := B.bytes
  have hr := B.returns
  have hts : ∀ w ∈ tblG, w.before _ s = true := fun w h => atoms_spec (ws := (wsG yX1_copyFrom cX1_copyFrom 3 none)) B.pre w (List.mem_cons_of_mem _ h)
  have hown : s.vm.findClass RX1 = some m.cls := findClass_of_methodNamed B.named
  have hlocks := B.notSynchronized
  subst hsz
  have hD := hD0.self (sz := s.heap.size)
  generalize hAe : va_A [(a0, .inr (1, [.long 0, .int 1000, .int (-1), .int (-1), .int 0, .ref a2, .ref a3, .ref a4, .ref a5, .ref a6, .ref a7, .long 0, .ref a8])), (a1, .inr (1, [.long 0, .int 1000, .int (-1), .int (-1), .int 0, .ref a9, .ref a10, .ref a11, .ref a12, .ref a13, .ref a14, .long 0, .ref a15])), (a9, .inl (G.2 4, 6, .inr (.inr (.inr (.inr (fun _ => none)))))), (a2, .inl (G.2 4, 6, .inr (.inr (.inr (.inr (fun _ => none)))))), (a3, .inr (6, [.int 6, .int 5, .ref a16, .int 0])), (a10, .inr (6, [.int 6, .int 5, .ref a17, .int 0])), (a17, .inl (G.2 0, 30, .inl (fun _ => 0))), (a16, .inl (G.2 0, 30, .inl (fun _ => 0))), (a4, .inr (6, [.int 5, .int 24, .ref a18, .int 0])), (a11, .inr (6, [.int 5, .int 24, .ref a19, .int 0])), (a19, .inl (G.2 0, 120, .inl (fun _ => 0))), (a18, .inl (G.2 0, 120, .inl (fun _ => 0))), (a5, .inr (6, [.int 10, .int 4, .ref a20, .int 0])), (a12, .inr (6, [.int 10, .int 4, .ref a21, .int 0])), (a21, .inl (G.2 0, 40, .inl (fun _ => 0))), (a20, .inl (G.2 0, 40, .inl (fun _ => 0))), (a6, .inr (6, [.int 8, .int 5, .ref a22, .int 0])), (a13, .inr (6, [.int 8, .int 5, .ref a23, .int 0])), (a23, .inl (G.2 0, 40, .inl (fun _ => 0))), (a22, .inl (G.2 0, 40, .inl (fun _ => 0))), (a7, .inr (6, [.int 6, .int 6, .ref a24, .int 0])), (a14, .inr (6, [.int 6, .int 6, .ref a25, .int 0])), (a25, .inl (G.2 0, 36, .inl (fun _ => 0))), (a24, .inl (G.2 0, 36, .inl (fun _ => 0))), (a15, .inl (G.2 1, 24, .inr (.inl (fun _ => 0)))), (a8, .inl (G.2 1, 24, .inr (.inl (fun _ => 0))))] s.heap.size = A at hD hT ⊢
  have hA : ∀ q : Nat, s.heap.size ≤ q → A q := fun q h => by rw [← hAe]; exact Or.inr h
  have hS : va_S A s.heap s.heap [] := va_S.rf
  have hP : va_P G.1 vwCl [(a0, .inr (1, [.long 0, .int 1000, .int (-1), .int (-1), .int 0, .ref a2, .ref a3, .ref a4, .ref a5, .ref a6, .ref a7, .long 0, .ref a8])), (a1, .inr (1, [.long 0, .int 1000, .int (-1), .int (-1), .int 0, .ref a9, .ref a10, .ref a11, .ref a12, .ref a13, .ref a14, .long 0, .ref a15])), (a9, .inl (G.2 4, 6, .inr (.inr (.inr (.inr (fun _ => none)))))), (a2, .inl (G.2 4, 6, .inr (.inr (.inr (.inr (fun _ => none)))))), (a3, .inr (6, [.int 6, .int 5, .ref a16, .int 0])), (a10, .inr (6, [.int 6, .int 5, .ref a17, .int 0])), (a17, .inl (G.2 0, 30, .inl (fun _ => 0))), (a16, .inl (G.2 0, 30, .inl (fun _ => 0))), (a4, .inr (6, [.int 5, .int 24, .ref a18, .int 0])), (a11, .inr (6, [.int 5, .int 24, .ref a19, .int 0])), (a19, .inl (G.2 0, 120, .inl (fun _ => 0))), (a18, .inl (G.2 0, 120, .inl (fun _ => 0))), (a5, .inr (6, [.int 10, .int 4, .ref a20, .int 0])), (a12, .inr (6, [.int 10, .int 4, .ref a21, .int 0])), (a21, .inl (G.2 0, 40, .inl (fun _ => 0))), (a20, .inl (G.2 0, 40, .inl (fun _ => 0))), (a6, .inr (6, [.int 8, .int 5, .ref a22, .int 0])), (a13, .inr (6, [.int 8, .int 5, .ref a23, .int 0])), (a23, .inl (G.2 0, 40, .inl (fun _ => 0))), (a22, .inl (G.2 0, 40, .inl (fun _ => 0))), (a7, .inr (6, [.int 6, .int 6, .ref a24, .int 0])), (a14, .inr (6, [.int 6, .int 6, .ref a25, .int 0])), (a25, .inl (G.2 0, 36, .inl (fun _ => 0))), (a24, .inl (G.2 0, 36, .inl (fun _ => 0))), (a15, .inl (G.2 1, 24, .inr (.inl (fun _ => 0)))), (a8, .inl (G.2 1, 24, .inr (.inl (fun _ => 0))))] s.heap := hP
  have hl := lv_entry ([.ref a0, .ref a1]) (n := 3) (Nat.le_of_ble_eq_true rfl)
  rw [lg_entry_eq]
  generalize (lg_sl ([.ref a0, .ref a1]) ++ List.replicate (3 - (lg_sl ([.ref a0, .ref a1])).length) Slot.unset).toArray = ls at hl ⊢
  have hl : lv_has ls 3 [(0, .ref a0), (1, .ref a1)] := hl
  refine lv_aload_n hx hb dX1_copyFrom_0 rfl (lv_at hl 0 rfl) ?_
  refine lv_aload_n hx hb dX1_copyFrom_1 rfl (lv_at hl 1 rfl) ?_
  refine va_get (D := G.1) (ci := 1) (v := .long 0) (C := RX1) (T := TX1) (N := 13) hx hb hts inG_X1 hown hK hP 1 rfl rfl 0 (by decide) (hts _ fl_X1_9) (fun _ h9 => h9) rfl dX1_copyFrom_2 ?_
  refine va_put (D := G.1) (ci := 1) (v := .long 0) (ty := .long) (C := RX1) (T := TX1) (N := 13) hx hb hts inG_X1 tyX1 tyX1_ok nmX1 hown hK hP hD hS 0 rfl rfl 0 (by decide) (hts _ fl_X1_9) (fun _ h9 => h9) rfl (by decide +kernel) rfl rfl (Nat.le_of_ble_eq_true rfl) dX1_copyFrom_5 (fun H locs hP hD hS => ?_)
  have hP : va_P G.1 vwCl [(a0, .inr (1, [.long 0, .int 1000, .int (-1), .int (-1), .int 0, .ref a2, .ref a3, .ref a4, .ref a5, .ref a6, .ref a7, .long 0, .ref a8])), (a1, .inr (1, [.long 0, .int 1000, .int (-1), .int (-1), .int 0, .ref a9, .ref a10, .ref a11, .ref a12, .ref a13, .ref a14, .long 0, .ref a15])), (a9, .inl (G.2 4, 6, .inr (.inr (.inr (.inr (fun _ => none)))))), (a2, .inl (G.2 4, 6, .inr (.inr (.inr (.inr (fun _ => none)))))), (a3, .inr (6, [.int 6, .int 5, .ref a16, .int 0])), (a10, .inr (6, [.int 6, .int 5, .ref a17, .int 0])), (a17, .inl (G.2 0, 30, .inl (fun _ => 0))), (a16, .inl (G.2 0, 30, .inl (fun _ => 0))), (a4, .inr (6, [.int 5, .int 24, .ref a18, .int 0])), (a11, .inr (6, [.int 5, .int 24, .ref a19, .int 0])), (a19, .inl (G.2 0, 120, .inl (fun _ => 0))), (a18, .inl (G.2 0, 120, .inl (fun _ => 0))), (a5, .inr (6, [.int 10, .int 4, .ref a20, .int 0])), (a12, .inr (6, [.int 10, .int 4, .ref a21, .int 0])), (a21, .inl (G.2 0, 40, .inl (fun _ => 0))), (a20, .inl (G.2 0, 40, .inl (fun _ => 0))), (a6, .inr (6, [.int 8, .int 5, .ref a22, .int 0])), (a13, .inr (6, [.int 8, .int 5, .ref a23, .int 0])), (a23, .inl (G.2 0, 40, .inl (fun _ => 0))), (a22, .inl (G.2 0, 40, .inl (fun _ => 0))), (a7, .inr (6, [.int 6, .int 6, .ref a24, .int 0])), (a14, .inr (6, [.int 6, .int 6, .ref a25, .int 0])), (a25, .inl (G.2 0, 36, .inl (fun _ => 0))), (a24, .inl (G.2 0, 36, .inl (fun _ => 0))), (a15, .inl (G.2 1, 24, .inr (.inl (fun _ => 0)))), (a8, .inl (G.2 1, 24, .inr (.inl (fun _ => 0))))] H := hP
  have hD : va_D A [(a0, .inr (1, [.long 0, .int 1000, .int (-1), .int (-1), .int 0, .ref a2, .ref a3, .ref a4, .ref a5, .ref a6, .ref a7, .long 0, .ref a8])), (a1, .inr (1, [.long 0, .int 1000, .int (-1), .int (-1), .int 0, .ref a9, .ref a10, .ref a11, .ref a12, .ref a13, .ref a14, .long 0, .ref a15])), (a9, .inl (G.2 4, 6, .inr (.inr (.inr (.inr (fun _ => none)))))), (a2, .inl (G.2 4, 6, .inr (.inr (.inr (.inr (fun _ => none)))))), (a3, .inr (6, [.int 6, .int 5, .ref a16, .int 0])), (a10, .inr (6, [.int 6, .int 5, .ref a17, .int 0])), (a17, .inl (G.2 0, 30, .inl (fun _ => 0))), (a16, .inl (G.2 0, 30, .inl (fun _ => 0))), (a4, .inr (6, [.int 5, .int 24, .ref a18, .int 0])), (a11, .inr (6, [.int 5, .int 24, .ref a19, .int 0])), (a19, .inl (G.2 0, 120, .inl (fun _ => 0))), (a18, .inl (G.2 0, 120, .inl (fun _ => 0))), (a5, .inr (6, [.int 10, .int 4, .ref a20, .int 0])), (a12, .inr (6, [.int 10, .int 4, .ref a21, .int 0])), (a21, .inl (G.2 0, 40, .inl (fun _ => 0))), (a20, .inl (G.2 0, 40, .inl (fun _ => 0))), (a6, .inr (6, [.int 8, .int 5, .ref a22, .int 0])), (a13, .inr (6, [.int 8, .int 5, .ref a23, .int 0])), (a23, .inl (G.2 0, 40, .inl (fun _ => 0))), (a22, .inl (G.2 0, 40, .inl (fun _ => 0))), (a7, .inr (6, [.int 6, .int 6, .ref a24, .int 0])), (a14, .inr (6, [.int 6, .int 6, .ref a25, .int 0])), (a25, .inl (G.2 0, 36, .inl (fun _ => 0))), (a24, .inl (G.2 0, 36, .inl (fun _ => 0))), (a15, .inl (G.2 1, 24, .inr (.inl (fun _ => 0)))), (a8, .inl (G.2 1, 24, .inr (.inl (fun _ => 0))))] := hD
  refine lv_aload_n hx hb dX1_copyFrom_8 rfl (lv_at hl 0 rfl) ?_
  refine lv_aload_n hx hb dX1_copyFrom_9 rfl (lv_at hl 1 rfl) ?_
  refine va_get (D := G.1) (ci := 1) (v := .int 1000) (C := RX1) (T := TX1) (N := 13) hx hb hts inG_X1 hown hK hP 1 rfl rfl 1 (by decide) (hts _ fl_X1_15) (fun _ h9 => h9) rfl dX1_copyFrom_10 ?_
  refine va_put (D := G.1) (ci := 1) (v := .int 1000) (ty := .int) (C := RX1) (T := TX1) (N := 13) hx hb hts inG_X1 tyX1 tyX1_ok nmX1 hown hK hP hD hS 0 rfl rfl 1 (by decide) (hts _ fl_X1_15) (fun _ h9 => h9) rfl (by decide +kernel) rfl rfl (Nat.le_of_ble_eq_true rfl) dX1_copyFrom_13 (fun H locs hP hD hS => ?_)
  have hP : va_P G.1 vwCl [(a0, .inr (1, [.long 0, .int 1000, .int (-1), .int (-1), .int 0, .ref a2, .ref a3, .ref a4, .ref a5, .ref a6, .ref a7, .long 0, .ref a8])), (a1, .inr (1, [.long 0, .int 1000, .int (-1), .int (-1), .int 0, .ref a9, .ref a10, .ref a11, .ref a12, .ref a13, .ref a14, .long 0, .ref a15])), (a9, .inl (G.2 4, 6, .inr (.inr (.inr (.inr (fun _ => none)))))), (a2, .inl (G.2 4, 6, .inr (.inr (.inr (.inr (fun _ => none)))))), (a3, .inr (6, [.int 6, .int 5, .ref a16, .int 0])), (a10, .inr (6, [.int 6, .int 5, .ref a17, .int 0])), (a17, .inl (G.2 0, 30, .inl (fun _ => 0))), (a16, .inl (G.2 0, 30, .inl (fun _ => 0))), (a4, .inr (6, [.int 5, .int 24, .ref a18, .int 0])), (a11, .inr (6, [.int 5, .int 24, .ref a19, .int 0])), (a19, .inl (G.2 0, 120, .inl (fun _ => 0))), (a18, .inl (G.2 0, 120, .inl (fun _ => 0))), (a5, .inr (6, [.int 10, .int 4, .ref a20, .int 0])), (a12, .inr (6, [.int 10, .int 4, .ref a21, .int 0])), (a21, .inl (G.2 0, 40, .inl (fun _ => 0))), (a20, .inl (G.2 0, 40, .inl (fun _ => 0))), (a6, .inr (6, [.int 8, .int 5, .ref a22, .int 0])), (a13, .inr (6, [.int 8, .int 5, .ref a23, .int 0])), (a23, .inl (G.2 0, 40, .inl (fun _ => 0))), (a22, .inl (G.2 0, 40, .inl (fun _ => 0))), (a7, .inr (6, [.int 6, .int 6, .ref a24, .int 0])), (a14, .inr (6, [.int 6, .int 6, .ref a25, .int 0])), (a25, .inl (G.2 0, 36, .inl (fun _ => 0))), (a24, .inl (G.2 0, 36, .inl (fun _ => 0))), (a15, .inl (G.2 1, 24, .inr (.inl (fun _ => 0)))), (a8, .inl (G.2 1, 24, .inr (.inl (fun _ => 0))))] H := hP
  have hD : va_D A [(a0, .inr (1, [.long 0, .int 1000, .int (-1), .int (-1), .int 0, .ref a2, .ref a3, .ref a4, .ref a5, .ref a6, .ref a7, .long 0, .ref a8])), (a1, .inr (1, [.long 0, .int 1000, .int (-1), .int (-1), .int 0, .ref a9, .ref a10, .ref a11, .ref a12, .ref a13, .ref a14, .long 0, .ref a15])), (a9, .inl (G.2 4, 6, .inr (.inr (.inr (.inr (fun _ => none)))))), (a2, .inl (G.2 4, 6, .inr (.inr (.inr (.inr (fun _ => none)))))), (a3, .inr (6, [.int 6, .int 5, .ref a16, .int 0])), (a10, .inr (6, [.int 6, .int 5, .ref a17, .int 0])), (a17, .inl (G.2 0, 30, .inl (fun _ => 0))), (a16, .inl (G.2 0, 30, .inl (fun _ => 0))), (a4, .inr (6, [.int 5, .int 24, .ref a18, .int 0])), (a11, .inr (6, [.int 5, .int 24, .ref a19, .int 0])), (a19, .inl (G.2 0, 120, .inl (fun _ => 0))), (a18, .inl (G.2 0, 120, .inl (fun _ => 0))), (a5, .inr (6, [.int 10, .int 4, .ref a20, .int 0])), (a12, .inr (6, [.int 10, .int 4, .ref a21, .int 0])), (a21, .inl (G.2 0, 40, .inl (fun _ => 0))), (a20, .inl (G.2 0, 40, .inl (fun _ => 0))), (a6, .inr (6, [.int 8, .int 5, .ref a22, .int 0])), (a13, .inr (6, [.int 8, .int 5, .ref a23, .int 0])), (a23, .inl (G.2 0, 40, .inl (fun _ => 0))), (a22, .inl (G.2 0, 40, .inl (fun _ => 0))), (a7, .inr (6, [.int 6, .int 6, .ref a24, .int 0])), (a14, .inr (6, [.int 6, .int 6, .ref a25, .int 0])), (a25, .inl (G.2 0, 36, .inl (fun _ => 0))), (a24, .inl (G.2 0, 36, .inl (fun _ => 0))), (a15, .inl (G.2 1, 24, .inr (.inl (fun _ => 0)))), (a8, .inl (G.2 1, 24, .inr (.inl (fun _ => 0))))] := hD
  refine lv_aload_n hx hb dX1_copyFrom_16 rfl (lv_at hl 0 rfl) ?_
  refine lv_aload_n hx hb dX1_copyFrom_17 rfl (lv_at hl 1 rfl) ?_
  refine va_get (D := G.1) (ci := 1) (v := .int (-1)) (C := RX1) (T := TX1) (N := 13) hx hb hts inG_X1 hown hK hP 1 rfl rfl 2 (by decide) (hts _ fl_X1_19) (fun _ h9 => h9) rfl dX1_copyFrom_18 ?_
  refine va_put (D := G.1) (ci := 1) (v := .int (-1)) (ty := .int) (C := RX1) (T := TX1) (N := 13) hx hb hts inG_X1 tyX1 tyX1_ok nmX1 hown hK hP hD hS 0 rfl rfl 2 (by decide) (hts _ fl_X1_19) (fun _ h9 => h9) rfl (by decide +kernel) rfl rfl (Nat.le_of_ble_eq_true rfl) dX1_copyFrom_21 (fun H locs hP hD hS => ?_)
  have hP : va_P G.1 vwCl [(a0, .inr (1, [.long 0, .int 1000, .int (-1), .int (-1), .int 0, .ref a2, .ref a3, .ref a4, .ref a5, .ref a6, .ref a7, .long 0, .ref a8])), (a1, .inr (1, [.long 0, .int 1000, .int (-1), .int (-1), .int 0, .ref a9, .ref a10, .ref a11, .ref a12, .ref a13, .ref a14, .long 0, .ref a15])), (a9, .inl (G.2 4, 6, .inr (.inr (.inr (.inr (fun _ => none)))))), (a2, .inl (G.2 4, 6, .inr (.inr (.inr (.inr (fun _ => none)))))), (a3, .inr (6, [.int 6, .int 5, .ref a16, .int 0])), (a10, .inr (6, [.int 6, .int 5, .ref a17, .int 0])), (a17, .inl (G.2 0, 30, .inl (fun _ => 0))), (a16, .inl (G.2 0, 30, .inl (fun _ => 0))), (a4, .inr (6, [.int 5, .int 24, .ref a18, .int 0])), (a11, .inr (6, [.int 5, .int 24, .ref a19, .int 0])), (a19, .inl (G.2 0, 120, .inl (fun _ => 0))), (a18, .inl (G.2 0, 120, .inl (fun _ => 0))), (a5, .inr (6, [.int 10, .int 4, .ref a20, .int 0])), (a12, .inr (6, [.int 10, .int 4, .ref a21, .int 0])), (a21, .inl (G.2 0, 40, .inl (fun _ => 0))), (a20, .inl (G.2 0, 40, .inl (fun _ => 0))), (a6, .inr (6, [.int 8, .int 5, .ref a22, .int 0])), (a13, .inr (6, [.int 8, .int 5, .ref a23, .int 0])), (a23, .inl (G.2 0, 40, .inl (fun _ => 0))), (a22, .inl (G.2 0, 40, .inl (fun _ => 0))), (a7, .inr (6, [.int 6, .int 6, .ref a24, .int 0])), (a14, .inr (6, [.int 6, .int 6, .ref a25, .int 0])), (a25, .inl (G.2 0, 36, .inl (fun _ => 0))), (a24, .inl (G.2 0, 36, .inl (fun _ => 0))), (a15, .inl (G.2 1, 24, .inr (.inl (fun _ => 0)))), (a8, .inl (G.2 1, 24, .inr (.inl (fun _ => 0))))] H := hP
  have hD : va_D A [(a0, .inr (1, [.long 0, .int 1000, .int (-1), .int (-1), .int 0, .ref a2, .ref a3, .ref a4, .ref a5, .ref a6, .ref a7, .long 0, .ref a8])), (a1, .inr (1, [.long 0, .int 1000, .int (-1), .int (-1), .int 0, .ref a9, .ref a10, .ref a11, .ref a12, .ref a13, .ref a14, .long 0, .ref a15])), (a9, .inl (G.2 4, 6, .inr (.inr (.inr (.inr (fun _ => none)))))), (a2, .inl (G.2 4, 6, .inr (.inr (.inr (.inr (fun _ => none)))))), (a3, .inr (6, [.int 6, .int 5, .ref a16, .int 0])), (a10, .inr (6, [.int 6, .int 5, .ref a17, .int 0])), (a17, .inl (G.2 0, 30, .inl (fun _ => 0))), (a16, .inl (G.2 0, 30, .inl (fun _ => 0))), (a4, .inr (6, [.int 5, .int 24, .ref a18, .int 0])), (a11, .inr (6, [.int 5, .int 24, .ref a19, .int 0])), (a19, .inl (G.2 0, 120, .inl (fun _ => 0))), (a18, .inl (G.2 0, 120, .inl (fun _ => 0))), (a5, .inr (6, [.int 10, .int 4, .ref a20, .int 0])), (a12, .inr (6, [.int 10, .int 4, .ref a21, .int 0])), (a21, .inl (G.2 0, 40, .inl (fun _ => 0))), (a20, .inl (G.2 0, 40, .inl (fun _ => 0))), (a6, .inr (6, [.int 8, .int 5, .ref a22, .int 0])), (a13, .inr (6, [.int 8, .int 5, .ref a23, .int 0])), (a23, .inl (G.2 0, 40, .inl (fun _ => 0))), (a22, .inl (G.2 0, 40, .inl (fun _ => 0))), (a7, .inr (6, [.int 6, .int 6, .ref a24, .int 0])), (a14, .inr (6, [.int 6, .int 6, .ref a25, .int 0])), (a25, .inl (G.2 0, 36, .inl (fun _ => 0))), (a24, .inl (G.2 0, 36, .inl (fun _ => 0))), (a15, .inl (G.2 1, 24, .inr (.inl (fun _ => 0)))), (a8, .inl (G.2 1, 24, .inr (.inl (fun _ => 0))))] := hD
  refine lv_aload_n hx hb dX1_copyFrom_24 rfl (lv_at hl 0 rfl) ?_
  refine lv_aload_n hx hb dX1_copyFrom_25 rfl (lv_at hl 1 rfl) ?_
  refine va_get (D := G.1) (ci := 1) (v := .int (-1)) (C := RX1) (T := TX1) (N := 13) hx hb hts inG_X1 hown hK hP 1 rfl rfl 3 (by decide) (hts _ fl_X1_22) (fun _ h9 => h9) rfl dX1_copyFrom_26 ?_
  refine va_put (D := G.1) (ci := 1) (v := .int (-1)) (ty := .int) (C := RX1) (T := TX1) (N := 13) hx hb hts inG_X1 tyX1 tyX1_ok nmX1 hown hK hP hD hS 0 rfl rfl 3 (by decide) (hts _ fl_X1_22) (fun _ h9 => h9) rfl (by decide +kernel) rfl rfl (Nat.le_of_ble_eq_true rfl) dX1_copyFrom_29 (fun H locs hP hD hS => ?_)
  have hP : va_P G.1 vwCl [(a0, .inr (1, [.long 0, .int 1000, .int (-1), .int (-1), .int 0, .ref a2, .ref a3, .ref a4, .ref a5, .ref a6, .ref a7, .long 0, .ref a8])), (a1, .inr (1, [.long 0, .int 1000, .int (-1), .int (-1), .int 0, .ref a9, .ref a10, .ref a11, .ref a12, .ref a13, .ref a14, .long 0, .ref a15])), (a9, .inl (G.2 4, 6, .inr (.inr (.inr (.inr (fun _ => none)))))), (a2, .inl (G.2 4, 6, .inr (.inr (.inr (.inr (fun _ => none)))))), (a3, .inr (6, [.int 6, .int 5, .ref a16, .int 0])), (a10, .inr (6, [.int 6, .int 5, .ref a17, .int 0])), (a17, .inl (G.2 0, 30, .inl (fun _ => 0))), (a16, .inl (G.2 0, 30, .inl (fun _ => 0))), (a4, .inr (6, [.int 5, .int 24, .ref a18, .int 0])), (a11, .inr (6, [.int 5, .int 24, .ref a19, .int 0])), (a19, .inl (G.2 0, 120, .inl (fun _ => 0))), (a18, .inl (G.2 0, 120, .inl (fun _ => 0))), (a5, .inr (6, [.int 10, .int 4, .ref a20, .int 0])), (a12, .inr (6, [.int 10, .int 4, .ref a21, .int 0])), (a21, .inl (G.2 0, 40, .inl (fun _ => 0))), (a20, .inl (G.2 0, 40, .inl (fun _ => 0))), (a6, .inr (6, [.int 8, .int 5, .ref a22, .int 0])), (a13, .inr (6, [.int 8, .int 5, .ref a23, .int 0])), (a23, .inl (G.2 0, 40, .inl (fun _ => 0))), (a22, .inl (G.2 0, 40, .inl (fun _ => 0))), (a7, .inr (6, [.int 6, .int 6, .ref a24, .int 0])), (a14, .inr (6, [.int 6, .int 6, .ref a25, .int 0])), (a25, .inl (G.2 0, 36, .inl (fun _ => 0))), (a24, .inl (G.2 0, 36, .inl (fun _ => 0))), (a15, .inl (G.2 1, 24, .inr (.inl (fun _ => 0)))), (a8, .inl (G.2 1, 24, .inr (.inl (fun _ => 0))))] H := hP
  have hD : va_D A [(a0, .inr (1, [.long 0, .int 1000, .int (-1), .int (-1), .int 0, .ref a2, .ref a3, .ref a4, .ref a5, .ref a6, .ref a7, .long 0, .ref a8])), (a1, .inr (1, [.long 0, .int 1000, .int (-1), .int (-1), .int 0, .ref a9, .ref a10, .ref a11, .ref a12, .ref a13, .ref a14, .long 0, .ref a15])), (a9, .inl (G.2 4, 6, .inr (.inr (.inr (.inr (fun _ => none)))))), (a2, .inl (G.2 4, 6, .inr (.inr (.inr (.inr (fun _ => none)))))), (a3, .inr (6, [.int 6, .int 5, .ref a16, .int 0])), (a10, .inr (6, [.int 6, .int 5, .ref a17, .int 0])), (a17, .inl (G.2 0, 30, .inl (fun _ => 0))), (a16, .inl (G.2 0, 30, .inl (fun _ => 0))), (a4, .inr (6, [.int 5, .int 24, .ref a18, .int 0])), (a11, .inr (6, [.int 5, .int 24, .ref a19, .int 0])), (a19, .inl (G.2 0, 120, .inl (fun _ => 0))), (a18, .inl (G.2 0, 120, .inl (fun _ => 0))), (a5, .inr (6, [.int 10, .int 4, .ref a20, .int 0])), (a12, .inr (6, [.int 10, .int 4, .ref a21, .int 0])), (a21, .inl (G.2 0, 40, .inl (fun _ => 0))), (a20, .inl (G.2 0, 40, .inl (fun _ => 0))), (a6, .inr (6, [.int 8, .int 5, .ref a22, .int 0])), (a13, .inr (6, [.int 8, .int 5, .ref a23, .int 0])), (a23, .inl (G.2 0, 40, .inl (fun _ => 0))), (a22, .inl (G.2 0, 40, .inl (fun _ => 0))), (a7, .inr (6, [.int 6, .int 6, .ref a24, .int 0])), (a14, .inr (6, [.int 6, .int 6, .ref a25, .int 0])), (a25, .inl (G.2 0, 36, .inl (fun _ => 0))), (a24, .inl (G.2 0, 36, .inl (fun _ => 0))), (a15, .inl (G.2 1, 24, .inr (.inl (fun _ => 0)))), (a8, .inl (G.2 1, 24, .inr (.inl (fun _ => 0))))] := hD
  refine lv_aload_n hx hb dX1_copyFrom_32 rfl (lv_at hl 0 rfl) ?_
  refine lv_aload_n hx hb dX1_copyFrom_33 rfl (lv_at hl 1 rfl) ?_
  refine va_get (D := G.1) (ci := 1) (v := .int 0) (C := RX1) (T := TX1) (N := 13) hx hb hts inG_X1 hown hK hP 1 rfl rfl 4 (by decide) (hts _ fl_X1_25) (fun _ h9 => h9) rfl dX1_copyFrom_34 ?_
  refine va_put (D := G.1) (ci := 1) (v := .int 0) (ty := .int) (C := RX1) (T := TX1) (N := 13) hx hb hts inG_X1 tyX1 tyX1_ok nmX1 hown hK hP hD hS 0 rfl rfl 4 (by decide) (hts _ fl_X1_25) (fun _ h9 => h9) rfl (by decide +kernel) rfl rfl (Nat.le_of_ble_eq_true rfl) dX1_copyFrom_37 (fun H locs hP hD hS => ?_)
  have hP : va_P G.1 vwCl [(a0, .inr (1, [.long 0, .int 1000, .int (-1), .int (-1), .int 0, .ref a2, .ref a3, .ref a4, .ref a5, .ref a6, .ref a7, .long 0, .ref a8])), (a1, .inr (1, [.long 0, .int 1000, .int (-1), .int (-1), .int 0, .ref a9, .ref a10, .ref a11, .ref a12, .ref a13, .ref a14, .long 0, .ref a15])), (a9, .inl (G.2 4, 6, .inr (.inr (.inr (.inr (fun _ => none)))))), (a2, .inl (G.2 4, 6, .inr (.inr (.inr (.inr (fun _ => none)))))), (a3, .inr (6, [.int 6, .int 5, .ref a16, .int 0])), (a10, .inr (6, [.int 6, .int 5, .ref a17, .int 0])), (a17, .inl (G.2 0, 30, .inl (fun _ => 0))), (a16, .inl (G.2 0, 30, .inl (fun _ => 0))), (a4, .inr (6, [.int 5, .int 24, .ref a18, .int 0])), (a11, .inr (6, [.int 5, .int 24, .ref a19, .int 0])), (a19, .inl (G.2 0, 120, .inl (fun _ => 0))), (a18, .inl (G.2 0, 120, .inl (fun _ => 0))), (a5, .inr (6, [.int 10, .int 4, .ref a20, .int 0])), (a12, .inr (6, [.int 10, .int 4, .ref a21, .int 0])), (a21, .inl (G.2 0, 40, .inl (fun _ => 0))), (a20, .inl (G.2 0, 40, .inl (fun _ => 0))), (a6, .inr (6, [.int 8, .int 5, .ref a22, .int 0])), (a13, .inr (6, [.int 8, .int 5, .ref a23, .int 0])), (a23, .inl (G.2 0, 40, .inl (fun _ => 0))), (a22, .inl (G.2 0, 40, .inl (fun _ => 0))), (a7, .inr (6, [.int 6, .int 6, .ref a24, .int 0])), (a14, .inr (6, [.int 6, .int 6, .ref a25, .int 0])), (a25, .inl (G.2 0, 36, .inl (fun _ => 0))), (a24, .inl (G.2 0, 36, .inl (fun _ => 0))), (a15, .inl (G.2 1, 24, .inr (.inl (fun _ => 0)))), (a8, .inl (G.2 1, 24, .inr (.inl (fun _ => 0))))] H := hP
  have hD : va_D A [(a0, .inr (1, [.long 0, .int 1000, .int (-1), .int (-1), .int 0, .ref a2, .ref a3, .ref a4, .ref a5, .ref a6, .ref a7, .long 0, .ref a8])), (a1, .inr (1, [.long 0, .int 1000, .int (-1), .int (-1), .int 0, .ref a9, .ref a10, .ref a11, .ref a12, .ref a13, .ref a14, .long 0, .ref a15])), (a9, .inl (G.2 4, 6, .inr (.inr (.inr (.inr (fun _ => none)))))), (a2, .inl (G.2 4, 6, .inr (.inr (.inr (.inr (fun _ => none)))))), (a3, .inr (6, [.int 6, .int 5, .ref a16, .int 0])), (a10, .inr (6, [.int 6, .int 5, .ref a17, .int 0])), (a17, .inl (G.2 0, 30, .inl (fun _ => 0))), (a16, .inl (G.2 0, 30, .inl (fun _ => 0))), (a4, .inr (6, [.int 5, .int 24, .ref a18, .int 0])), (a11, .inr (6, [.int 5, .int 24, .ref a19, .int 0])), (a19, .inl (G.2 0, 120, .inl (fun _ => 0))), (a18, .inl (G.2 0, 120, .inl (fun _ => 0))), (a5, .inr (6, [.int 10, .int 4, .ref a20, .int 0])), (a12, .inr (6, [.int 10, .int 4, .ref a21, .int 0])), (a21, .inl (G.2 0, 40, .inl (fun _ => 0))), (a20, .inl (G.2 0, 40, .inl (fun _ => 0))), (a6, .inr (6, [.int 8, .int 5, .ref a22, .int 0])), (a13, .inr (6, [.int 8, .int 5, .ref a23, .int 0])), (a23, .inl (G.2 0, 40, .inl (fun _ => 0))), (a22, .inl (G.2 0, 40, .inl (fun _ => 0))), (a7, .inr (6, [.int 6, .int 6, .ref a24, .int 0])), (a14, .inr (6, [.int 6, .int 6, .ref a25, .int 0])), (a25, .inl (G.2 0, 36, .inl (fun _ => 0))), (a24, .inl (G.2 0, 36, .inl (fun _ => 0))), (a15, .inl (G.2 1, 24, .inr (.inl (fun _ => 0)))), (a8, .inl (G.2 1, 24, .inr (.inl (fun _ => 0))))] := hD
  refine lv_iconst (v := 0) hx hb dX1_copyFrom_40 (by decide) ?_
  refine lv_istore_n (lv' := [(2, .int 0), (0, .ref a0), (1, .ref a1)]) hx hb dX1_copyFrom_41 rfl hl (by decide) rfl (fun ls hl => ?_)
  refine lv_iload_n hx hb dX1_copyFrom_42 rfl (lv_at hl 0 rfl) ?_
  refine lv_bipush (v := 6) hx hb dX1_copyFrom_43 (by decide) ?_
  refine lv_icmp_ge (tgt := 66) hx hb dX1_copyFrom_45 (by decide) (fun c_1 => ?_) (fun c_1 => ?_)
  ·
    exact absurd c_1 (by decide)
  ·
    refine lv_aload_n hx hb dX1_copyFrom_48 rfl (lv_at hl 1 rfl) ?_
    refine va_get (D := G.1) (ci := 1) (v := .ref a2) (C := RX1) (T := TX1) (N := 13) hx hb hts inG_X1 hown hK hP 0 rfl rfl 5 (by decide) (hts _ fl_X1_30) (fun _ h9 => h9) rfl dX1_copyFrom_49 ?_
    refine lv_iload_n hx hb dX1_copyFrom_52 rfl (lv_at hl 0 rfl) ?_
    refine lv_aload_n hx hb dX1_copyFrom_53 rfl (lv_at hl 2 rfl) ?_
    refine va_get (D := G.1) (ci := 1) (v := .ref a9) (C := RX1) (T := TX1) (N := 13) hx hb hts inG_X1 hown hK hP 1 rfl rfl 5 (by decide) (hts _ fl_X1_30) (fun _ h9 => h9) rfl dX1_copyFrom_54 ?_
    refine lv_iload_n hx hb dX1_copyFrom_57 rfl (lv_at hl 0 rfl) ?_
    refine va_aldq hx hb hK hP 2 4 rfl rfl (i := 0) (by unfold vp_in; decide) dX1_copyFrom_58 ?_
    refine g5_tv (v := .null) rfl ?_
    refine va_astqN hx hb hK hP hD hS 3 4 rfl rfl (i := 0) (by unfold vp_in; decide) dX1_copyFrom_59 (fun H locs hP hD hS => ?_)
    have hP : va_P G.1 vwCl [(a0, .inr (1, [.long 0, .int 1000, .int (-1), .int (-1), .int 0, .ref a2, .ref a3, .ref a4, .ref a5, .ref a6, .ref a7, .long 0, .ref a8])), (a1, .inr (1, [.long 0, .int 1000, .int (-1), .int (-1), .int 0, .ref a9, .ref a10, .ref a11, .ref a12, .ref a13, .ref a14, .long 0, .ref a15])), (a9, .inl (G.2 4, 6, .inr (.inr (.inr (.inr (fun _ => none)))))), (a2, .inl (G.2 4, 6, .inr (.inr (.inr (.inr (va_up (fun _ => none) 0 none)))))), (a3, .inr (6, [.int 6, .int 5, .ref a16, .int 0])), (a10, .inr (6, [.int 6, .int 5, .ref a17, .int 0])), (a17, .inl (G.2 0, 30, .inl (fun _ => 0))), (a16, .inl (G.2 0, 30, .inl (fun _ => 0))), (a4, .inr (6, [.int 5, .int 24, .ref a18, .int 0])), (a11, .inr (6, [.int 5, .int 24, .ref a19, .int 0])), (a19, .inl (G.2 0, 120, .inl (fun _ => 0))), (a18, .inl (G.2 0, 120, .inl (fun _ => 0))), (a5, .inr (6, [.int 10, .int 4, .ref a20, .int 0])), (a12, .inr (6, [.int 10, .int 4, .ref a21, .int 0])), (a21, .inl (G.2 0, 40, .inl (fun _ => 0))), (a20, .inl (G.2 0, 40, .inl (fun _ => 0))), (a6, .inr (6, [.int 8, .int 5, .ref a22, .int 0])), (a13, .inr (6, [.int 8, .int 5, .ref a23, .int 0])), (a23, .inl (G.2 0, 40, .inl (fun _ => 0))), (a22, .inl (G.2 0, 40, .inl (fun _ => 0))), (a7, .inr (6, [.int 6, .int 6, .ref a24, .int 0])), (a14, .inr (6, [.int 6, .int 6, .ref a25, .int 0])), (a25, .inl (G.2 0, 36, .inl (fun _ => 0))), (a24, .inl (G.2 0, 36, .inl (fun _ => 0))), (a15, .inl (G.2 1, 24, .inr (.inl (fun _ => 0)))), (a8, .inl (G.2 1, 24, .inr (.inl (fun _ => 0))))] H := hP
    have hD : va_D A [(a0, .inr (1, [.long 0, .int 1000, .int (-1), .int (-1), .int 0, .ref a2, .ref a3, .ref a4, .ref a5, .ref a6, .ref a7, .long 0, .ref a8])), (a1, .inr (1, [.long 0, .int 1000, .int (-1), .int (-1), .int 0, .ref a9, .ref a10, .ref a11, .ref a12, .ref a13, .ref a14, .long 0, .ref a15])), (a9, .inl (G.2 4, 6, .inr (.inr (.inr (.inr (fun _ => none)))))), (a2, .inl (G.2 4, 6, .inr (.inr (.inr (.inr (va_up (fun _ => none) 0 none)))))), (a3, .inr (6, [.int 6, .int 5, .ref a16, .int 0])), (a10, .inr (6, [.int 6, .int 5, .ref a17, .int 0])), (a17, .inl (G.2 0, 30, .inl (fun _ => 0))), (a16, .inl (G.2 0, 30, .inl (fun _ => 0))), (a4, .inr (6, [.int 5, .int 24, .ref a18, .int 0])), (a11, .inr (6, [.int 5, .int 24, .ref a19, .int 0])), (a19, .inl (G.2 0, 120, .inl (fun _ => 0))), (a18, .inl (G.2 0, 120, .inl (fun _ => 0))), (a5, .inr (6, [.int 10, .int 4, .ref a20, .int 0])), (a12, .inr (6, [.int 10, .int 4, .ref a21, .int 0])), (a21, .inl (G.2 0, 40, .inl (fun _ => 0))), (a20, .inl (G.2 0, 40, .inl (fun _ => 0))), (a6, .inr (6, [.int 8, .int 5, .ref a22, .int 0])), (a13, .inr (6, [.int 8, .int 5, .ref a23, .int 0])), (a23, .inl (G.2 0, 40, .inl (fun _ => 0))), (a22, .inl (G.2 0, 40, .inl (fun _ => 0))), (a7, .inr (6, [.int 6, .int 6, .ref a24, .int 0])), (a14, .inr (6, [.int 6, .int 6, .ref a25, .int 0])), (a25, .inl (G.2 0, 36, .inl (fun _ => 0))), (a24, .inl (G.2 0, 36, .inl (fun _ => 0))), (a15, .inl (G.2 1, 24, .inr (.inl (fun _ => 0)))), (a8, .inl (G.2 1, 24, .inr (.inl (fun _ => 0))))] := hD
    refine lv_iinc (v := 1) (lv' := [(2, .int 1), (0, .ref a0), (1, .ref a1)]) hx hb dX1_copyFrom_60 hl (k := 0) rfl (by decide) (by decide) rfl (fun ls hl => ?_)
    refine lv_goto (tgt := 42) hx hb dX1_copyFrom_63 (by decide) ?_
    refine lv_iload_n hx hb dX1_copyFrom_42 rfl (lv_at hl 0 rfl) ?_
    refine lv_bipush (v := 6) hx hb dX1_copyFrom_43 (by decide) ?_
    refine lv_icmp_ge (tgt := 66) hx hb dX1_copyFrom_45 (by decide) (fun c_2 => ?_) (fun c_2 => ?_)
    ·
      exact absurd c_2 (by decide)
    ·
      refine lv_aload_n hx hb dX1_copyFrom_48 rfl (lv_at hl 1 rfl) ?_
      refine va_get (D := G.1) (ci := 1) (v := .ref a2) (C := RX1) (T := TX1) (N := 13) hx hb hts inG_X1 hown hK hP 0 rfl rfl 5 (by decide) (hts _ fl_X1_30) (fun _ h9 => h9) rfl dX1_copyFrom_49 ?_
      refine lv_iload_n hx hb dX1_copyFrom_52 rfl (lv_at hl 0 rfl) ?_
      refine lv_aload_n hx hb dX1_copyFrom_53 rfl (lv_at hl 2 rfl) ?_
      refine va_get (D := G.1) (ci := 1) (v := .ref a9) (C := RX1) (T := TX1) (N := 13) hx hb hts inG_X1 hown hK hP 1 rfl rfl 5 (by decide) (hts _ fl_X1_30) (fun _ h9 => h9) rfl dX1_copyFrom_54 ?_
      refine lv_iload_n hx hb dX1_copyFrom_57 rfl (lv_at hl 0 rfl) ?_
      refine va_aldq hx hb hK hP 2 4 rfl rfl (i := 1) (by unfold vp_in; decide) dX1_copyFrom_58 ?_
      refine g5_tv (v := .null) rfl ?_
      refine va_astqN hx hb hK hP hD hS 3 4 rfl rfl (i := 1) (by unfold vp_in; decide) dX1_copyFrom_59 (fun H locs hP hD hS => ?_)
      have hP : va_P G.1 vwCl [(a0, .inr (1, [.long 0, .int 1000, .int (-1), .int (-1), .int 0, .ref a2, .ref a3, .ref a4, .ref a5, .ref a6, .ref a7, .long 0, .ref a8])), (a1, .inr (1, [.long 0, .int 1000, .int (-1), .int (-1), .int 0, .ref a9, .ref a10, .ref a11, .ref a12, .ref a13, .ref a14, .long 0, .ref a15])), (a9, .inl (G.2 4, 6, .inr (.inr (.inr (.inr (fun _ => none)))))), (a2, .inl (G.2 4, 6, .inr (.inr (.inr (.inr (va_up (va_up (fun _ => none) 0 none) 1 none)))))), (a3, .inr (6, [.int 6, .int 5, .ref a16, .int 0])), (a10, .inr (6, [.int 6, .int 5, .ref a17, .int 0])), (a17, .inl (G.2 0, 30, .inl (fun _ => 0))), (a16, .inl (G.2 0, 30, .inl (fun _ => 0))), (a4, .inr (6, [.int 5, .int 24, .ref a18, .int 0])), (a11, .inr (6, [.int 5, .int 24, .ref a19, .int 0])), (a19, .inl (G.2 0, 120, .inl (fun _ => 0))), (a18, .inl (G.2 0, 120, .inl (fun _ => 0))), (a5, .inr (6, [.int 10, .int 4, .ref a20, .int 0])), (a12, .inr (6, [.int 10, .int 4, .ref a21, .int 0])), (a21, .inl (G.2 0, 40, .inl (fun _ => 0))), (a20, .inl (G.2 0, 40, .inl (fun _ => 0))), (a6, .inr (6, [.int 8, .int 5, .ref a22, .int 0])), (a13, .inr (6, [.int 8, .int 5, .ref a23, .int 0])), (a23, .inl (G.2 0, 40, .inl (fun _ => 0))), (a22, .inl (G.2 0, 40, .inl (fun _ => 0))), (a7, .inr (6, [.int 6, .int 6, .ref a24, .int 0])), (a14, .inr (6, [.int 6, .int 6, .ref a25, .int 0])), (a25, .inl (G.2 0, 36, .inl (fun _ => 0))), (a24, .inl (G.2 0, 36, .inl (fun _ => 0))), (a15, .inl (G.2 1, 24, .inr (.inl (fun _ => 0)))), (a8, .inl (G.2 1, 24, .inr (.inl (fun _ => 0))))] H := hP
      have hD : va_D A [(a0, .inr (1, [.long 0, .int 1000, .int (-1), .int (-1), .int 0, .ref a2, .ref a3, .ref a4, .ref a5, .ref a6, .ref a7, .long 0, .ref a8])), (a1, .inr (1, [.long 0, .int 1000, .int (-1), .int (-1), .int 0, .ref a9, .ref a10, .ref a11, .ref a12, .ref a13, .ref a14, .long 0, .ref a15])), (a9, .inl (G.2 4, 6, .inr (.inr (.inr (.inr (fun _ => none)))))), (a2, .inl (G.2 4, 6, .inr (.inr (.inr (.inr (va_up (va_up (fun _ => none) 0 none) 1 none)))))), (a3, .inr (6, [.int 6, .int 5, .ref a16, .int 0])), (a10, .inr (6, [.int 6, .int 5, .ref a17, .int 0])), (a17, .inl (G.2 0, 30, .inl (fun _ => 0))), (a16, .inl (G.2 0, 30, .inl (fun _ => 0))), (a4, .inr (6, [.int 5, .int 24, .ref a18, .int 0])), (a11, .inr (6, [.int 5, .int 24, .ref a19, .int 0])), (a19, .inl (G.2 0, 120, .inl (fun _ => 0))), (a18, .inl (G.2 0, 120, .inl (fun _ => 0))), (a5, .inr (6, [.int 10, .int 4, .ref a20, .int 0])), (a12, .inr (6, [.int 10, .int 4, .ref a21, .int 0])), (a21, .inl (G.2 0, 40, .inl (fun _ => 0))), (a20, .inl (G.2 0, 40, .inl (fun _ => 0))), (a6, .inr (6, [.int 8, .int 5, .ref a22, .int 0])), (a13, .inr (6, [.int 8, .int 5, .ref a23, .int 0])), (a23, .inl (G.2 0, 40, .inl (fun _ => 0))), (a22, .inl (G.2 0, 40, .inl (fun _ => 0))), (a7, .inr (6, [.int 6, .int 6, .ref a24, .int 0])), (a14, .inr (6, [.int 6, .int 6, .ref a25, .int 0])), (a25, .inl (G.2 0, 36, .inl (fun _ => 0))), (a24, .inl (G.2 0, 36, .inl (fun _ => 0))), (a15, .inl (G.2 1, 24, .inr (.inl (fun _ => 0)))), (a8, .inl (G.2 1, 24, .inr (.inl (fun _ => 0))))] := hD
      refine lv_iinc (v := 2) (lv' := [(2, .int 2), (0, .ref a0), (1, .ref a1)]) hx hb dX1_copyFrom_60 hl (k := 0) rfl (by decide) (by decide) rfl (fun ls hl => ?_)
      refine lv_goto (tgt := 42) hx hb dX1_copyFrom_63 (by decide) ?_
      refine lv_iload_n hx hb dX1_copyFrom_42 rfl (lv_at hl 0 rfl) ?_
      refine lv_bipush (v := 6) hx hb dX1_copyFrom_43 (by decide) ?_
      refine lv_icmp_ge (tgt := 66) hx hb dX1_copyFrom_45 (by decide) (fun c_3 => ?_) (fun c_3 => ?_)
      ·
        exact absurd c_3 (by decide)
      ·
        refine lv_aload_n hx hb dX1_copyFrom_48 rfl (lv_at hl 1 rfl) ?_
        refine va_get (D := G.1) (ci := 1) (v := .ref a2) (C := RX1) (T := TX1) (N := 13) hx hb hts inG_X1 hown hK hP 0 rfl rfl 5 (by decide) (hts _ fl_X1_30) (fun _ h9 => h9) rfl dX1_copyFrom_49 ?_
        refine lv_iload_n hx hb dX1_copyFrom_52 rfl (lv_at hl 0 rfl) ?_
        refine lv_aload_n hx hb dX1_copyFrom_53 rfl (lv_at hl 2 rfl) ?_
        refine va_get (D := G.1) (ci := 1) (v := .ref a9) (C := RX1) (T := TX1) (N := 13) hx hb hts inG_X1 hown hK hP 1 rfl rfl 5 (by decide) (hts _ fl_X1_30) (fun _ h9 => h9) rfl dX1_copyFrom_54 ?_
        refine lv_iload_n hx hb dX1_copyFrom_57 rfl (lv_at hl 0 rfl) ?_
        refine va_aldq hx hb hK hP 2 4 rfl rfl (i := 2) (by unfold vp_in; decide) dX1_copyFrom_58 ?_
        refine g5_tv (v := .null) rfl ?_
        refine va_astqN hx hb hK hP hD hS 3 4 rfl rfl (i := 2) (by unfold vp_in; decide) dX1_copyFrom_59 (fun H locs hP hD hS => ?_)
        have hP : va_P G.1 vwCl [(a0, .inr (1, [.long 0, .int 1000, .int (-1), .int (-1), .int 0, .ref a2, .ref a3, .ref a4, .ref a5, .ref a6, .ref a7, .long 0, .ref a8])), (a1, .inr (1, [.long 0, .int 1000, .int (-1), .int (-1), .int 0, .ref a9, .ref a10, .ref a11, .ref a12, .ref a13, .ref a14, .long 0, .ref a15])), (a9, .inl (G.2 4, 6, .inr (.inr (.inr (.inr (fun _ => none)))))), (a2, .inl (G.2 4, 6, .inr (.inr (.inr (.inr (va_up (va_up (va_up (fun _ => none) 0 none) 1 none) 2 none)))))), (a3, .inr (6, [.int 6, .int 5, .ref a16, .int 0])), (a10, .inr (6, [.int 6, .int 5, .ref a17, .int 0])), (a17, .inl (G.2 0, 30, .inl (fun _ => 0))), (a16, .inl (G.2 0, 30, .inl (fun _ => 0))), (a4, .inr (6, [.int 5, .int 24, .ref a18, .int 0])), (a11, .inr (6, [.int 5, .int 24, .ref a19, .int 0])), (a19, .inl (G.2 0, 120, .inl (fun _ => 0))), (a18, .inl (G.2 0, 120, .inl (fun _ => 0))), (a5, .inr (6, [.int 10, .int 4, .ref a20, .int 0])), (a12, .inr (6, [.int 10, .int 4, .ref a21, .int 0])), (a21, .inl (G.2 0, 40, .inl (fun _ => 0))), (a20, .inl (G.2 0, 40, .inl (fun _ => 0))), (a6, .inr (6, [.int 8, .int 5, .ref a22, .int 0])), (a13, .inr (6, [.int 8, .int 5, .ref a23, .int 0])), (a23, .inl (G.2 0, 40, .inl (fun _ => 0))), (a22, .inl (G.2 0, 40, .inl (fun _ => 0))), (a7, .inr (6, [.int 6, .int 6, .ref a24, .int 0])), (a14, .inr (6, [.int 6, .int 6, .ref a25, .int 0])), (a25, .inl (G.2 0, 36, .inl (fun _ => 0))), (a24, .inl (G.2 0, 36, .inl (fun _ => 0))), (a15, .inl (G.2 1, 24, .inr (.inl (fun _ => 0)))), (a8, .inl (G.2 1, 24, .inr (.inl (fun _ => 0))))] H := hP
        have hD : va_D A [(a0, .inr (1, [.long 0, .int 1000, .int (-1), .int (-1), .int 0, .ref a2, .ref a3, .ref a4, .ref a5, .ref a6, .ref a7, .long 0, .ref a8])), (a1, .inr (1, [.long 0, .int 1000, .int (-1), .int (-1), .int 0, .ref a9, .ref a10, .ref a11, .ref a12, .ref a13, .ref a14, .long 0, .ref a15])), (a9, .inl (G.2 4, 6, .inr (.inr (.inr (.inr (fun _ => none)))))), (a2, .inl (G.2 4, 6, .inr (.inr (.inr (.inr (va_up (va_up (va_up (fun _ => none) 0 none) 1 none) 2 none)))))), (a3, .inr (6, [.int 6, .int 5, .ref a16, .int 0])), (a10, .inr (6, [.int 6, .int 5, .ref a17, .int 0])), (a17, .inl (G.2 0, 30, .inl (fun _ => 0))), (a16, .inl (G.2 0, 30, .inl (fun _ => 0))), (a4, .inr (6, [.int 5, .int 24, .ref a18, .int 0])), (a11, .inr (6, [.int 5, .int 24, .ref a19, .int 0])), (a19, .inl (G.2 0, 120, .inl (fun _ => 0))), (a18, .inl (G.2 0, 120, .inl (fun _ => 0))), (a5, .inr (6, [.int 10, .int 4, .ref a20, .int 0])), (a12, .inr (6, [.int 10, .int 4, .ref a21, .int 0])), (a21, .inl (G.2 0, 40, .inl (fun _ => 0))), (a20, .inl (G.2 0, 40, .inl (fun _ => 0))), (a6, .inr (6, [.int 8, .int 5, .ref a22, .int 0])), (a13, .inr (6, [.int 8, .int 5, .ref a23, .int 0])), (a23, .inl (G.2 0, 40, .inl (fun _ => 0))), (a22, .inl (G.2 0, 40, .inl (fun _ => 0))), (a7, .inr (6, [.int 6, .int 6, .ref a24, .int 0])), (a14, .inr (6, [.int 6, .int 6, .ref a25, .int 0])), (a25, .inl (G.2 0, 36, .inl (fun _ => 0))), (a24, .inl (G.2 0, 36, .inl (fun _ => 0))), (a15, .inl (G.2 1, 24, .inr (.inl (fun _ => 0)))), (a8, .inl (G.2 1, 24, .inr (.inl (fun _ => 0))))] := hD
        refine lv_iinc (v := 3) (lv' := [(2, .int 3), (0, .ref a0), (1, .ref a1)]) hx hb dX1_copyFrom_60 hl (k := 0) rfl (by decide) (by decide) rfl (fun ls hl => ?_)
        refine lv_goto (tgt := 42) hx hb dX1_copyFrom_63 (by decide) ?_
        refine lv_iload_n hx hb dX1_copyFrom_42 rfl (lv_at hl 0 rfl) ?_
        refine lv_bipush (v := 6) hx hb dX1_copyFrom_43 (by decide) ?_
        refine lv_icmp_ge (tgt := 66) hx hb dX1_copyFrom_45 (by decide) (fun c_4 => ?_) (fun c_4 => ?_)
        ·
          exact absurd c_4 (by decide)
        ·
          refine lv_aload_n hx hb dX1_copyFrom_48 rfl (lv_at hl 1 rfl) ?_
          refine va_get (D := G.1) (ci := 1) (v := .ref a2) (C := RX1) (T := TX1) (N := 13) hx hb hts inG_X1 hown hK hP 0 rfl rfl 5 (by decide) (hts _ fl_X1_30) (fun _ h9 => h9) rfl dX1_copyFrom_49 ?_
          refine lv_iload_n hx hb dX1_copyFrom_52 rfl (lv_at hl 0 rfl) ?_
          refine lv_aload_n hx hb dX1_copyFrom_53 rfl (lv_at hl 2 rfl) ?_
          refine va_get (D := G.1) (ci := 1) (v := .ref a9) (C := RX1) (T := TX1) (N := 13) hx hb hts inG_X1 hown hK hP 1 rfl rfl 5 (by decide) (hts _ fl_X1_30) (fun _ h9 => h9) rfl dX1_copyFrom_54 ?_
          refine lv_iload_n hx hb dX1_copyFrom_57 rfl (lv_at hl 0 rfl) ?_
          refine va_aldq hx hb hK hP 2 4 rfl rfl (i := 3) (by unfold vp_in; decide) dX1_copyFrom_58 ?_
          refine g5_tv (v := .null) rfl ?_
          refine va_astqN hx hb hK hP hD hS 3 4 rfl rfl (i := 3) (by unfold vp_in; decide) dX1_copyFrom_59 (fun H locs hP hD hS => ?_)
          have hP : va_P G.1 vwCl [(a0, .inr (1, [.long 0, .int 1000, .int (-1), .int (-1), .int 0, .ref a2, .ref a3, .ref a4, .ref a5, .ref a6, .ref a7, .long 0, .ref a8])), (a1, .inr (1, [.long 0, .int 1000, .int (-1), .int (-1), .int 0, .ref a9, .ref a10, .ref a11, .ref a12, .ref a13, .ref a14, .long 0, .ref a15])), (a9, .inl (G.2 4, 6, .inr (.inr (.inr (.inr (fun _ => none)))))), (a2, .inl (G.2 4, 6, .inr (.inr (.inr (.inr (va_up (va_up (va_up (va_up (fun _ => none) 0 none) 1 none) 2 none) 3 none)))))), (a3, .inr (6, [.int 6, .int 5, .ref a16, .int 0])), (a10, .inr (6, [.int 6, .int 5, .ref a17, .int 0])), (a17, .inl (G.2 0, 30, .inl (fun _ => 0))), (a16, .inl (G.2 0, 30, .inl (fun _ => 0))), (a4, .inr (6, [.int 5, .int 24, .ref a18, .int 0])), (a11, .inr (6, [.int 5, .int 24, .ref a19, .int 0])), (a19, .inl (G.2 0, 120, .inl (fun _ => 0))), (a18, .inl (G.2 0, 120, .inl (fun _ => 0))), (a5, .inr (6, [.int 10, .int 4, .ref a20, .int 0])), (a12, .inr (6, [.int 10, .int 4, .ref a21, .int 0])), (a21, .inl (G.2 0, 40, .inl (fun _ => 0))), (a20, .inl (G.2 0, 40, .inl (fun _ => 0))), (a6, .inr (6, [.int 8, .int 5, .ref a22, .int 0])), (a13, .inr (6, [.int 8, .int 5, .ref a23, .int 0])), (a23, .inl (G.2 0, 40, .inl (fun _ => 0))), (a22, .inl (G.2 0, 40, .inl (fun _ => 0))), (a7, .inr (6, [.int 6, .int 6, .ref a24, .int 0])), (a14, .inr (6, [.int 6, .int 6, .ref a25, .int 0])), (a25, .inl (G.2 0, 36, .inl (fun _ => 0))), (a24, .inl (G.2 0, 36, .inl (fun _ => 0))), (a15, .inl (G.2 1, 24, .inr (.inl (fun _ => 0)))), (a8, .inl (G.2 1, 24, .inr (.inl (fun _ => 0))))] H := hP
          have hD : va_D A [(a0, .inr (1, [.long 0, .int 1000, .int (-1), .int (-1), .int 0, .ref a2, .ref a3, .ref a4, .ref a5, .ref a6, .ref a7, .long 0, .ref a8])), (a1, .inr (1, [.long 0, .int 1000, .int (-1), .int (-1), .int 0, .ref a9, .ref a10, .ref a11, .ref a12, .ref a13, .ref a14, .long 0, .ref a15])), (a9, .inl (G.2 4, 6, .inr (.inr (.inr (.inr (fun _ => none)))))), (a2, .inl (G.2 4, 6, .inr (.inr (.inr (.inr (va_up (va_up (va_up (va_up (fun _ => none) 0 none) 1 none) 2 none) 3 none)))))), (a3, .inr (6, [.int 6, .int 5, .ref a16, .int 0])), (a10, .inr (6, [.int 6, .int 5, .ref a17, .int 0])), (a17, .inl (G.2 0, 30, .inl (fun _ => 0))), (a16, .inl (G.2 0, 30, .inl (fun _ => 0))), (a4, .inr (6, [.int 5, .int 24, .ref a18, .int 0])), (a11, .inr (6, [.int 5, .int 24, .ref a19, .int 0])), (a19, .inl (G.2 0, 120, .inl (fun _ => 0))), (a18, .inl (G.2 0, 120, .inl (fun _ => 0))), (a5, .inr (6, [.int 10, .int 4, .ref a20, .int 0])), (a12, .inr (6, [.int 10, .int 4, .ref a21, .int 0])), (a21, .inl (G.2 0, 40, .inl (fun _ => 0))), (a20, .inl (G.2 0, 40, .inl (fun _ => 0))), (a6, .inr (6, [.int 8, .int 5, .ref a22, .int 0])), (a13, .inr (6, [.int 8, .int 5, .ref a23, .int 0])), (a23, .inl (G.2 0, 40, .inl (fun _ => 0))), (a22, .inl (G.2 0, 40, .inl (fun _ => 0))), (a7, .inr (6, [.int 6, .int 6, .ref a24, .int 0])), (a14, .inr (6, [.int 6, .int 6, .ref a25, .int 0])), (a25, .inl (G.2 0, 36, .inl (fun _ => 0))), (a24, .inl (G.2 0, 36, .inl (fun _ => 0))), (a15, .inl (G.2 1, 24, .inr (.inl (fun _ => 0)))), (a8, .inl (G.2 1, 24, .inr (.inl (fun _ => 0))))] := hD
          refine lv_iinc (v := 4) (lv' := [(2, .int 4), (0, .ref a0), (1, .ref a1)]) hx hb dX1_copyFrom_60 hl (k := 0) rfl (by decide) (by decide) rfl (fun ls hl => ?_)
          refine lv_goto (tgt := 42) hx hb dX1_copyFrom_63 (by decide) ?_
          refine lv_iload_n hx hb dX1_copyFrom_42 rfl (lv_at hl 0 rfl) ?_
          refine lv_bipush (v := 6) hx hb dX1_copyFrom_43 (by decide) ?_
          refine lv_icmp_ge (tgt := 66) hx hb dX1_copyFrom_45 (by decide) (fun c_5 => ?_) (fun c_5 => ?_)
          ·
            exact absurd c_5 (by decide)
          ·
            refine lv_aload_n hx hb dX1_copyFrom_48 rfl (lv_at hl 1 rfl) ?_
            refine va_get (D := G.1) (ci := 1) (v := .ref a2) (C := RX1) (T := TX1) (N := 13) hx hb hts inG_X1 hown hK hP 0 rfl rfl 5 (by decide) (hts _ fl_X1_30) (fun _ h9 => h9) rfl dX1_copyFrom_49 ?_
            refine lv_iload_n hx hb dX1_copyFrom_52 rfl (lv_at hl 0 rfl) ?_
            refine lv_aload_n hx hb dX1_copyFrom_53 rfl (lv_at hl 2 rfl) ?_
            refine va_get (D := G.1) (ci := 1) (v := .ref a9) (C := RX1) (T := TX1) (N := 13) hx hb hts inG_X1 hown hK hP 1 rfl rfl 5 (by decide) (hts _ fl_X1_30) (fun _ h9 => h9) rfl dX1_copyFrom_54 ?_
            refine lv_iload_n hx hb dX1_copyFrom_57 rfl (lv_at hl 0 rfl) ?_
            refine va_aldq hx hb hK hP 2 4 rfl rfl (i := 4) (by unfold vp_in; decide) dX1_copyFrom_58 ?_
            refine g5_tv (v := .null) rfl ?_
            refine va_astqN hx hb hK hP hD hS 3 4 rfl rfl (i := 4) (by unfold vp_in; decide) dX1_copyFrom_59 (fun H locs hP hD hS => ?_)
            have hP : va_P G.1 vwCl [(a0, .inr (1, [.long 0, .int 1000, .int (-1), .int (-1), .int 0, .ref a2, .ref a3, .ref a4, .ref a5, .ref a6, .ref a7, .long 0, .ref a8])), (a1, .inr (1, [.long 0, .int 1000, .int (-1), .int (-1), .int 0, .ref a9, .ref a10, .ref a11, .ref a12, .ref a13, .ref a14, .long 0, .ref a15])), (a9, .inl (G.2 4, 6, .inr (.inr (.inr (.inr (fun _ => none)))))), (a2, .inl (G.2 4, 6, .inr (.inr (.inr (.inr (va_up (va_up (va_up (va_up (va_up (fun _ => none) 0 none) 1 none) 2 none) 3 none) 4 none)))))), (a3, .inr (6, [.int 6, .int 5, .ref a16, .int 0])), (a10, .inr (6, [.int 6, .int 5, .ref a17, .int 0])), (a17, .inl (G.2 0, 30, .inl (fun _ => 0))), (a16, .inl (G.2 0, 30, .inl (fun _ => 0))), (a4, .inr (6, [.int 5, .int 24, .ref a18, .int 0])), (a11, .inr (6, [.int 5, .int 24, .ref a19, .int 0])), (a19, .inl (G.2 0, 120, .inl (fun _ => 0))), (a18, .inl (G.2 0, 120, .inl (fun _ => 0))), (a5, .inr (6, [.int 10, .int 4, .ref a20, .int 0])), (a12, .inr (6, [.int 10, .int 4, .ref a21, .int 0])), (a21, .inl (G.2 0, 40, .inl (fun _ => 0))), (a20, .inl (G.2 0, 40, .inl (fun _ => 0))), (a6, .inr (6, [.int 8, .int 5, .ref a22, .int 0])), (a13, .inr (6, [.int 8, .int 5, .ref a23, .int 0])), (a23, .inl (G.2 0, 40, .inl (fun _ => 0))), (a22, .inl (G.2 0, 40, .inl (fun _ => 0))), (a7, .inr (6, [.int 6, .int 6, .ref a24, .int 0])), (a14, .inr (6, [.int 6, .int 6, .ref a25, .int 0])), (a25, .inl (G.2 0, 36, .inl (fun _ => 0))), (a24, .inl (G.2 0, 36, .inl (fun _ => 0))), (a15, .inl (G.2 1, 24, .inr (.inl (fun _ => 0)))), (a8, .inl (G.2 1, 24, .inr (.inl (fun _ => 0))))] H := hP
            have hD : va_D A [(a0, .inr (1, [.long 0, .int 1000, .int (-1), .int (-1), .int 0, .ref a2, .ref a3, .ref a4, .ref a5, .ref a6, .ref a7, .long 0, .ref a8])), (a1, .inr (1, [.long 0, .int 1000, .int (-1), .int (-1), .int 0, .ref a9, .ref a10, .ref a11, .ref a12, .ref a13, .ref a14, .long 0, .ref a15])), (a9, .inl (G.2 4, 6, .inr (.inr (.inr (.inr (fun _ => none)))))), (a2, .inl (G.2 4, 6, .inr (.inr (.inr (.inr (va_up (va_up (va_up (va_up (va_up (fun _ => none) 0 none) 1 none) 2 none) 3 none) 4 none)))))), (a3, .inr (6, [.int 6, .int 5, .ref a16, .int 0])), (a10, .inr (6, [.int 6, .int 5, .ref a17, .int 0])), (a17, .inl (G.2 0, 30, .inl (fun _ => 0))), (a16, .inl (G.2 0, 30, .inl (fun _ => 0))), (a4, .inr (6, [.int 5, .int 24, .ref a18, .int 0])), (a11, .inr (6, [.int 5, .int 24, .ref a19, .int 0])), (a19, .inl (G.2 0, 120, .inl (fun _ => 0))), (a18, .inl (G.2 0, 120, .inl (fun _ => 0))), (a5, .inr (6, [.int 10, .int 4, .ref a20, .int 0])), (a12, .inr (6, [.int 10, .int 4, .ref a21, .int 0])), (a21, .inl (G.2 0, 40, .inl (fun _ => 0))), (a20, .inl (G.2 0, 40, .inl (fun _ => 0))), (a6, .inr (6, [.int 8, .int 5, .ref a22, .int 0])), (a13, .inr (6, [.int 8, .int 5, .ref a23, .int 0])), (a23, .inl (G.2 0, 40, .inl (fun _ => 0))), (a22, .inl (G.2 0, 40, .inl (fun _ => 0))), (a7, .inr (6, [.int 6, .int 6, .ref a24, .int 0])), (a14, .inr (6, [.int 6, .int 6, .ref a25, .int 0])), (a25, .inl (G.2 0, 36, .inl (fun _ => 0))), (a24, .inl (G.2 0, 36, .inl (fun _ => 0))), (a15, .inl (G.2 1, 24, .inr (.inl (fun _ => 0)))), (a8, .inl (G.2 1, 24, .inr (.inl (fun _ => 0))))] := hD
            refine lv_iinc (v := 5) (lv' := [(2, .int 5), (0, .ref a0), (1, .ref a1)]) hx hb dX1_copyFrom_60 hl (k := 0) rfl (by decide) (by decide) rfl (fun ls hl => ?_)
            refine lv_goto (tgt := 42) hx hb dX1_copyFrom_63 (by decide) ?_
            refine lv_iload_n hx hb dX1_copyFrom_42 rfl (lv_at hl 0 rfl) ?_
            refine lv_bipush (v := 6) hx hb dX1_copyFrom_43 (by decide) ?_
            refine lv_icmp_ge (tgt := 66) hx hb dX1_copyFrom_45 (by decide) (fun c_6 => ?_) (fun c_6 => ?_)
            ·
              exact absurd c_6 (by decide)
            ·
              refine lv_aload_n hx hb dX1_copyFrom_48 rfl (lv_at hl 1 rfl) ?_
              refine va_get (D := G.1) (ci := 1) (v := .ref a2) (C := RX1) (T := TX1) (N := 13) hx hb hts inG_X1 hown hK hP 0 rfl rfl 5 (by decide) (hts _ fl_X1_30) (fun _ h9 => h9) rfl dX1_copyFrom_49 ?_
              refine lv_iload_n hx hb dX1_copyFrom_52 rfl (lv_at hl 0 rfl) ?_
              refine lv_aload_n hx hb dX1_copyFrom_53 rfl (lv_at hl 2 rfl) ?_
              refine va_get (D := G.1) (ci := 1) (v := .ref a9) (C := RX1) (T := TX1) (N := 13) hx hb hts inG_X1 hown hK hP 1 rfl rfl 5 (by decide) (hts _ fl_X1_30) (fun _ h9 => h9) rfl dX1_copyFrom_54 ?_
              refine lv_iload_n hx hb dX1_copyFrom_57 rfl (lv_at hl 0 rfl) ?_
              refine va_aldq hx hb hK hP 2 4 rfl rfl (i := 5) (by unfold vp_in; decide) dX1_copyFrom_58 ?_
              refine g5_tv (v := .null) rfl ?_
              refine va_astqN hx hb hK hP hD hS 3 4 rfl rfl (i := 5) (by unfold vp_in; decide) dX1_copyFrom_59 (fun H locs hP hD hS => ?_)
              have hP : va_P G.1 vwCl [(a0, .inr (1, [.long 0, .int 1000, .int (-1), .int (-1), .int 0, .ref a2, .ref a3, .ref a4, .ref a5, .ref a6, .ref a7, .long 0, .ref a8])), (a1, .inr (1, [.long 0, .int 1000, .int (-1), .int (-1), .int 0, .ref a9, .ref a10, .ref a11, .ref a12, .ref a13, .ref a14, .long 0, .ref a15])), (a9, .inl (G.2 4, 6, .inr (.inr (.inr (.inr (fun _ => none)))))), (a2, .inl (G.2 4, 6, .inr (.inr (.inr (.inr (va_up (va_up (va_up (va_up (va_up (va_up (fun _ => none) 0 none) 1 none) 2 none) 3 none) 4 none) 5 none)))))), (a3, .inr (6, [.int 6, .int 5, .ref a16, .int 0])), (a10, .inr (6, [.int 6, .int 5, .ref a17, .int 0])), (a17, .inl (G.2 0, 30, .inl (fun _ => 0))), (a16, .inl (G.2 0, 30, .inl (fun _ => 0))), (a4, .inr (6, [.int 5, .int 24, .ref a18, .int 0])), (a11, .inr (6, [.int 5, .int 24, .ref a19, .int 0])), (a19, .inl (G.2 0, 120, .inl (fun _ => 0))), (a18, .inl (G.2 0, 120, .inl (fun _ => 0))), (a5, .inr (6, [.int 10, .int 4, .ref a20, .int 0])), (a12, .inr (6, [.int 10, .int 4, .ref a21, .int 0])), (a21, .inl (G.2 0, 40, .inl (fun _ => 0))), (a20, .inl (G.2 0, 40, .inl (fun _ => 0))), (a6, .inr (6, [.int 8, .int 5, .ref a22, .int 0])), (a13, .inr (6, [.int 8, .int 5, .ref a23, .int 0])), (a23, .inl (G.2 0, 40, .inl (fun _ => 0))), (a22, .inl (G.2 0, 40, .inl (fun _ => 0))), (a7, .inr (6, [.int 6, .int 6, .ref a24, .int 0])), (a14, .inr (6, [.int 6, .int 6, .ref a25, .int 0])), (a25, .inl (G.2 0, 36, .inl (fun _ => 0))), (a24, .inl (G.2 0, 36, .inl (fun _ => 0))), (a15, .inl (G.2 1, 24, .inr (.inl (fun _ => 0)))), (a8, .inl (G.2 1, 24, .inr (.inl (fun _ => 0))))] H := hP
              have hD : va_D A [(a0, .inr (1, [.long 0, .int 1000, .int (-1), .int (-1), .int 0, .ref a2, .ref a3, .ref a4, .ref a5, .ref a6, .ref a7, .long 0, .ref a8])), (a1, .inr (1, [.long 0, .int 1000, .int (-1), .int (-1), .int 0, .ref a9, .ref a10, .ref a11, .ref a12, .ref a13, .ref a14, .long 0, .ref a15])), (a9, .inl (G.2 4, 6, .inr (.inr (.inr (.inr (fun _ => none)))))), (a2, .inl (G.2 4, 6, .inr (.inr (.inr (.inr (va_up (va_up (va_up (va_up (va_up (va_up (fun _ => none) 0 none) 1 none) 2 none) 3 none) 4 none) 5 none)))))), (a3, .inr (6, [.int 6, .int 5, .ref a16, .int 0])), (a10, .inr (6, [.int 6, .int 5, .ref a17, .int 0])), (a17, .inl (G.2 0, 30, .inl (fun _ => 0))), (a16, .inl (G.2 0, 30, .inl (fun _ => 0))), (a4, .inr (6, [.int 5, .int 24, .ref a18, .int 0])), (a11, .inr (6, [.int 5, .int 24, .ref a19, .int 0])), (a19, .inl (G.2 0, 120, .inl (fun _ => 0))), (a18, .inl (G.2 0, 120, .inl (fun _ => 0))), (a5, .inr (6, [.int 10, .int 4, .ref a20, .int 0])), (a12, .inr (6, [.int 10, .int 4, .ref a21, .int 0])), (a21, .inl (G.2 0, 40, .inl (fun _ => 0))), (a20, .inl (G.2 0, 40, .inl (fun _ => 0))), (a6, .inr (6, [.int 8, .int 5, .ref a22, .int 0])), (a13, .inr (6, [.int 8, .int 5, .ref a23, .int 0])), (a23, .inl (G.2 0, 40, .inl (fun _ => 0))), (a22, .inl (G.2 0, 40, .inl (fun _ => 0))), (a7, .inr (6, [.int 6, .int 6, .ref a24, .int 0])), (a14, .inr (6, [.int 6, .int 6, .ref a25, .int 0])), (a25, .inl (G.2 0, 36, .inl (fun _ => 0))), (a24, .inl (G.2 0, 36, .inl (fun _ => 0))), (a15, .inl (G.2 1, 24, .inr (.inl (fun _ => 0)))), (a8, .inl (G.2 1, 24, .inr (.inl (fun _ => 0))))] := hD
              refine lv_iinc (v := 6) (lv' := [(2, .int 6), (0, .ref a0), (1, .ref a1)]) hx hb dX1_copyFrom_60 hl (k := 0) rfl (by decide) (by decide) rfl (fun ls hl => ?_)
              refine lv_goto (tgt := 42) hx hb dX1_copyFrom_63 (by decide) ?_
              refine lv_iload_n hx hb dX1_copyFrom_42 rfl (lv_at hl 0 rfl) ?_
              refine lv_bipush (v := 6) hx hb dX1_copyFrom_43 (by decide) ?_
              refine lv_icmp_ge (tgt := 66) hx hb dX1_copyFrom_45 (by decide) (fun c_7 => ?_) (fun c_7 => ?_)
              ·
                refine lv_aload_n hx hb dX1_copyFrom_66 rfl (lv_at hl 1 rfl) ?_
                refine va_get (D := G.1) (ci := 1) (v := .ref a3) (C := RX1) (T := TX1) (N := 13) hx hb hts inG_X1 hown hK hP 0 rfl rfl 6 (by decide) (hts _ fl_X1_39) (fun _ h9 => h9) rfl dX1_copyFrom_67 ?_
                refine lv_aload_n hx hb dX1_copyFrom_70 rfl (lv_at hl 2 rfl) ?_
                refine va_get (D := G.1) (ci := 1) (v := .ref a10) (C := RX1) (T := TX1) (N := 13) hx hb hts inG_X1 hown hK hP 1 rfl rfl 6 (by decide) (hts _ fl_X1_39) (fun _ h9 => h9) rfl dX1_copyFrom_71 ?_
                have hPc := hP.sub (ws' := [(a3, .inr (6, [.int 6, .int 5, .ref a16, .int 0])), (a10, .inr (6, [.int 6, .int 5, .ref a17, .int 0])), (a17, .inl (G.2 0, 30, .inl (fun _ => 0))), (a16, .inl (G.2 0, 30, .inl (fun _ => 0)))]) [4, 5, 6, 7] rfl
                have hDc := hD.sub (ws' := [(a3, .inr (6, [.int 6, .int 5, .ref a16, .int 0])), (a10, .inr (6, [.int 6, .int 5, .ref a17, .int 0])), (a17, .inl (G.2 0, 30, .inl (fun _ => 0))), (a16, .inl (G.2 0, 30, .inl (fun _ => 0)))]) [4, 5, 6, 7] (by decide) rfl
                have hFc := va_free (wc := [(a3, .inr (6, [.int 6, .int 5, .ref a16, .int 0])), (a10, .inr (6, [.int 6, .int 5, .ref a17, .int 0])), (a17, .inl (G.2 0, 30, .inl (fun _ => 0))), (a16, .inl (G.2 0, 30, .inl (fun _ => 0)))]) hD hS hA [4, 5, 6, 7] rfl
                refine va_callv (va_runV (As := [.ref a10]) (rest := []) ⟨hx, hb, hml, hown, hts⟩ (kX6_copyFrom l G a3 a10 a16 a17 H.size) (cwV 1 hts gV_X1_80 rfl rfl rfl hv_X6_copyFrom ⟨Nat.le_of_ble_eq_true rfl, Nat.le_of_ble_eq_true rfl⟩) (g5_preV hPc hK hDc hN hT hS hFc (ci := 6) (q0 := 0) rfl rfl) rfl rfl hl.1 rfl (lv_room (Nat.le_of_ble_eq_true rfl)) dX1_copyFrom_74 ⟨Nat.le_of_ble_eq_true rfl, Nat.le_of_ble_eq_true rfl⟩) hS (fun q _ h => hFc q h) hFc (fun u t H1 locs ht hvm hw hB hz1 hk1 hS => ?_)
                obtain ⟨hP1, hD1⟩ := hB
                rw [ht] at hP1
                obtain rfl := hw
                obtain ⟨hP, hD⟩ := va_join (wr := [(a0, .inr (1, [.long 0, .int 1000, .int (-1), .int (-1), .int 0, .ref a2, .ref a3, .ref a4, .ref a5, .ref a6, .ref a7, .long 0, .ref a8])), (a1, .inr (1, [.long 0, .int 1000, .int (-1), .int (-1), .int 0, .ref a9, .ref a10, .ref a11, .ref a12, .ref a13, .ref a14, .long 0, .ref a15])), (a9, .inl (G.2 4, 6, .inr (.inr (.inr (.inr (fun _ => none)))))), (a2, .inl (G.2 4, 6, .inr (.inr (.inr (.inr (va_up (va_up (va_up (va_up (va_up (va_up (fun _ => none) 0 none) 1 none) 2 none) 3 none) 4 none) 5 none)))))), (a4, .inr (6, [.int 5, .int 24, .ref a18, .int 0])), (a11, .inr (6, [.int 5, .int 24, .ref a19, .int 0])), (a19, .inl (G.2 0, 120, .inl (fun _ => 0))), (a18, .inl (G.2 0, 120, .inl (fun _ => 0))), (a5, .inr (6, [.int 10, .int 4, .ref a20, .int 0])), (a12, .inr (6, [.int 10, .int 4, .ref a21, .int 0])), (a21, .inl (G.2 0, 40, .inl (fun _ => 0))), (a20, .inl (G.2 0, 40, .inl (fun _ => 0))), (a6, .inr (6, [.int 8, .int 5, .ref a22, .int 0])), (a13, .inr (6, [.int 8, .int 5, .ref a23, .int 0])), (a23, .inl (G.2 0, 40, .inl (fun _ => 0))), (a22, .inl (G.2 0, 40, .inl (fun _ => 0))), (a7, .inr (6, [.int 6, .int 6, .ref a24, .int 0])), (a14, .inr (6, [.int 6, .int 6, .ref a25, .int 0])), (a25, .inl (G.2 0, 36, .inl (fun _ => 0))), (a24, .inl (G.2 0, 36, .inl (fun _ => 0))), (a15, .inl (G.2 1, 24, .inr (.inl (fun _ => 0)))), (a8, .inl (G.2 1, 24, .inr (.inl (fun _ => 0))))]) (w1 := [(a3, .inr (6, [.int 6, .int 5, .ref a16, .int 0])), (a10, .inr (6, [.int 6, .int 5, .ref a17, .int 0])), (a17, .inl (G.2 0, 30, .inl (fun _ => 0))), (a16, .inl (G.2 0, 30, .inl (va_cpy (fun _ => 0) (fun _ => 0) 0 0 30)))]) hP hD [4, 5, 6, 7] [0, 1, 2, 3, 8, 9, 10, 11, 12, 13, 14, 15, 16, 17, 18, 19, 20, 21, 22, 23, 24, 25] rfl rfl (by decide) (by decide) hk1 hFc hP1 hD1
                generalize H1 = H at hP hS ⊢
                have hP : va_P G.1 vwCl [(a0, .inr (1, [.long 0, .int 1000, .int (-1), .int (-1), .int 0, .ref a2, .ref a3, .ref a4, .ref a5, .ref a6, .ref a7, .long 0, .ref a8])), (a1, .inr (1, [.long 0, .int 1000, .int (-1), .int (-1), .int 0, .ref a9, .ref a10, .ref a11, .ref a12, .ref a13, .ref a14, .long 0, .ref a15])), (a9, .inl (G.2 4, 6, .inr (.inr (.inr (.inr (fun _ => none)))))), (a2, .inl (G.2 4, 6, .inr (.inr (.inr (.inr (va_up (va_up (va_up (va_up (va_up (va_up (fun _ => none) 0 none) 1 none) 2 none) 3 none) 4 none) 5 none)))))), (a4, .inr (6, [.int 5, .int 24, .ref a18, .int 0])), (a11, .inr (6, [.int 5, .int 24, .ref a19, .int 0])), (a19, .inl (G.2 0, 120, .inl (fun _ => 0))), (a18, .inl (G.2 0, 120, .inl (fun _ => 0))), (a5, .inr (6, [.int 10, .int 4, .ref a20, .int 0])), (a12, .inr (6, [.int 10, .int 4, .ref a21, .int 0])), (a21, .inl (G.2 0, 40, .inl (fun _ => 0))), (a20, .inl (G.2 0, 40, .inl (fun _ => 0))), (a6, .inr (6, [.int 8, .int 5, .ref a22, .int 0])), (a13, .inr (6, [.int 8, .int 5, .ref a23, .int 0])), (a23, .inl (G.2 0, 40, .inl (fun _ => 0))), (a22, .inl (G.2 0, 40, .inl (fun _ => 0))), (a7, .inr (6, [.int 6, .int 6, .ref a24, .int 0])), (a14, .inr (6, [.int 6, .int 6, .ref a25, .int 0])), (a25, .inl (G.2 0, 36, .inl (fun _ => 0))), (a24, .inl (G.2 0, 36, .inl (fun _ => 0))), (a15, .inl (G.2 1, 24, .inr (.inl (fun _ => 0)))), (a8, .inl (G.2 1, 24, .inr (.inl (fun _ => 0)))), (a3, .inr (6, [.int 6, .int 5, .ref a16, .int 0])), (a10, .inr (6, [.int 6, .int 5, .ref a17, .int 0])), (a17, .inl (G.2 0, 30, .inl (fun _ => 0))), (a16, .inl (G.2 0, 30, .inl (va_cpy (fun _ => 0) (fun _ => 0) 0 0 30)))] H := hP
                have hD : va_D A [(a0, .inr (1, [.long 0, .int 1000, .int (-1), .int (-1), .int 0, .ref a2, .ref a3, .ref a4, .ref a5, .ref a6, .ref a7, .long 0, .ref a8])), (a1, .inr (1, [.long 0, .int 1000, .int (-1), .int (-1), .int 0, .ref a9, .ref a10, .ref a11, .ref a12, .ref a13, .ref a14, .long 0, .ref a15])), (a9, .inl (G.2 4, 6, .inr (.inr (.inr (.inr (fun _ => none)))))), (a2, .inl (G.2 4, 6, .inr (.inr (.inr (.inr (va_up (va_up (va_up (va_up (va_up (va_up (fun _ => none) 0 none) 1 none) 2 none) 3 none) 4 none) 5 none)))))), (a4, .inr (6, [.int 5, .int 24, .ref a18, .int 0])), (a11, .inr (6, [.int 5, .int 24, .ref a19, .int 0])), (a19, .inl (G.2 0, 120, .inl (fun _ => 0))), (a18, .inl (G.2 0, 120, .inl (fun _ => 0))), (a5, .inr (6, [.int 10, .int 4, .ref a20, .int 0])), (a12, .inr (6, [.int 10, .int 4, .ref a21, .int 0])), (a21, .inl (G.2 0, 40, .inl (fun _ => 0))), (a20, .inl (G.2 0, 40, .inl (fun _ => 0))), (a6, .inr (6, [.int 8, .int 5, .ref a22, .int 0])), (a13, .inr (6, [.int 8, .int 5, .ref a23, .int 0])), (a23, .inl (G.2 0, 40, .inl (fun _ => 0))), (a22, .inl (G.2 0, 40, .inl (fun _ => 0))), (a7, .inr (6, [.int 6, .int 6, .ref a24, .int 0])), (a14, .inr (6, [.int 6, .int 6, .ref a25, .int 0])), (a25, .inl (G.2 0, 36, .inl (fun _ => 0))), (a24, .inl (G.2 0, 36, .inl (fun _ => 0))), (a15, .inl (G.2 1, 24, .inr (.inl (fun _ => 0)))), (a8, .inl (G.2 1, 24, .inr (.inl (fun _ => 0)))), (a3, .inr (6, [.int 6, .int 5, .ref a16, .int 0])), (a10, .inr (6, [.int 6, .int 5, .ref a17, .int 0])), (a17, .inl (G.2 0, 30, .inl (fun _ => 0))), (a16, .inl (G.2 0, 30, .inl (va_cpy (fun _ => 0) (fun _ => 0) 0 0 30)))] := hD
                refine lv_aload_n hx hb dX1_copyFrom_77 rfl (lv_at hl 1 rfl) ?_
                refine va_get (D := G.1) (ci := 1) (v := .ref a4) (C := RX1) (T := TX1) (N := 13) hx hb hts inG_X1 hown hK hP 0 rfl rfl 7 (by decide) (hts _ fl_X1_43) (fun _ h9 => h9) rfl dX1_copyFrom_78 ?_
                refine lv_aload_n hx hb dX1_copyFrom_81 rfl (lv_at hl 2 rfl) ?_
                refine va_get (D := G.1) (ci := 1) (v := .ref a11) (C := RX1) (T := TX1) (N := 13) hx hb hts inG_X1 hown hK hP 1 rfl rfl 7 (by decide) (hts _ fl_X1_43) (fun _ h9 => h9) rfl dX1_copyFrom_82 ?_
                have hPc := hP.sub (ws' := [(a4, .inr (6, [.int 5, .int 24, .ref a18, .int 0])), (a11, .inr (6, [.int 5, .int 24, .ref a19, .int 0])), (a19, .inl (G.2 0, 120, .inl (fun _ => 0))), (a18, .inl (G.2 0, 120, .inl (fun _ => 0)))]) [4, 5, 6, 7] rfl
                have hDc := hD.sub (ws' := [(a4, .inr (6, [.int 5, .int 24, .ref a18, .int 0])), (a11, .inr (6, [.int 5, .int 24, .ref a19, .int 0])), (a19, .inl (G.2 0, 120, .inl (fun _ => 0))), (a18, .inl (G.2 0, 120, .inl (fun _ => 0)))]) [4, 5, 6, 7] (by decide) rfl
                have hFc := va_free (wc := [(a4, .inr (6, [.int 5, .int 24, .ref a18, .int 0])), (a11, .inr (6, [.int 5, .int 24, .ref a19, .int 0])), (a19, .inl (G.2 0, 120, .inl (fun _ => 0))), (a18, .inl (G.2 0, 120, .inl (fun _ => 0)))]) hD hS hA [4, 5, 6, 7] rfl
                refine va_callv (va_runV (As := [.ref a11]) (rest := []) ⟨hx, hb, hml, hown, hts⟩ (kX6_copyFrom_2 l G a4 a11 a18 a19 H.size) (cwV 1 hts gV_X1_80 rfl rfl rfl hv_X6_copyFrom ⟨Nat.le_of_ble_eq_true rfl, Nat.le_of_ble_eq_true rfl⟩) (g5_preV hPc hK hDc hN hT hS hFc (ci := 6) (q0 := 0) rfl rfl) rfl rfl hl.1 rfl (lv_room (Nat.le_of_ble_eq_true rfl)) dX1_copyFrom_85 ⟨Nat.le_of_ble_eq_true rfl, Nat.le_of_ble_eq_true rfl⟩) hS (fun q _ h => hFc q h) hFc (fun u t H1 locs ht hvm hw hB hz1 hk1 hS => ?_)
                obtain ⟨hP1, hD1⟩ := hB
                rw [ht] at hP1
                obtain rfl := hw
                obtain ⟨hP, hD⟩ := va_join (wr := [(a0, .inr (1, [.long 0, .int 1000, .int (-1), .int (-1), .int 0, .ref a2, .ref a3, .ref a4, .ref a5, .ref a6, .ref a7, .long 0, .ref a8])), (a1, .inr (1, [.long 0, .int 1000, .int (-1), .int (-1), .int 0, .ref a9, .ref a10, .ref a11, .ref a12, .ref a13, .ref a14, .long 0, .ref a15])), (a9, .inl (G.2 4, 6, .inr (.inr (.inr (.inr (fun _ => none)))))), (a2, .inl (G.2 4, 6, .inr (.inr (.inr (.inr (va_up (va_up (va_up (va_up (va_up (va_up (fun _ => none) 0 none) 1 none) 2 none) 3 none) 4 none) 5 none)))))), (a5, .inr (6, [.int 10, .int 4, .ref a20, .int 0])), (a12, .inr (6, [.int 10, .int 4, .ref a21, .int 0])), (a21, .inl (G.2 0, 40, .inl (fun _ => 0))), (a20, .inl (G.2 0, 40, .inl (fun _ => 0))), (a6, .inr (6, [.int 8, .int 5, .ref a22, .int 0])), (a13, .inr (6, [.int 8, .int 5, .ref a23, .int 0])), (a23, .inl (G.2 0, 40, .inl (fun _ => 0))), (a22, .inl (G.2 0, 40, .inl (fun _ => 0))), (a7, .inr (6, [.int 6, .int 6, .ref a24, .int 0])), (a14, .inr (6, [.int 6, .int 6, .ref a25, .int 0])), (a25, .inl (G.2 0, 36, .inl (fun _ => 0))), (a24, .inl (G.2 0, 36, .inl (fun _ => 0))), (a15, .inl (G.2 1, 24, .inr (.inl (fun _ => 0)))), (a8, .inl (G.2 1, 24, .inr (.inl (fun _ => 0)))), (a3, .inr (6, [.int 6, .int 5, .ref a16, .int 0])), (a10, .inr (6, [.int 6, .int 5, .ref a17, .int 0])), (a17, .inl (G.2 0, 30, .inl (fun _ => 0))), (a16, .inl (G.2 0, 30, .inl (va_cpy (fun _ => 0) (fun _ => 0) 0 0 30)))]) (w1 := [(a4, .inr (6, [.int 5, .int 24, .ref a18, .int 0])), (a11, .inr (6, [.int 5, .int 24, .ref a19, .int 0])), (a19, .inl (G.2 0, 120, .inl (fun _ => 0))), (a18, .inl (G.2 0, 120, .inl (va_cpy (fun _ => 0) (fun _ => 0) 0 0 120)))]) hP hD [4, 5, 6, 7] [0, 1, 2, 3, 8, 9, 10, 11, 12, 13, 14, 15, 16, 17, 18, 19, 20, 21, 22, 23, 24, 25] rfl rfl (by decide) (by decide) hk1 hFc hP1 hD1
                generalize H1 = H at hP hS ⊢
                have hP : va_P G.1 vwCl [(a0, .inr (1, [.long 0, .int 1000, .int (-1), .int (-1), .int 0, .ref a2, .ref a3, .ref a4, .ref a5, .ref a6, .ref a7, .long 0, .ref a8])), (a1, .inr (1, [.long 0, .int 1000, .int (-1), .int (-1), .int 0, .ref a9, .ref a10, .ref a11, .ref a12, .ref a13, .ref a14, .long 0, .ref a15])), (a9, .inl (G.2 4, 6, .inr (.inr (.inr (.inr (fun _ => none)))))), (a2, .inl (G.2 4, 6, .inr (.inr (.inr (.inr (va_up (va_up (va_up (va_up (va_up (va_up (fun _ => none) 0 none) 1 none) 2 none) 3 none) 4 none) 5 none)))))), (a5, .inr (6, [.int 10, .int 4, .ref a20, .int 0])), (a12, .inr (6, [.int 10, .int 4, .ref a21, .int 0])), (a21, .inl (G.2 0, 40, .inl (fun _ => 0))), (a20, .inl (G.2 0, 40, .inl (fun _ => 0))), (a6, .inr (6, [.int 8, .int 5, .ref a22, .int 0])), (a13, .inr (6, [.int 8, .int 5, .ref a23, .int 0])), (a23, .inl (G.2 0, 40, .inl (fun _ => 0))), (a22, .inl (G.2 0, 40, .inl (fun _ => 0))), (a7, .inr (6, [.int 6, .int 6, .ref a24, .int 0])), (a14, .inr (6, [.int 6, .int 6, .ref a25, .int 0])), (a25, .inl (G.2 0, 36, .inl (fun _ => 0))), (a24, .inl (G.2 0, 36, .inl (fun _ => 0))), (a15, .inl (G.2 1, 24, .inr (.inl (fun _ => 0)))), (a8, .inl (G.2 1, 24, .inr (.inl (fun _ => 0)))), (a3, .inr (6, [.int 6, .int 5, .ref a16, .int 0])), (a10, .inr (6, [.int 6, .int 5, .ref a17, .int 0])), (a17, .inl (G.2 0, 30, .inl (fun _ => 0))), (a16, .inl (G.2 0, 30, .inl (va_cpy (fun _ => 0) (fun _ => 0) 0 0 30))), (a4, .inr (6, [.int 5, .int 24, .ref a18, .int 0])), (a11, .inr (6, [.int 5, .int 24, .ref a19, .int 0])), (a19, .inl (G.2 0, 120, .inl (fun _ => 0))), (a18, .inl (G.2 0, 120, .inl (va_cpy (fun _ => 0) (fun _ => 0) 0 0 120)))] H := hP
                have hD : va_D A [(a0, .inr (1, [.long 0, .int 1000, .int (-1), .int (-1), .int 0, .ref a2, .ref a3, .ref a4, .ref a5, .ref a6, .ref a7, .long 0, .ref a8])), (a1, .inr (1, [.long 0, .int 1000, .int (-1), .int (-1), .int 0, .ref a9, .ref a10, .ref a11, .ref a12, .ref a13, .ref a14, .long 0, .ref a15])), (a9, .inl (G.2 4, 6, .inr (.inr (.inr (.inr (fun _ => none)))))), (a2, .inl (G.2 4, 6, .inr (.inr (.inr (.inr (va_up (va_up (va_up (va_up (va_up (va_up (fun _ => none) 0 none) 1 none) 2 none) 3 none) 4 none) 5 none)))))), (a5, .inr (6, [.int 10, .int 4, .ref a20, .int 0])), (a12, .inr (6, [.int 10, .int 4, .ref a21, .int 0])), (a21, .inl (G.2 0, 40, .inl (fun _ => 0))), (a20, .inl (G.2 0, 40, .inl (fun _ => 0))), (a6, .inr (6, [.int 8, .int 5, .ref a22, .int 0])), (a13, .inr (6, [.int 8, .int 5, .ref a23, .int 0])), (a23, .inl (G.2 0, 40, .inl (fun _ => 0))), (a22, .inl (G.2 0, 40, .inl (fun _ => 0))), (a7, .inr (6, [.int 6, .int 6, .ref a24, .int 0])), (a14, .inr (6, [.int 6, .int 6, .ref a25, .int 0])), (a25, .inl (G.2 0, 36, .inl (fun _ => 0))), (a24, .inl (G.2 0, 36, .inl (fun _ => 0))), (a15, .inl (G.2 1, 24, .inr (.inl (fun _ => 0)))), (a8, .inl (G.2 1, 24, .inr (.inl (fun _ => 0)))), (a3, .inr (6, [.int 6, .int 5, .ref a16, .int 0])), (a10, .inr (6, [.int 6, .int 5, .ref a17, .int 0])), (a17, .inl (G.2 0, 30, .inl (fun _ => 0))), (a16, .inl (G.2 0, 30, .inl (va_cpy (fun _ => 0) (fun _ => 0) 0 0 30))), (a4, .inr (6, [.int 5, .int 24, .ref a18, .int 0])), (a11, .inr (6, [.int 5, .int 24, .ref a19, .int 0])), (a19, .inl (G.2 0, 120, .inl (fun _ => 0))), (a18, .inl (G.2 0, 120, .inl (va_cpy (fun _ => 0) (fun _ => 0) 0 0 120)))] := hD
                refine lv_aload_n hx hb dX1_copyFrom_88 rfl (lv_at hl 1 rfl) ?_
                refine va_get (D := G.1) (ci := 1) (v := .ref a5) (C := RX1) (T := TX1) (N := 13) hx hb hts inG_X1 hown hK hP 0 rfl rfl 8 (by decide) (hts _ fl_X1_46) (fun _ h9 => h9) rfl dX1_copyFrom_89 ?_
                refine lv_aload_n hx hb dX1_copyFrom_92 rfl (lv_at hl 2 rfl) ?_
                refine va_get (D := G.1) (ci := 1) (v := .ref a12) (C := RX1) (T := TX1) (N := 13) hx hb hts inG_X1 hown hK hP 1 rfl rfl 8 (by decide) (hts _ fl_X1_46) (fun _ h9 => h9) rfl dX1_copyFrom_93 ?_
                have hPc := hP.sub (ws' := [(a5, .inr (6, [.int 10, .int 4, .ref a20, .int 0])), (a12, .inr (6, [.int 10, .int 4, .ref a21, .int 0])), (a21, .inl (G.2 0, 40, .inl (fun _ => 0))), (a20, .inl (G.2 0, 40, .inl (fun _ => 0)))]) [4, 5, 6, 7] rfl
                have hDc := hD.sub (ws' := [(a5, .inr (6, [.int 10, .int 4, .ref a20, .int 0])), (a12, .inr (6, [.int 10, .int 4, .ref a21, .int 0])), (a21, .inl (G.2 0, 40, .inl (fun _ => 0))), (a20, .inl (G.2 0, 40, .inl (fun _ => 0)))]) [4, 5, 6, 7] (by decide) rfl
                have hFc := va_free (wc := [(a5, .inr (6, [.int 10, .int 4, .ref a20, .int 0])), (a12, .inr (6, [.int 10, .int 4, .ref a21, .int 0])), (a21, .inl (G.2 0, 40, .inl (fun _ => 0))), (a20, .inl (G.2 0, 40, .inl (fun _ => 0)))]) hD hS hA [4, 5, 6, 7] rfl
                refine va_callv (va_runV (As := [.ref a12]) (rest := []) ⟨hx, hb, hml, hown, hts⟩ (kX6_copyFrom_3 l G a5 a12 a20 a21 H.size) (cwV 1 hts gV_X1_80 rfl rfl rfl hv_X6_copyFrom ⟨Nat.le_of_ble_eq_true rfl, Nat.le_of_ble_eq_true rfl⟩) (g5_preV hPc hK hDc hN hT hS hFc (ci := 6) (q0 := 0) rfl rfl) rfl rfl hl.1 rfl (lv_room (Nat.le_of_ble_eq_true rfl)) dX1_copyFrom_96 ⟨Nat.le_of_ble_eq_true rfl, Nat.le_of_ble_eq_true rfl⟩) hS (fun q _ h => hFc q h) hFc (fun u t H1 locs ht hvm hw hB hz1 hk1 hS => ?_)
                obtain ⟨hP1, hD1⟩ := hB
                rw [ht] at hP1
                obtain rfl := hw
                obtain ⟨hP, hD⟩ := va_join (wr := [(a0, .inr (1, [.long 0, .int 1000, .int (-1), .int (-1), .int 0, .ref a2, .ref a3, .ref a4, .ref a5, .ref a6, .ref a7, .long 0, .ref a8])), (a1, .inr (1, [.long 0, .int 1000, .int (-1), .int (-1), .int 0, .ref a9, .ref a10, .ref a11, .ref a12, .ref a13, .ref a14, .long 0, .ref a15])), (a9, .inl (G.2 4, 6, .inr (.inr (.inr (.inr (fun _ => none)))))), (a2, .inl (G.2 4, 6, .inr (.inr (.inr (.inr (va_up (va_up (va_up (va_up (va_up (va_up (fun _ => none) 0 none) 1 none) 2 none) 3 none) 4 none) 5 none)))))), (a6, .inr (6, [.int 8, .int 5, .ref a22, .int 0])), (a13, .inr (6, [.int 8, .int 5, .ref a23, .int 0])), (a23, .inl (G.2 0, 40, .inl (fun _ => 0))), (a22, .inl (G.2 0, 40, .inl (fun _ => 0))), (a7, .inr (6, [.int 6, .int 6, .ref a24, .int 0])), (a14, .inr (6, [.int 6, .int 6, .ref a25, .int 0])), (a25, .inl (G.2 0, 36, .inl (fun _ => 0))), (a24, .inl (G.2 0, 36, .inl (fun _ => 0))), (a15, .inl (G.2 1, 24, .inr (.inl (fun _ => 0)))), (a8, .inl (G.2 1, 24, .inr (.inl (fun _ => 0)))), (a3, .inr (6, [.int 6, .int 5, .ref a16, .int 0])), (a10, .inr (6, [.int 6, .int 5, .ref a17, .int 0])), (a17, .inl (G.2 0, 30, .inl (fun _ => 0))), (a16, .inl (G.2 0, 30, .inl (va_cpy (fun _ => 0) (fun _ => 0) 0 0 30))), (a4, .inr (6, [.int 5, .int 24, .ref a18, .int 0])), (a11, .inr (6, [.int 5, .int 24, .ref a19, .int 0])), (a19, .inl (G.2 0, 120, .inl (fun _ => 0))), (a18, .inl (G.2 0, 120, .inl (va_cpy (fun _ => 0) (fun _ => 0) 0 0 120)))]) (w1 := [(a5, .inr (6, [.int 10, .int 4, .ref a20, .int 0])), (a12, .inr (6, [.int 10, .int 4, .ref a21, .int 0])), (a21, .inl (G.2 0, 40, .inl (fun _ => 0))), (a20, .inl (G.2 0, 40, .inl (va_cpy (fun _ => 0) (fun _ => 0) 0 0 40)))]) hP hD [4, 5, 6, 7] [0, 1, 2, 3, 8, 9, 10, 11, 12, 13, 14, 15, 16, 17, 18, 19, 20, 21, 22, 23, 24, 25] rfl rfl (by decide) (by decide) hk1 hFc hP1 hD1
                generalize H1 = H at hP hS ⊢
                have hP : va_P G.1 vwCl [(a0, .inr (1, [.long 0, .int 1000, .int (-1), .int (-1), .int 0, .ref a2, .ref a3, .ref a4, .ref a5, .ref a6, .ref a7, .long 0, .ref a8])), (a1, .inr (1, [.long 0, .int 1000, .int (-1), .int (-1), .int 0, .ref a9, .ref a10, .ref a11, .ref a12, .ref a13, .ref a14, .long 0, .ref a15])), (a9, .inl (G.2 4, 6, .inr (.inr (.inr (.inr (fun _ => none)))))), (a2, .inl (G.2 4, 6, .inr (.inr (.inr (.inr (va_up (va_up (va_up (va_up (va_up (va_up (fun _ => none) 0 none) 1 none) 2 none) 3 none) 4 none) 5 none)))))), (a6, .inr (6, [.int 8, .int 5, .ref a22, .int 0])), (a13, .inr (6, [.int 8, .int 5, .ref a23, .int 0])), (a23, .inl (G.2 0, 40, .inl (fun _ => 0))), (a22, .inl (G.2 0, 40, .inl (fun _ => 0))), (a7, .inr (6, [.int 6, .int 6, .ref a24, .int 0])), (a14, .inr (6, [.int 6, .int 6, .ref a25, .int 0])), (a25, .inl (G.2 0, 36, .inl (fun _ => 0))), (a24, .inl (G.2 0, 36, .inl (fun _ => 0))), (a15, .inl (G.2 1, 24, .inr (.inl (fun _ => 0)))), (a8, .inl (G.2 1, 24, .inr (.inl (fun _ => 0)))), (a3, .inr (6, [.int 6, .int 5, .ref a16, .int 0])), (a10, .inr (6, [.int 6, .int 5, .ref a17, .int 0])), (a17, .inl (G.2 0, 30, .inl (fun _ => 0))), (a16, .inl (G.2 0, 30, .inl (va_cpy (fun _ => 0) (fun _ => 0) 0 0 30))), (a4, .inr (6, [.int 5, .int 24, .ref a18, .int 0])), (a11, .inr (6, [.int 5, .int 24, .ref a19, .int 0])), (a19, .inl (G.2 0, 120, .inl (fun _ => 0))), (a18, .inl (G.2 0, 120, .inl (va_cpy (fun _ => 0) (fun _ => 0) 0 0 120))), (a5, .inr (6, [.int 10, .int 4, .ref a20, .int 0])), (a12, .inr (6, [.int 10, .int 4, .ref a21, .int 0])), (a21, .inl (G.2 0, 40, .inl (fun _ => 0))), (a20, .inl (G.2 0, 40, .inl (va_cpy (fun _ => 0) (fun _ => 0) 0 0 40)))] H := hP
                have hD : va_D A [(a0, .inr (1, [.long 0, .int 1000, .int (-1), .int (-1), .int 0, .ref a2, .ref a3, .ref a4, .ref a5, .ref a6, .ref a7, .long 0, .ref a8])), (a1, .inr (1, [.long 0, .int 1000, .int (-1), .int (-1), .int 0, .ref a9, .ref a10, .ref a11, .ref a12, .ref a13, .ref a14, .long 0, .ref a15])), (a9, .inl (G.2 4, 6, .inr (.inr (.inr (.inr (fun _ => none)))))), (a2, .inl (G.2 4, 6, .inr (.inr (.inr (.inr (va_up (va_up (va_up (va_up (va_up (va_up (fun _ => none) 0 none) 1 none) 2 none) 3 none) 4 none) 5 none)))))), (a6, .inr (6, [.int 8, .int 5, .ref a22, .int 0])), (a13, .inr (6, [.int 8, .int 5, .ref a23, .int 0])), (a23, .inl (G.2 0, 40, .inl (fun _ => 0))), (a22, .inl (G.2 0, 40, .inl (fun _ => 0))), (a7, .inr (6, [.int 6, .int 6, .ref a24, .int 0])), (a14, .inr (6, [.int 6, .int 6, .ref a25, .int 0])), (a25, .inl (G.2 0, 36, .inl (fun _ => 0))), (a24, .inl (G.2 0, 36, .inl (fun _ => 0))), (a15, .inl (G.2 1, 24, .inr (.inl (fun _ => 0)))), (a8, .inl (G.2 1, 24, .inr (.inl (fun _ => 0)))), (a3, .inr (6, [.int 6, .int 5, .ref a16, .int 0])), (a10, .inr (6, [.int 6, .int 5, .ref a17, .int 0])), (a17, .inl (G.2 0, 30, .inl (fun _ => 0))), (a16, .inl (G.2 0, 30, .inl (va_cpy (fun _ => 0) (fun _ => 0) 0 0 30))), (a4, .inr (6, [.int 5, .int 24, .ref a18, .int 0])), (a11, .inr (6, [.int 5, .int 24, .ref a19, .int 0])), (a19, .inl (G.2 0, 120, .inl (fun _ => 0))), (a18, .inl (G.2 0, 120, .inl (va_cpy (fun _ => 0) (fun _ => 0) 0 0 120))), (a5, .inr (6, [.int 10, .int 4, .ref a20, .int 0])), (a12, .inr (6, [.int 10, .int 4, .ref a21, .int 0])), (a21, .inl (G.2 0, 40, .inl (fun _ => 0))), (a20, .inl (G.2 0, 40, .inl (va_cpy (fun _ => 0) (fun _ => 0) 0 0 40)))] := hD
                refine lv_aload_n hx hb dX1_copyFrom_99 rfl (lv_at hl 1 rfl) ?_
                refine va_get (D := G.1) (ci := 1) (v := .ref a6) (C := RX1) (T := TX1) (N := 13) hx hb hts inG_X1 hown hK hP 0 rfl rfl 9 (by decide) (hts _ fl_X1_49) (fun _ h9 => h9) rfl dX1_copyFrom_100 ?_
                refine lv_aload_n hx hb dX1_copyFrom_103 rfl (lv_at hl 2 rfl) ?_
                refine va_get (D := G.1) (ci := 1) (v := .ref a13) (C := RX1) (T := TX1) (N := 13) hx hb hts inG_X1 hown hK hP 1 rfl rfl 9 (by decide) (hts _ fl_X1_49) (fun _ h9 => h9) rfl dX1_copyFrom_104 ?_
                have hPc := hP.sub (ws' := [(a6, .inr (6, [.int 8, .int 5, .ref a22, .int 0])), (a13, .inr (6, [.int 8, .int 5, .ref a23, .int 0])), (a23, .inl (G.2 0, 40, .inl (fun _ => 0))), (a22, .inl (G.2 0, 40, .inl (fun _ => 0)))]) [4, 5, 6, 7] rfl
                have hDc := hD.sub (ws' := [(a6, .inr (6, [.int 8, .int 5, .ref a22, .int 0])), (a13, .inr (6, [.int 8, .int 5, .ref a23, .int 0])), (a23, .inl (G.2 0, 40, .inl (fun _ => 0))), (a22, .inl (G.2 0, 40, .inl (fun _ => 0)))]) [4, 5, 6, 7] (by decide) rfl
                have hFc := va_free (wc := [(a6, .inr (6, [.int 8, .int 5, .ref a22, .int 0])), (a13, .inr (6, [.int 8, .int 5, .ref a23, .int 0])), (a23, .inl (G.2 0, 40, .inl (fun _ => 0))), (a22, .inl (G.2 0, 40, .inl (fun _ => 0)))]) hD hS hA [4, 5, 6, 7] rfl
                refine va_callv (va_runV (As := [.ref a13]) (rest := []) ⟨hx, hb, hml, hown, hts⟩ (kX6_copyFrom_4 l G a6 a13 a22 a23 H.size) (cwV 1 hts gV_X1_80 rfl rfl rfl hv_X6_copyFrom ⟨Nat.le_of_ble_eq_true rfl, Nat.le_of_ble_eq_true rfl⟩) (g5_preV hPc hK hDc hN hT hS hFc (ci := 6) (q0 := 0) rfl rfl) rfl rfl hl.1 rfl (lv_room (Nat.le_of_ble_eq_true rfl)) dX1_copyFrom_107 ⟨Nat.le_of_ble_eq_true rfl, Nat.le_of_ble_eq_true rfl⟩) hS (fun q _ h => hFc q h) hFc (fun u t H1 locs ht hvm hw hB hz1 hk1 hS => ?_)
                obtain ⟨hP1, hD1⟩ := hB
                rw [ht] at hP1
                obtain rfl := hw
                obtain ⟨hP, hD⟩ := va_join (wr := [(a0, .inr (1, [.long 0, .int 1000, .int (-1), .int (-1), .int 0, .ref a2, .ref a3, .ref a4, .ref a5, .ref a6, .ref a7, .long 0, .ref a8])), (a1, .inr (1, [.long 0, .int 1000, .int (-1), .int (-1), .int 0, .ref a9, .ref a10, .ref a11, .ref a12, .ref a13, .ref a14, .long 0, .ref a15])), (a9, .inl (G.2 4, 6, .inr (.inr (.inr (.inr (fun _ => none)))))), (a2, .inl (G.2 4, 6, .inr (.inr (.inr (.inr (va_up (va_up (va_up (va_up (va_up (va_up (fun _ => none) 0 none) 1 none) 2 none) 3 none) 4 none) 5 none)))))), (a7, .inr (6, [.int 6, .int 6, .ref a24, .int 0])), (a14, .inr (6, [.int 6, .int 6, .ref a25, .int 0])), (a25, .inl (G.2 0, 36, .inl (fun _ => 0))), (a24, .inl (G.2 0, 36, .inl (fun _ => 0))), (a15, .inl (G.2 1, 24, .inr (.inl (fun _ => 0)))), (a8, .inl (G.2 1, 24, .inr (.inl (fun _ => 0)))), (a3, .inr (6, [.int 6, .int 5, .ref a16, .int 0])), (a10, .inr (6, [.int 6, .int 5, .ref a17, .int 0])), (a17, .inl (G.2 0, 30, .inl (fun _ => 0))), (a16, .inl (G.2 0, 30, .inl (va_cpy (fun _ => 0) (fun _ => 0) 0 0 30))), (a4, .inr (6, [.int 5, .int 24, .ref a18, .int 0])), (a11, .inr (6, [.int 5, .int 24, .ref a19, .int 0])), (a19, .inl (G.2 0, 120, .inl (fun _ => 0))), (a18, .inl (G.2 0, 120, .inl (va_cpy (fun _ => 0) (fun _ => 0) 0 0 120))), (a5, .inr (6, [.int 10, .int 4, .ref a20, .int 0])), (a12, .inr (6, [.int 10, .int 4, .ref a21, .int 0])), (a21, .inl (G.2 0, 40, .inl (fun _ => 0))), (a20, .inl (G.2 0, 40, .inl (va_cpy (fun _ => 0) (fun _ => 0) 0 0 40)))]) (w1 := [(a6, .inr (6, [.int 8, .int 5, .ref a22, .int 0])), (a13, .inr (6, [.int 8, .int 5, .ref a23, .int 0])), (a23, .inl (G.2 0, 40, .inl (fun _ => 0))), (a22, .inl (G.2 0, 40, .inl (va_cpy (fun _ => 0) (fun _ => 0) 0 0 40)))]) hP hD [4, 5, 6, 7] [0, 1, 2, 3, 8, 9, 10, 11, 12, 13, 14, 15, 16, 17, 18, 19, 20, 21, 22, 23, 24, 25] rfl rfl (by decide) (by decide) hk1 hFc hP1 hD1
                generalize H1 = H at hP hS ⊢
                have hP : va_P G.1 vwCl [(a0, .inr (1, [.long 0, .int 1000, .int (-1), .int (-1), .int 0, .ref a2, .ref a3, .ref a4, .ref a5, .ref a6, .ref a7, .long 0, .ref a8])), (a1, .inr (1, [.long 0, .int 1000, .int (-1), .int (-1), .int 0, .ref a9, .ref a10, .ref a11, .ref a12, .ref a13, .ref a14, .long 0, .ref a15])), (a9, .inl (G.2 4, 6, .inr (.inr (.inr (.inr (fun _ => none)))))), (a2, .inl (G.2 4, 6, .inr (.inr (.inr (.inr (va_up (va_up (va_up (va_up (va_up (va_up (fun _ => none) 0 none) 1 none) 2 none) 3 none) 4 none) 5 none)))))), (a7, .inr (6, [.int 6, .int 6, .ref a24, .int 0])), (a14, .inr (6, [.int 6, .int 6, .ref a25, .int 0])), (a25, .inl (G.2 0, 36, .inl (fun _ => 0))), (a24, .inl (G.2 0, 36, .inl (fun _ => 0))), (a15, .inl (G.2 1, 24, .inr (.inl (fun _ => 0)))), (a8, .inl (G.2 1, 24, .inr (.inl (fun _ => 0)))), (a3, .inr (6, [.int 6, .int 5, .ref a16, .int 0])), (a10, .inr (6, [.int 6, .int 5, .ref a17, .int 0])), (a17, .inl (G.2 0, 30, .inl (fun _ => 0))), (a16, .inl (G.2 0, 30, .inl (va_cpy (fun _ => 0) (fun _ => 0) 0 0 30))), (a4, .inr (6, [.int 5, .int 24, .ref a18, .int 0])), (a11, .inr (6, [.int 5, .int 24, .ref a19, .int 0])), (a19, .inl (G.2 0, 120, .inl (fun _ => 0))), (a18, .inl (G.2 0, 120, .inl (va_cpy (fun _ => 0) (fun _ => 0) 0 0 120))), (a5, .inr (6, [.int 10, .int 4, .ref a20, .int 0])), (a12, .inr (6, [.int 10, .int 4, .ref a21, .int 0])), (a21, .inl (G.2 0, 40, .inl (fun _ => 0))), (a20, .inl (G.2 0, 40, .inl (va_cpy (fun _ => 0) (fun _ => 0) 0 0 40))), (a6, .inr (6, [.int 8, .int 5, .ref a22, .int 0])), (a13, .inr (6, [.int 8, .int 5, .ref a23, .int 0])), (a23, .inl (G.2 0, 40, .inl (fun _ => 0))), (a22, .inl (G.2 0, 40, .inl (va_cpy (fun _ => 0) (fun _ => 0) 0 0 40)))] H := hP
                have hD : va_D A [(a0, .inr (1, [.long 0, .int 1000, .int (-1), .int (-1), .int 0, .ref a2, .ref a3, .ref a4, .ref a5, .ref a6, .ref a7, .long 0, .ref a8])), (a1, .inr (1, [.long 0, .int 1000, .int (-1), .int (-1), .int 0, .ref a9, .ref a10, .ref a11, .ref a12, .ref a13, .ref a14, .long 0, .ref a15])), (a9, .inl (G.2 4, 6, .inr (.inr (.inr (.inr (fun _ => none)))))), (a2, .inl (G.2 4, 6, .inr (.inr (.inr (.inr (va_up (va_up (va_up (va_up (va_up (va_up (fun _ => none) 0 none) 1 none) 2 none) 3 none) 4 none) 5 none)))))), (a7, .inr (6, [.int 6, .int 6, .ref a24, .int 0])), (a14, .inr (6, [.int 6, .int 6, .ref a25, .int 0])), (a25, .inl (G.2 0, 36, .inl (fun _ => 0))), (a24, .inl (G.2 0, 36, .inl (fun _ => 0))), (a15, .inl (G.2 1, 24, .inr (.inl (fun _ => 0)))), (a8, .inl (G.2 1, 24, .inr (.inl (fun _ => 0)))), (a3, .inr (6, [.int 6, .int 5, .ref a16, .int 0])), (a10, .inr (6, [.int 6, .int 5, .ref a17, .int 0])), (a17, .inl (G.2 0, 30, .inl (fun _ => 0))), (a16, .inl (G.2 0, 30, .inl (va_cpy (fun _ => 0) (fun _ => 0) 0 0 30))), (a4, .inr (6, [.int 5, .int 24, .ref a18, .int 0])), (a11, .inr (6, [.int 5, .int 24, .ref a19, .int 0])), (a19, .inl (G.2 0, 120, .inl (fun _ => 0))), (a18, .inl (G.2 0, 120, .inl (va_cpy (fun _ => 0) (fun _ => 0) 0 0 120))), (a5, .inr (6, [.int 10, .int 4, .ref a20, .int 0])), (a12, .inr (6, [.int 10, .int 4, .ref a21, .int 0])), (a21, .inl (G.2 0, 40, .inl (fun _ => 0))), (a20, .inl (G.2 0, 40, .inl (va_cpy (fun _ => 0) (fun _ => 0) 0 0 40))), (a6, .inr (6, [.int 8, .int 5, .ref a22, .int 0])), (a13, .inr (6, [.int 8, .int 5, .ref a23, .int 0])), (a23, .inl (G.2 0, 40, .inl (fun _ => 0))), (a22, .inl (G.2 0, 40, .inl (va_cpy (fun _ => 0) (fun _ => 0) 0 0 40)))] := hD
                refine lv_aload_n hx hb dX1_copyFrom_110 rfl (lv_at hl 1 rfl) ?_
                refine va_get (D := G.1) (ci := 1) (v := .ref a7) (C := RX1) (T := TX1) (N := 13) hx hb hts inG_X1 hown hK hP 0 rfl rfl 10 (by decide) (hts _ fl_X1_52) (fun _ h9 => h9) rfl dX1_copyFrom_111 ?_
                refine lv_aload_n hx hb dX1_copyFrom_114 rfl (lv_at hl 2 rfl) ?_
                refine va_get (D := G.1) (ci := 1) (v := .ref a14) (C := RX1) (T := TX1) (N := 13) hx hb hts inG_X1 hown hK hP 1 rfl rfl 10 (by decide) (hts _ fl_X1_52) (fun _ h9 => h9) rfl dX1_copyFrom_115 ?_
                have hPc := hP.sub (ws' := [(a7, .inr (6, [.int 6, .int 6, .ref a24, .int 0])), (a14, .inr (6, [.int 6, .int 6, .ref a25, .int 0])), (a25, .inl (G.2 0, 36, .inl (fun _ => 0))), (a24, .inl (G.2 0, 36, .inl (fun _ => 0)))]) [4, 5, 6, 7] rfl
                have hDc := hD.sub (ws' := [(a7, .inr (6, [.int 6, .int 6, .ref a24, .int 0])), (a14, .inr (6, [.int 6, .int 6, .ref a25, .int 0])), (a25, .inl (G.2 0, 36, .inl (fun _ => 0))), (a24, .inl (G.2 0, 36, .inl (fun _ => 0)))]) [4, 5, 6, 7] (by decide) rfl
                have hFc := va_free (wc := [(a7, .inr (6, [.int 6, .int 6, .ref a24, .int 0])), (a14, .inr (6, [.int 6, .int 6, .ref a25, .int 0])), (a25, .inl (G.2 0, 36, .inl (fun _ => 0))), (a24, .inl (G.2 0, 36, .inl (fun _ => 0)))]) hD hS hA [4, 5, 6, 7] rfl
                refine va_callv (va_runV (As := [.ref a14]) (rest := []) ⟨hx, hb, hml, hown, hts⟩ (kX6_copyFrom_5 l G a7 a14 a24 a25 H.size) (cwV 1 hts gV_X1_80 rfl rfl rfl hv_X6_copyFrom ⟨Nat.le_of_ble_eq_true rfl, Nat.le_of_ble_eq_true rfl⟩) (g5_preV hPc hK hDc hN hT hS hFc (ci := 6) (q0 := 0) rfl rfl) rfl rfl hl.1 rfl (lv_room (Nat.le_of_ble_eq_true rfl)) dX1_copyFrom_118 ⟨Nat.le_of_ble_eq_true rfl, Nat.le_of_ble_eq_true rfl⟩) hS (fun q _ h => hFc q h) hFc (fun u t H1 locs ht hvm hw hB hz1 hk1 hS => ?_)
                obtain ⟨hP1, hD1⟩ := hB
                rw [ht] at hP1
                obtain rfl := hw
                obtain ⟨hP, hD⟩ := va_join (wr := [(a0, .inr (1, [.long 0, .int 1000, .int (-1), .int (-1), .int 0, .ref a2, .ref a3, .ref a4, .ref a5, .ref a6, .ref a7, .long 0, .ref a8])), (a1, .inr (1, [.long 0, .int 1000, .int (-1), .int (-1), .int 0, .ref a9, .ref a10, .ref a11, .ref a12, .ref a13, .ref a14, .long 0, .ref a15])), (a9, .inl (G.2 4, 6, .inr (.inr (.inr (.inr (fun _ => none)))))), (a2, .inl (G.2 4, 6, .inr (.inr (.inr (.inr (va_up (va_up (va_up (va_up (va_up (va_up (fun _ => none) 0 none) 1 none) 2 none) 3 none) 4 none) 5 none)))))), (a15, .inl (G.2 1, 24, .inr (.inl (fun _ => 0)))), (a8, .inl (G.2 1, 24, .inr (.inl (fun _ => 0)))), (a3, .inr (6, [.int 6, .int 5, .ref a16, .int 0])), (a10, .inr (6, [.int 6, .int 5, .ref a17, .int 0])), (a17, .inl (G.2 0, 30, .inl (fun _ => 0))), (a16, .inl (G.2 0, 30, .inl (va_cpy (fun _ => 0) (fun _ => 0) 0 0 30))), (a4, .inr (6, [.int 5, .int 24, .ref a18, .int 0])), (a11, .inr (6, [.int 5, .int 24, .ref a19, .int 0])), (a19, .inl (G.2 0, 120, .inl (fun _ => 0))), (a18, .inl (G.2 0, 120, .inl (va_cpy (fun _ => 0) (fun _ => 0) 0 0 120))), (a5, .inr (6, [.int 10, .int 4, .ref a20, .int 0])), (a12, .inr (6, [.int 10, .int 4, .ref a21, .int 0])), (a21, .inl (G.2 0, 40, .inl (fun _ => 0))), (a20, .inl (G.2 0, 40, .inl (va_cpy (fun _ => 0) (fun _ => 0) 0 0 40))), (a6, .inr (6, [.int 8, .int 5, .ref a22, .int 0])), (a13, .inr (6, [.int 8, .int 5, .ref a23, .int 0])), (a23, .inl (G.2 0, 40, .inl (fun _ => 0))), (a22, .inl (G.2 0, 40, .inl (va_cpy (fun _ => 0) (fun _ => 0) 0 0 40)))]) (w1 := [(a7, .inr (6, [.int 6, .int 6, .ref a24, .int 0])), (a14, .inr (6, [.int 6, .int 6, .ref a25, .int 0])), (a25, .inl (G.2 0, 36, .inl (fun _ => 0))), (a24, .inl (G.2 0, 36, .inl (va_cpy (fun _ => 0) (fun _ => 0) 0 0 36)))]) hP hD [4, 5, 6, 7] [0, 1, 2, 3, 8, 9, 10, 11, 12, 13, 14, 15, 16, 17, 18, 19, 20, 21, 22, 23, 24, 25] rfl rfl (by decide) (by decide) hk1 hFc hP1 hD1
                generalize H1 = H at hP hS ⊢
                have hP : va_P G.1 vwCl [(a0, .inr (1, [.long 0, .int 1000, .int (-1), .int (-1), .int 0, .ref a2, .ref a3, .ref a4, .ref a5, .ref a6, .ref a7, .long 0, .ref a8])), (a1, .inr (1, [.long 0, .int 1000, .int (-1), .int (-1), .int 0, .ref a9, .ref a10, .ref a11, .ref a12, .ref a13, .ref a14, .long 0, .ref a15])), (a9, .inl (G.2 4, 6, .inr (.inr (.inr (.inr (fun _ => none)))))), (a2, .inl (G.2 4, 6, .inr (.inr (.inr (.inr (va_up (va_up (va_up (va_up (va_up (va_up (fun _ => none) 0 none) 1 none) 2 none) 3 none) 4 none) 5 none)))))), (a15, .inl (G.2 1, 24, .inr (.inl (fun _ => 0)))), (a8, .inl (G.2 1, 24, .inr (.inl (fun _ => 0)))), (a3, .inr (6, [.int 6, .int 5, .ref a16, .int 0])), (a10, .inr (6, [.int 6, .int 5, .ref a17, .int 0])), (a17, .inl (G.2 0, 30, .inl (fun _ => 0))), (a16, .inl (G.2 0, 30, .inl (va_cpy (fun _ => 0) (fun _ => 0) 0 0 30))), (a4, .inr (6, [.int 5, .int 24, .ref a18, .int 0])), (a11, .inr (6, [.int 5, .int 24, .ref a19, .int 0])), (a19, .inl (G.2 0, 120, .inl (fun _ => 0))), (a18, .inl (G.2 0, 120, .inl (va_cpy (fun _ => 0) (fun _ => 0) 0 0 120))), (a5, .inr (6, [.int 10, .int 4, .ref a20, .int 0])), (a12, .inr (6, [.int 10, .int 4, .ref a21, .int 0])), (a21, .inl (G.2 0, 40, .inl (fun _ => 0))), (a20, .inl (G.2 0, 40, .inl (va_cpy (fun _ => 0) (fun _ => 0) 0 0 40))), (a6, .inr (6, [.int 8, .int 5, .ref a22, .int 0])), (a13, .inr (6, [.int 8, .int 5, .ref a23, .int 0])), (a23, .inl (G.2 0, 40, .inl (fun _ => 0))), (a22, .inl (G.2 0, 40, .inl (va_cpy (fun _ => 0) (fun _ => 0) 0 0 40))), (a7, .inr (6, [.int 6, .int 6, .ref a24, .int 0])), (a14, .inr (6, [.int 6, .int 6, .ref a25, .int 0])), (a25, .inl (G.2 0, 36, .inl (fun _ => 0))), (a24, .inl (G.2 0, 36, .inl (va_cpy (fun _ => 0) (fun _ => 0) 0 0 36)))] H := hP
                have hD : va_D A [(a0, .inr (1, [.long 0, .int 1000, .int (-1), .int (-1), .int 0, .ref a2, .ref a3, .ref a4, .ref a5, .ref a6, .ref a7, .long 0, .ref a8])), (a1, .inr (1, [.long 0, .int 1000, .int (-1), .int (-1), .int 0, .ref a9, .ref a10, .ref a11, .ref a12, .ref a13, .ref a14, .long 0, .ref a15])), (a9, .inl (G.2 4, 6, .inr (.inr (.inr (.inr (fun _ => none)))))), (a2, .inl (G.2 4, 6, .inr (.inr (.inr (.inr (va_up (va_up (va_up (va_up (va_up (va_up (fun _ => none) 0 none) 1 none) 2 none) 3 none) 4 none) 5 none)))))), (a15, .inl (G.2 1, 24, .inr (.inl (fun _ => 0)))), (a8, .inl (G.2 1, 24, .inr (.inl (fun _ => 0)))), (a3, .inr (6, [.int 6, .int 5, .ref a16, .int 0])), (a10, .inr (6, [.int 6, .int 5, .ref a17, .int 0])), (a17, .inl (G.2 0, 30, .inl (fun _ => 0))), (a16, .inl (G.2 0, 30, .inl (va_cpy (fun _ => 0) (fun _ => 0) 0 0 30))), (a4, .inr (6, [.int 5, .int 24, .ref a18, .int 0])), (a11, .inr (6, [.int 5, .int 24, .ref a19, .int 0])), (a19, .inl (G.2 0, 120, .inl (fun _ => 0))), (a18, .inl (G.2 0, 120, .inl (va_cpy (fun _ => 0) (fun _ => 0) 0 0 120))), (a5, .inr (6, [.int 10, .int 4, .ref a20, .int 0])), (a12, .inr (6, [.int 10, .int 4, .ref a21, .int 0])), (a21, .inl (G.2 0, 40, .inl (fun _ => 0))), (a20, .inl (G.2 0, 40, .inl (va_cpy (fun _ => 0) (fun _ => 0) 0 0 40))), (a6, .inr (6, [.int 8, .int 5, .ref a22, .int 0])), (a13, .inr (6, [.int 8, .int 5, .ref a23, .int 0])), (a23, .inl (G.2 0, 40, .inl (fun _ => 0))), (a22, .inl (G.2 0, 40, .inl (va_cpy (fun _ => 0) (fun _ => 0) 0 0 40))), (a7, .inr (6, [.int 6, .int 6, .ref a24, .int 0])), (a14, .inr (6, [.int 6, .int 6, .ref a25, .int 0])), (a25, .inl (G.2 0, 36, .inl (fun _ => 0))), (a24, .inl (G.2 0, 36, .inl (va_cpy (fun _ => 0) (fun _ => 0) 0 0 36)))] := hD
                refine lv_aload_n hx hb dX1_copyFrom_121 rfl (lv_at hl 1 rfl) ?_
                refine lv_aload_n hx hb dX1_copyFrom_122 rfl (lv_at hl 2 rfl) ?_
                refine va_get (D := G.1) (ci := 1) (v := .long 0) (C := RX1) (T := TX1) (N := 13) hx hb hts inG_X1 hown hK hP 1 rfl rfl 11 (by decide) (hts _ fl_X1_55) (fun _ h9 => h9) rfl dX1_copyFrom_123 ?_
                refine va_put (D := G.1) (ci := 1) (v := .long 0) (ty := .long) (C := RX1) (T := TX1) (N := 13) hx hb hts inG_X1 tyX1 tyX1_ok nmX1 hown hK hP hD hS 0 rfl rfl 11 (by decide) (hts _ fl_X1_55) (fun _ h9 => h9) rfl (by decide +kernel) rfl rfl (Nat.le_of_ble_eq_true rfl) dX1_copyFrom_126 (fun H locs hP hD hS => ?_)
                have hP : va_P G.1 vwCl [(a0, .inr (1, [.long 0, .int 1000, .int (-1), .int (-1), .int 0, .ref a2, .ref a3, .ref a4, .ref a5, .ref a6, .ref a7, .long 0, .ref a8])), (a1, .inr (1, [.long 0, .int 1000, .int (-1), .int (-1), .int 0, .ref a9, .ref a10, .ref a11, .ref a12, .ref a13, .ref a14, .long 0, .ref a15])), (a9, .inl (G.2 4, 6, .inr (.inr (.inr (.inr (fun _ => none)))))), (a2, .inl (G.2 4, 6, .inr (.inr (.inr (.inr (va_up (va_up (va_up (va_up (va_up (va_up (fun _ => none) 0 none) 1 none) 2 none) 3 none) 4 none) 5 none)))))), (a15, .inl (G.2 1, 24, .inr (.inl (fun _ => 0)))), (a8, .inl (G.2 1, 24, .inr (.inl (fun _ => 0)))), (a3, .inr (6, [.int 6, .int 5, .ref a16, .int 0])), (a10, .inr (6, [.int 6, .int 5, .ref a17, .int 0])), (a17, .inl (G.2 0, 30, .inl (fun _ => 0))), (a16, .inl (G.2 0, 30, .inl (va_cpy (fun _ => 0) (fun _ => 0) 0 0 30))), (a4, .inr (6, [.int 5, .int 24, .ref a18, .int 0])), (a11, .inr (6, [.int 5, .int 24, .ref a19, .int 0])), (a19, .inl (G.2 0, 120, .inl (fun _ => 0))), (a18, .inl (G.2 0, 120, .inl (va_cpy (fun _ => 0) (fun _ => 0) 0 0 120))), (a5, .inr (6, [.int 10, .int 4, .ref a20, .int 0])), (a12, .inr (6, [.int 10, .int 4, .ref a21, .int 0])), (a21, .inl (G.2 0, 40, .inl (fun _ => 0))), (a20, .inl (G.2 0, 40, .inl (va_cpy (fun _ => 0) (fun _ => 0) 0 0 40))), (a6, .inr (6, [.int 8, .int 5, .ref a22, .int 0])), (a13, .inr (6, [.int 8, .int 5, .ref a23, .int 0])), (a23, .inl (G.2 0, 40, .inl (fun _ => 0))), (a22, .inl (G.2 0, 40, .inl (va_cpy (fun _ => 0) (fun _ => 0) 0 0 40))), (a7, .inr (6, [.int 6, .int 6, .ref a24, .int 0])), (a14, .inr (6, [.int 6, .int 6, .ref a25, .int 0])), (a25, .inl (G.2 0, 36, .inl (fun _ => 0))), (a24, .inl (G.2 0, 36, .inl (va_cpy (fun _ => 0) (fun _ => 0) 0 0 36)))] H := hP
                have hD : va_D A [(a0, .inr (1, [.long 0, .int 1000, .int (-1), .int (-1), .int 0, .ref a2, .ref a3, .ref a4, .ref a5, .ref a6, .ref a7, .long 0, .ref a8])), (a1, .inr (1, [.long 0, .int 1000, .int (-1), .int (-1), .int 0, .ref a9, .ref a10, .ref a11, .ref a12, .ref a13, .ref a14, .long 0, .ref a15])), (a9, .inl (G.2 4, 6, .inr (.inr (.inr (.inr (fun _ => none)))))), (a2, .inl (G.2 4, 6, .inr (.inr (.inr (.inr (va_up (va_up (va_up (va_up (va_up (va_up (fun _ => none) 0 none) 1 none) 2 none) 3 none) 4 none) 5 none)))))), (a15, .inl (G.2 1, 24, .inr (.inl (fun _ => 0)))), (a8, .inl (G.2 1, 24, .inr (.inl (fun _ => 0)))), (a3, .inr (6, [.int 6, .int 5, .ref a16, .int 0])), (a10, .inr (6, [.int 6, .int 5, .ref a17, .int 0])), (a17, .inl (G.2 0, 30, .inl (fun _ => 0))), (a16, .inl (G.2 0, 30, .inl (va_cpy (fun _ => 0) (fun _ => 0) 0 0 30))), (a4, .inr (6, [.int 5, .int 24, .ref a18, .int 0])), (a11, .inr (6, [.int 5, .int 24, .ref a19, .int 0])), (a19, .inl (G.2 0, 120, .inl (fun _ => 0))), (a18, .inl (G.2 0, 120, .inl (va_cpy (fun _ => 0) (fun _ => 0) 0 0 120))), (a5, .inr (6, [.int 10, .int 4, .ref a20, .int 0])), (a12, .inr (6, [.int 10, .int 4, .ref a21, .int 0])), (a21, .inl (G.2 0, 40, .inl (fun _ => 0))), (a20, .inl (G.2 0, 40, .inl (va_cpy (fun _ => 0) (fun _ => 0) 0 0 40))), (a6, .inr (6, [.int 8, .int 5, .ref a22, .int 0])), (a13, .inr (6, [.int 8, .int 5, .ref a23, .int 0])), (a23, .inl (G.2 0, 40, .inl (fun _ => 0))), (a22, .inl (G.2 0, 40, .inl (va_cpy (fun _ => 0) (fun _ => 0) 0 0 40))), (a7, .inr (6, [.int 6, .int 6, .ref a24, .int 0])), (a14, .inr (6, [.int 6, .int 6, .ref a25, .int 0])), (a25, .inl (G.2 0, 36, .inl (fun _ => 0))), (a24, .inl (G.2 0, 36, .inl (va_cpy (fun _ => 0) (fun _ => 0) 0 0 36)))] := hD
                refine lv_aload_n hx hb dX1_copyFrom_129 rfl (lv_at hl 2 rfl) ?_
                refine va_get (D := G.1) (ci := 1) (v := .ref a15) (C := RX1) (T := TX1) (N := 13) hx hb hts inG_X1 hown hK hP 1 rfl rfl 12 (by decide) (hts _ fl_X1_58) (fun _ h9 => h9) rfl dX1_copyFrom_130 ?_
                refine lv_iconst (v := 0) hx hb dX1_copyFrom_133 (by decide) ?_
                refine lv_aload_n hx hb dX1_copyFrom_134 rfl (lv_at hl 1 rfl) ?_
                refine va_get (D := G.1) (ci := 1) (v := .ref a8) (C := RX1) (T := TX1) (N := 13) hx hb hts inG_X1 hown hK hP 0 rfl rfl 12 (by decide) (hts _ fl_X1_58) (fun _ h9 => h9) rfl dX1_copyFrom_135 ?_
                refine lv_iconst (v := 0) hx hb dX1_copyFrom_138 (by decide) ?_
                refine lv_bipush (v := 24) hx hb dX1_copyFrom_139 (by decide) ?_
                refine va_copyl hx hb (hml.trans hl.1.symm) hown (hts _ ml_X1_84) (hts _ ac_nat) (hts _ ac_st) (hts _ ac_ini) hK hP hD hS 4 5 1 1 rfl rfl rfl rfl rfl (sp := 0) (dp := 0) (n := 24) (by decide) (by decide) (by decide) (by decide) (by decide) (fun _ _ => rfl) (Nat.le_of_ble_eq_true rfl) (by decide) dX1_copyFrom_141 (fun H locs hP hD hS => ?_)
                have hP : va_P G.1 vwCl [(a0, .inr (1, [.long 0, .int 1000, .int (-1), .int (-1), .int 0, .ref a2, .ref a3, .ref a4, .ref a5, .ref a6, .ref a7, .long 0, .ref a8])), (a1, .inr (1, [.long 0, .int 1000, .int (-1), .int (-1), .int 0, .ref a9, .ref a10, .ref a11, .ref a12, .ref a13, .ref a14, .long 0, .ref a15])), (a9, .inl (G.2 4, 6, .inr (.inr (.inr (.inr (fun _ => none)))))), (a2, .inl (G.2 4, 6, .inr (.inr (.inr (.inr (va_up (va_up (va_up (va_up (va_up (va_up (fun _ => none) 0 none) 1 none) 2 none) 3 none) 4 none) 5 none)))))), (a15, .inl (G.2 1, 24, .inr (.inl (fun _ => 0)))), (a8, .inl (G.2 1, 24, .inr (.inl (va_cpy (fun _ => 0) (fun _ => 0) 0 0 24)))), (a3, .inr (6, [.int 6, .int 5, .ref a16, .int 0])), (a10, .inr (6, [.int 6, .int 5, .ref a17, .int 0])), (a17, .inl (G.2 0, 30, .inl (fun _ => 0))), (a16, .inl (G.2 0, 30, .inl (va_cpy (fun _ => 0) (fun _ => 0) 0 0 30))), (a4, .inr (6, [.int 5, .int 24, .ref a18, .int 0])), (a11, .inr (6, [.int 5, .int 24, .ref a19, .int 0])), (a19, .inl (G.2 0, 120, .inl (fun _ => 0))), (a18, .inl (G.2 0, 120, .inl (va_cpy (fun _ => 0) (fun _ => 0) 0 0 120))), (a5, .inr (6, [.int 10, .int 4, .ref a20, .int 0])), (a12, .inr (6, [.int 10, .int 4, .ref a21, .int 0])), (a21, .inl (G.2 0, 40, .inl (fun _ => 0))), (a20, .inl (G.2 0, 40, .inl (va_cpy (fun _ => 0) (fun _ => 0) 0 0 40))), (a6, .inr (6, [.int 8, .int 5, .ref a22, .int 0])), (a13, .inr (6, [.int 8, .int 5, .ref a23, .int 0])), (a23, .inl (G.2 0, 40, .inl (fun _ => 0))), (a22, .inl (G.2 0, 40, .inl (va_cpy (fun _ => 0) (fun _ => 0) 0 0 40))), (a7, .inr (6, [.int 6, .int 6, .ref a24, .int 0])), (a14, .inr (6, [.int 6, .int 6, .ref a25, .int 0])), (a25, .inl (G.2 0, 36, .inl (fun _ => 0))), (a24, .inl (G.2 0, 36, .inl (va_cpy (fun _ => 0) (fun _ => 0) 0 0 36)))] H := hP
                have hD : va_D A [(a0, .inr (1, [.long 0, .int 1000, .int (-1), .int (-1), .int 0, .ref a2, .ref a3, .ref a4, .ref a5, .ref a6, .ref a7, .long 0, .ref a8])), (a1, .inr (1, [.long 0, .int 1000, .int (-1), .int (-1), .int 0, .ref a9, .ref a10, .ref a11, .ref a12, .ref a13, .ref a14, .long 0, .ref a15])), (a9, .inl (G.2 4, 6, .inr (.inr (.inr (.inr (fun _ => none)))))), (a2, .inl (G.2 4, 6, .inr (.inr (.inr (.inr (va_up (va_up (va_up (va_up (va_up (va_up (fun _ => none) 0 none) 1 none) 2 none) 3 none) 4 none) 5 none)))))), (a15, .inl (G.2 1, 24, .inr (.inl (fun _ => 0)))), (a8, .inl (G.2 1, 24, .inr (.inl (va_cpy (fun _ => 0) (fun _ => 0) 0 0 24)))), (a3, .inr (6, [.int 6, .int 5, .ref a16, .int 0])), (a10, .inr (6, [.int 6, .int 5, .ref a17, .int 0])), (a17, .inl (G.2 0, 30, .inl (fun _ => 0))), (a16, .inl (G.2 0, 30, .inl (va_cpy (fun _ => 0) (fun _ => 0) 0 0 30))), (a4, .inr (6, [.int 5, .int 24, .ref a18, .int 0])), (a11, .inr (6, [.int 5, .int 24, .ref a19, .int 0])), (a19, .inl (G.2 0, 120, .inl (fun _ => 0))), (a18, .inl (G.2 0, 120, .inl (va_cpy (fun _ => 0) (fun _ => 0) 0 0 120))), (a5, .inr (6, [.int 10, .int 4, .ref a20, .int 0])), (a12, .inr (6, [.int 10, .int 4, .ref a21, .int 0])), (a21, .inl (G.2 0, 40, .inl (fun _ => 0))), (a20, .inl (G.2 0, 40, .inl (va_cpy (fun _ => 0) (fun _ => 0) 0 0 40))), (a6, .inr (6, [.int 8, .int 5, .ref a22, .int 0])), (a13, .inr (6, [.int 8, .int 5, .ref a23, .int 0])), (a23, .inl (G.2 0, 40, .inl (fun _ => 0))), (a22, .inl (G.2 0, 40, .inl (va_cpy (fun _ => 0) (fun _ => 0) 0 0 40))), (a7, .inr (6, [.int 6, .int 6, .ref a24, .int 0])), (a14, .inr (6, [.int 6, .int 6, .ref a25, .int 0])), (a25, .inl (G.2 0, 36, .inl (fun _ => 0))), (a24, .inl (G.2 0, 36, .inl (va_cpy (fun _ => 0) (fun _ => 0) 0 0 36)))] := hD
                exact W.vret hx hb hr (fun t ht hW => ⟨⟨[(a0, .inr (1, [.long 0, .int 1000, .int (-1), .int (-1), .int 0, .ref a2, .ref a3, .ref a4, .ref a5, .ref a6, .ref a7, .long 0, .ref a8])), (a1, .inr (1, [.long 0, .int 1000, .int (-1), .int (-1), .int 0, .ref a9, .ref a10, .ref a11, .ref a12, .ref a13, .ref a14, .long 0, .ref a15])), (a9, .inl (G.2 4, 6, .inr (.inr (.inr (.inr (fun _ => none)))))), (a2, .inl (G.2 4, 6, .inr (.inr (.inr (.inr (va_up (va_up (va_up (va_up (va_up (va_up (fun _ => none) 0 none) 1 none) 2 none) 3 none) 4 none) 5 none)))))), (a15, .inl (G.2 1, 24, .inr (.inl (fun _ => 0)))), (a8, .inl (G.2 1, 24, .inr (.inl (va_cpy (fun _ => 0) (fun _ => 0) 0 0 24)))), (a3, .inr (6, [.int 6, .int 5, .ref a16, .int 0])), (a10, .inr (6, [.int 6, .int 5, .ref a17, .int 0])), (a17, .inl (G.2 0, 30, .inl (fun _ => 0))), (a16, .inl (G.2 0, 30, .inl (va_cpy (fun _ => 0) (fun _ => 0) 0 0 30))), (a4, .inr (6, [.int 5, .int 24, .ref a18, .int 0])), (a11, .inr (6, [.int 5, .int 24, .ref a19, .int 0])), (a19, .inl (G.2 0, 120, .inl (fun _ => 0))), (a18, .inl (G.2 0, 120, .inl (va_cpy (fun _ => 0) (fun _ => 0) 0 0 120))), (a5, .inr (6, [.int 10, .int 4, .ref a20, .int 0])), (a12, .inr (6, [.int 10, .int 4, .ref a21, .int 0])), (a21, .inl (G.2 0, 40, .inl (fun _ => 0))), (a20, .inl (G.2 0, 40, .inl (va_cpy (fun _ => 0) (fun _ => 0) 0 0 40))), (a6, .inr (6, [.int 8, .int 5, .ref a22, .int 0])), (a13, .inr (6, [.int 8, .int 5, .ref a23, .int 0])), (a23, .inl (G.2 0, 40, .inl (fun _ => 0))), (a22, .inl (G.2 0, 40, .inl (va_cpy (fun _ => 0) (fun _ => 0) 0 0 40))), (a7, .inr (6, [.int 6, .int 6, .ref a24, .int 0])), (a14, .inr (6, [.int 6, .int 6, .ref a25, .int 0])), (a25, .inl (G.2 0, 36, .inl (fun _ => 0))), (a24, .inl (G.2 0, 36, .inl (va_cpy (fun _ => 0) (fun _ => 0) 0 0 36)))], rfl, rfl, by rw [ht]; exact hP, hD⟩, hS.F ht⟩) hS.2.2 dX1_copyFrom_144
              ·
                exact absurd c_7 (by decide)
theorem ml_X11_354 : Cond.methodLink RX11 354 yX1_copyFrom ∈ tblG := tg 1163 (by decide +kernel) (by decide +kernel)
theorem im_X1_copyFrom : Cond.instanceMethod yX1_copyFrom ∈ tblG := tg 1164 (by decide +kernel) (by decide +kernel)
theorem se_X1_copyFrom : Cond.selects RX1 yX1_copyFrom yX1_copyFrom ∈ tblG := tg 1165 (by decide +kernel) (by decide +kernel)
theorem cd_X1_copyFrom : Cond.code yX1_copyFrom cX1_copyFrom 3 none ∈ tblG := tg 1166 (by decide +kernel) (by decide +kernel)
theorem gW_X1_copyFrom : GoodIn tblG (wsG yX1_copyFrom cX1_copyFrom 3 none) := tgi cd_X1_copyFrom
theorem gV_X11_354 : GoodIn tblG (wsV RX11 354 RX1 yX1_copyFrom (wsG yX1_copyFrom cX1_copyFrom 3 none)) := tgV ml_X11_354 im_X1_copyFrom se_X1_copyFrom ini_X1 gW_X1_copyFrom
theorem hv_X1_copyFrom : yX1_copyFrom.cls = RX1 ∧ yX1_copyFrom.cls ≠ "java/lang/invoke/MethodHandle" ∧ yX1_copyFrom.cls ≠ "java/lang/invoke/VarHandle" ∧ (parseMethodDescriptor yX1_copyFrom.desc).map (fun d => d.parameters.length) = some 1 := by decide +kernel
theorem dX11_image_0 : decode cX11_image 0 = .ok (.iload_n 1, 1) := by decide +kernel
theorem dX11_image_1 : decode cX11_image 1 = .ok (.invokestatic 351, 3) := by decide +kernel
theorem dX11_image_4 : decode cX11_image 4 = .ok (.ifCond .ne 9, 3) := by decide +kernel
theorem dX11_image_7 : decode cX11_image 7 = .ok (.aload_n 0, 1) := by decide +kernel
theorem dX11_image_8 : decode cX11_image 8 = .ok (.iconst (-1), 1) := by decide +kernel
theorem dX11_image_9 : decode cX11_image 9 = .ok (.invokevirtual 104, 3) := by decide +kernel
theorem dX11_image_12 : decode cX11_image 12 = .ok (.ireturn, 1) := by decide +kernel
theorem dX11_image_13 : decode cX11_image 13 = .ok (.aload_n 0, 1) := by decide +kernel
theorem dX11_image_14 : decode cX11_image 14 = .ok (.getfield 16, 3) := by decide +kernel
theorem dX11_image_17 : decode cX11_image 17 = .ok (.iload_n 1, 1) := by decide +kernel
theorem dX11_image_18 : decode cX11_image 18 = .ok (.aaload, 1) := by decide +kernel
theorem dX11_image_19 : decode cX11_image 19 = .ok (.aload_n 0, 1) := by decide +kernel
theorem dX11_image_20 : decode cX11_image 20 = .ok (.getfield 12, 3) := by decide +kernel
theorem dX11_image_23 : decode cX11_image 23 = .ok (.invokevirtual 354, 3) := by decide +kernel
theorem dX11_image_26 : decode cX11_image 26 = .ok (.aload_n 0, 1) := by decide +kernel
theorem dX11_image_27 : decode cX11_image 27 = .ok (.getfield 20, 3) := by decide +kernel
theorem dX11_image_30 : decode cX11_image 30 = .ok (.iload_n 1, 1) := by decide +kernel
theorem dX11_image_31 : decode cX11_image 31 = .ok (.iconst 1, 1) := by decide +kernel
theorem dX11_image_32 : decode cX11_image 32 = .ok (.bastore, 1) := by decide +kernel
theorem dX11_image_33 : decode cX11_image 33 = .ok (.aload_n 0, 1) := by decide +kernel
theorem dX11_image_34 : decode cX11_image 34 = .ok (.iconst 0, 1) := by decide +kernel
theorem dX11_image_35 : decode cX11_image 35 = .ok (.invokevirtual 121, 3) := by decide +kernel
theorem dX11_image_38 : decode cX11_image 38 = .ok (.ireturn, 1) := by decide +kernel
