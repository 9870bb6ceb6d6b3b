theorem cl_L_7 : Cond.classLink RL 7 RX11 ∈ tblG := tg 111 (by decide +kernel) (by decide +kernel)
theorem oi_X11_3 : Cond.methodLink RX11 3 objectInit ∈ tblG := tg 116 (by decide +kernel) (by decide +kernel)
theorem cl_X11_9 : Cond.classLink RX11 9 RX1 ∈ tblG := tg 119 (by decide +kernel) (by decide +kernel)
theorem oi_X1_3 : Cond.methodLink RX1 3 objectInit ∈ tblG := tg 124 (by decide +kernel) (by decide +kernel)
theorem cl_X1_28 : Cond.classLink RX1 28 RX3 ∈ tblG := tg 125 (by decide +kernel) (by decide +kernel)
theorem cl_X1_34 : Cond.classLink RX1 34 RX6 ∈ tblG := tg 127 (by decide +kernel) (by decide +kernel)
theorem oi_X6_3 : Cond.methodLink RX6 3 objectInit ∈ tblG := tg 132 (by decide +kernel) (by decide +kernel)
theorem dgX6_init_0 : ∀ r ∈ ([(0, (.aload_n 0, 1)), (1, (.invokespecial 3, 3)), (4, (.aload_n 0, 1)), (5, (.iconst 0, 1)), (6, (.putfield 9, 3)), (9, (.aload_n 0, 1)), (10, (.iload_n 1, 1)), (11, (.putfield 15, 3)), (14, (.aload_n 0, 1)), (15, (.iload_n 2, 1)), (16, (.putfield 18, 3)), (19, (.aload_n 0, 1)), (20, (.iload_n 1, 1)), (21, (.iload_n 2, 1)), (22, (.imul, 1)), (23, (.newarray .int, 2)), (25, (.putfield 21, 3)), (28, (.return_, 1))] : List (Nat × (Instr × Nat))), decode cX6_init r.1 = .ok r.2 := by decide +kernel
theorem dX6_init_0 : decode cX6_init 0 = .ok (.aload_n 0, 1) := dgX6_init_0 (0, (.aload_n 0, 1)) (List.mem_of_getElem? (i := 0) rfl)
theorem dX6_init_1 : decode cX6_init 1 = .ok (.invokespecial 3, 3) := dgX6_init_0 (1, (.invokespecial 3, 3)) (List.mem_of_getElem? (i := 1) rfl)
theorem dX6_init_4 : decode cX6_init 4 = .ok (.aload_n 0, 1) := dgX6_init_0 (4, (.aload_n 0, 1)) (List.mem_of_getElem? (i := 2) rfl)
theorem dX6_init_5 : decode cX6_init 5 = .ok (.iconst 0, 1) := dgX6_init_0 (5, (.iconst 0, 1)) (List.mem_of_getElem? (i := 3) rfl)
theorem dX6_init_6 : decode cX6_init 6 = .ok (.putfield 9, 3) := dgX6_init_0 (6, (.putfield 9, 3)) (List.mem_of_getElem? (i := 4) rfl)
theorem dX6_init_9 : decode cX6_init 9 = .ok (.aload_n 0, 1) := dgX6_init_0 (9, (.aload_n 0, 1)) (List.mem_of_getElem? (i := 5) rfl)
theorem dX6_init_10 : decode cX6_init 10 = .ok (.iload_n 1, 1) := dgX6_init_0 (10, (.iload_n 1, 1)) (List.mem_of_getElem? (i := 6) rfl)
theorem dX6_init_11 : decode cX6_init 11 = .ok (.putfield 15, 3) := dgX6_init_0 (11, (.putfield 15, 3)) (List.mem_of_getElem? (i := 7) rfl)
theorem dX6_init_14 : decode cX6_init 14 = .ok (.aload_n 0, 1) := dgX6_init_0 (14, (.aload_n 0, 1)) (List.mem_of_getElem? (i := 8) rfl)
theorem dX6_init_15 : decode cX6_init 15 = .ok (.iload_n 2, 1) := dgX6_init_0 (15, (.iload_n 2, 1)) (List.mem_of_getElem? (i := 9) rfl)
theorem dX6_init_16 : decode cX6_init 16 = .ok (.putfield 18, 3) := dgX6_init_0 (16, (.putfield 18, 3)) (List.mem_of_getElem? (i := 10) rfl)
theorem dX6_init_19 : decode cX6_init 19 = .ok (.aload_n 0, 1) := dgX6_init_0 (19, (.aload_n 0, 1)) (List.mem_of_getElem? (i := 11) rfl)
theorem dX6_init_20 : decode cX6_init 20 = .ok (.iload_n 1, 1) := dgX6_init_0 (20, (.iload_n 1, 1)) (List.mem_of_getElem? (i := 12) rfl)
theorem dX6_init_21 : decode cX6_init 21 = .ok (.iload_n 2, 1) := dgX6_init_0 (21, (.iload_n 2, 1)) (List.mem_of_getElem? (i := 13) rfl)
theorem dX6_init_22 : decode cX6_init 22 = .ok (.imul, 1) := dgX6_init_0 (22, (.imul, 1)) (List.mem_of_getElem? (i := 14) rfl)
theorem dX6_init_23 : decode cX6_init 23 = .ok (.newarray .int, 2) := dgX6_init_0 (23, (.newarray .int, 2)) (List.mem_of_getElem? (i := 15) rfl)
theorem dX6_init_25 : decode cX6_init 25 = .ok (.putfield 21, 3) := dgX6_init_0 (25, (.putfield 21, 3)) (List.mem_of_getElem? (i := 16) rfl)
theorem dX6_init_28 : decode cX6_init 28 = .ok (.return_, 1) := dgX6_init_0 (28, (.return_, 1)) (List.mem_of_getElem? (i := 17) rfl)
set_option maxHeartbeats 4000000 in
set_option maxRecDepth 100000 in
theorem kX6_init (l : Launch) (G : g5_G) (a0 : Nat) (sz : Nat) : Met l yX6_init (wsG yX6_init cX6_init 3 none) ({ frames := 1, cells := 1, slots := 30, locals := 12 }) (va_Pc [.ref a0, .int 6, .int 5] (g5_P G [(a0, .inr (6, [.int 0, .int 0, .null, .int 0]))] sz)) (va_Qv (fun (u : va_W) => (∃ (q1 : Nat), (u = [(a0, (oc6 6 5 q1 0)), (q1, (arI G 30 (fun _ => 0)))]))) (g5_B G (va_A [(a0, .inr (6, [.int 0, .int 0, .null, .int 0]))] sz)) (va_A [(a0, .inr (6, [.int 0, .int 0, .null, .int 0]))] sz)) 1 30 (va_A [(a0, .inr (6, [.int 0, .int 0, .null, .int 0]))] sz) := by
  refine Met.ofW (cc := cX6_init) (maxL := 3) (ret := none) (by decide) rfl ?_
  intro p e s m args below meth c s₁ B hml hv
  obtain ⟨rfl, hsz, hP, hK, hD0, hN, hT⟩ := hv
  have hx := B.exec
  have hb := B.bytes
  have hr := B.returns
  have hts : ∀ w ∈ tblG, w.before _ s = true := fun w h => atoms_spec (ws := (wsG yX6_init cX6_init 3 none)) B.pre w (List.mem_cons_of_mem _ h)
  have hown : s.vm.findClass RX6 = some m.cls := findClass_of_methodNamed B.named
  have hlocks := B.notSynchronized
  have hin : meth.name = "<init>" := (name_of_methodNamed B.named B.method).1
  subst hsz
  have hD := hD0.self (sz := s.heap.size)
  generalize hAe : va_A [(a0, .inr (6, [.int 0, .int 0, .null, .int 0]))] s.heap.size = A at hD hT ⊢
  have hA : ∀ q : Nat, s.heap.size ≤ q → A q := fun q h => by rw [← hAe]; exact Or.inr h
  have hS : va_S A s.heap s.heap [] := va_S.rf
  have hP : va_P G.1 vwCl [(a0, .inr (6, [.int 0, .int 0, .null, .int 0]))] s.heap := hP
  have hl := lv_entry ([.ref a0, .int 6, .int 5]) (n := 3) (Nat.le_of_ble_eq_true rfl)
  rw [lg_entry_eq]
  generalize (lg_sl ([.ref a0, .int 6, .int 5]) ++ List.replicate (3 - (lg_sl ([.ref a0, .int 6, .int 5])).length) Slot.unset).toArray = ls at hl ⊢
  have hl : lv_has ls 3 [(0, .ref a0), (1, .int 6), (2, .int 5)] := hl
  refine lv_aload_n hx hb dX6_init_0 rfl (lv_at hl 0 rfl) ?_
  refine W.objInit hx hb hown (hts _ oi_X6_3) (hts _ oi_im) (hts _ oi_cd) rfl (by rw [hml]; exact hl.1) rfl dX6_init_1 (Nat.le_of_ble_eq_true rfl) (Nat.le_of_ble_eq_true rfl) ?_
  refine W.eq (g2 := F0 m 4 ls []) rfl ?_
  refine lv_aload_n hx hb dX6_init_4 rfl (lv_at hl 0 rfl) ?_
  refine lv_iconst (v := 0) hx hb dX6_init_5 (by decide) ?_
  refine va_put (D := G.1) (ci := 6) (v := .int 0) (ty := .int) (C := RX6) (T := TX6) (N := 4) hx hb hts inG_X6 tyX6 tyX6_ok nmX6 hown hK hP hD hS 0 rfl rfl 3 (by decide) (hts _ fl_X6_9) (fun _ h9 => h9) rfl (by decide +kernel) rfl rfl (Nat.le_of_ble_eq_true rfl) dX6_init_6 (fun H locs hP hD hS => ?_)
  refine g5_rs [(a0, .inr (6, [.int 0, .int 0, .null, .int 0]))] hP hD (fun hP hD => ?_)
  refine lv_aload_n hx hb dX6_init_9 rfl (lv_at hl 0 rfl) ?_
  refine lv_iload_n hx hb dX6_init_10 rfl (lv_at hl 1 rfl) ?_
  refine va_putF (D := G.1) (ci := 6) (v := .int 6) (ty := .int) (C := RX6) (T := TX6) (N := 4) hx hb hts inG_X6 tyX6 tyX6_ok nmX6 hown hK hP hD hS 0 rfl rfl 0 (by decide) (hts _ fl_X6_15) (fun _ h9 => h9) rfl hin rfl (by decide +kernel) rfl rfl (Nat.le_of_ble_eq_true rfl) dX6_init_11 (fun H locs hP hD hS => ?_)
  refine g5_rs [(a0, .inr (6, [.int 6, .int 0, .null, .int 0]))] hP hD (fun hP hD => ?_)
  refine lv_aload_n hx hb dX6_init_14 rfl (lv_at hl 0 rfl) ?_
  refine lv_iload_n hx hb dX6_init_15 rfl (lv_at hl 2 rfl) ?_
  refine va_putF (D := G.1) (ci := 6) (v := .int 5) (ty := .int) (C := RX6) (T := TX6) (N := 4) hx hb hts inG_X6 tyX6 tyX6_ok nmX6 hown hK hP hD hS 0 rfl rfl 1 (by decide) (hts _ fl_X6_18) (fun _ h9 => h9) rfl hin rfl (by decide +kernel) rfl rfl (Nat.le_of_ble_eq_true rfl) dX6_init_16 (fun H locs hP hD hS => ?_)
  refine g5_rs [(a0, .inr (6, [.int 6, .int 5, .null, .int 0]))] hP hD (fun hP hD => ?_)
  refine lv_aload_n hx hb dX6_init_19 rfl (lv_at hl 0 rfl) ?_
  refine lv_iload_n hx hb dX6_init_20 rfl (lv_at hl 1 rfl) ?_
  refine lv_iload_n hx hb dX6_init_21 rfl (lv_at hl 2 rfl) ?_
  refine lv_imul hx hb dX6_init_22 ?_
  refine g5_ti (v := 30) (by decide) ?_
  refine va_newa (D := G.1) (atype := .int) (ty := .int) hx hb (hts _ acl_I) rfl hK hP hD hS hA (n := 30) (N' := 30) (a0 := (30, .inl (fun _ => 0))) (fun _ => rfl) (by decide) (by decide) (by decide) (Nat.le_of_ble_eq_true rfl) (Nat.le_of_ble_eq_true rfl) dX6_init_23 (fun q1 cA H hKn hP hD hS => ?_)
  obtain rfl : cA = G.2 0 := g5_cI hKn
  refine g5_rs [(a0, .inr (6, [.int 6, .int 5, .null, .int 0])), (q1, (arI G 30 (fun _ => 0)))] hP hD (fun hP hD => ?_)
  refine W.widen (k := 1) (n := 30) (Nat.le_of_ble_eq_true rfl) (Nat.le_of_ble_eq_true rfl) ?_
  refine va_putF (D := G.1) (ci := 6) (v := .ref q1) (ty := .array .int) (C := RX6) (T := TX6) (N := 4) hx hb hts inG_X6 tyX6 tyX6_ok nmX6 hown hK hP hD hS 0 rfl rfl 2 (by decide) (hts _ fl_X6_21) (fun _ h9 => h9) rfl hin rfl (by decide +kernel) rfl rfl (Nat.le_of_ble_eq_true rfl) dX6_init_25 (fun H locs hP hD hS => ?_)
  refine g5_rs [(a0, (oc6 6 5 q1 0)), (q1, (arI G 30 (fun _ => 0)))] hP hD (fun hP hD => ?_)
  exact W.vret hx hb hr (fun t ht hW => ⟨⟨[(a0, (oc6 6 5 q1 0)), (q1, (arI G 30 (fun _ => 0)))], rfl, ⟨q1, rfl⟩, by rw [ht]; exact hP, hD⟩, hS.F ht⟩) hS.2.2 dX6_init_28
theorem cd_X6_init : Cond.code yX6_init cX6_init 3 none ∈ tblG := tg 131 (by decide +kernel) (by decide +kernel)
theorem gW_X6_init : GoodIn tblG (wsG yX6_init cX6_init 3 none) := tgi cd_X6_init
theorem ml_X1_36 : Cond.methodLink RX1 36 yX6_init ∈ tblG := tg 129 (by decide +kernel) (by decide +kernel)
theorem im_X6_init : Cond.instanceMethod yX6_init ∈ tblG := tg 130 (by decide +kernel) (by decide +kernel)
theorem hs_X6_init : yX6_init.cls ≠ "java/lang/invoke/MethodHandle" ∧ yX6_init.cls ≠ "java/lang/invoke/VarHandle" ∧ (parseMethodDescriptor yX6_init.desc).map (fun d => d.parameters.length) = some 2 := by decide +kernel
set_option maxHeartbeats 4000000 in
set_option maxRecDepth 100000 in
theorem kX6_init_2 (l : Launch) (G : g5_G) (a0 : Nat) (sz : Nat) : Met l yX6_init (wsG yX6_init cX6_init 3 none) ({ frames := 1, cells := 1, slots := 120, locals := 12 }) (va_Pc [.ref a0, .int 5, .int 24] (g5_P G [(a0, .inr (6, [.int 0, .int 0, .null, .int 0]))] sz)) (va_Qv (fun (u : va_W) => (∃ (q1 : Nat), (u = [(a0, (oc6 5 24 q1 0)), (q1, (arI G 120 (fun _ => 0)))]))) (g5_B G (va_A [(a0, .inr (6, [.int 0, .int 0, .null, .int 0]))] sz)) (va_A [(a0, .inr (6, [.int 0, .int 0, .null, .int 0]))] sz)) 1 120 (va_A [(a0, .inr (6, [.int 0, .int 0, .null, .int 0]))] sz) := by
  refine Met.ofW (cc := cX6_init) (maxL := 3) (ret := none) (by decide) rfl ?_
  intro p e s m args below meth c s₁ B hml hv
  obtain ⟨rfl, hsz, hP, hK, hD0, hN, hT⟩ := hv
  have hx := B.exec
  have hb := B.bytes
  have hr := B.returns
  have hts : ∀ w ∈ tblG, w.before _ s = true := fun w h => atoms_spec (ws := (wsG yX6_init cX6_init 3 none)) B.pre w (List.mem_cons_of_mem _ h)
  have hown : s.vm.findClass RX6 = some m.cls := findClass_of_methodNamed B.named
  have hlocks := B.notSynchronized
  have hin : meth.name = "<init>" := (name_of_methodNamed B.named B.method).1
  subst hsz
  have hD := hD0.self (sz := s.heap.size)
  generalize hAe : va_A [(a0, .inr (6, [.int 0, .int 0, .null, .int 0]))] s.heap.size = A at hD hT ⊢
  have hA : ∀ q : Nat, s.heap.size ≤ q → A q := fun q h => by rw [← hAe]; exact Or.inr h
  have hS : va_S A s.heap s.heap [] := va_S.rf
  have hP : va_P G.1 vwCl [(a0, .inr (6, [.int 0, .int 0, .null, .int 0]))] s.heap := hP
  have hl := lv_entry ([.ref a0, .int 5, .int 24]) (n := 3) (Nat.le_of_ble_eq_true rfl)
  rw [lg_entry_eq]
  generalize (lg_sl ([.ref a0, .int 5, .int 24]) ++ List.replicate (3 - (lg_sl ([.ref a0, .int 5, .int 24])).length) Slot.unset).toArray = ls at hl ⊢
  have hl : lv_has ls 3 [(0, .ref a0), (1, .int 5), (2, .int 24)] := hl
  refine lv_aload_n hx hb dX6_init_0 rfl (lv_at hl 0 rfl) ?_
  refine W.objInit hx hb hown (hts _ oi_X6_3) (hts _ oi_im) (hts _ oi_cd) rfl (by rw [hml]; exact hl.1) rfl dX6_init_1 (Nat.le_of_ble_eq_true rfl) (Nat.le_of_ble_eq_true rfl) ?_
  refine W.eq (g2 := F0 m 4 ls []) rfl ?_
  refine lv_aload_n hx hb dX6_init_4 rfl (lv_at hl 0 rfl) ?_
  refine lv_iconst (v := 0) hx hb dX6_init_5 (by decide) ?_
  refine va_put (D := G.1) (ci := 6) (v := .int 0) (ty := .int) (C := RX6) (T := TX6) (N := 4) hx hb hts inG_X6 tyX6 tyX6_ok nmX6 hown hK hP hD hS 0 rfl rfl 3 (by decide) (hts _ fl_X6_9) (fun _ h9 => h9) rfl (by decide +kernel) rfl rfl (Nat.le_of_ble_eq_true rfl) dX6_init_6 (fun H locs hP hD hS => ?_)
  refine g5_rs [(a0, .inr (6, [.int 0, .int 0, .null, .int 0]))] hP hD (fun hP hD => ?_)
  refine lv_aload_n hx hb dX6_init_9 rfl (lv_at hl 0 rfl) ?_
  refine lv_iload_n hx hb dX6_init_10 rfl (lv_at hl 1 rfl) ?_
  refine va_putF (D := G.1) (ci := 6) (v := .int 5) (ty := .int) (C := RX6) (T := TX6) (N := 4) hx hb hts inG_X6 tyX6 tyX6_ok nmX6 hown hK hP hD hS 0 rfl rfl 0 (by decide) (hts _ fl_X6_15) (fun _ h9 => h9) rfl hin rfl (by decide +kernel) rfl rfl (Nat.le_of_ble_eq_true rfl) dX6_init_11 (fun H locs hP hD hS => ?_)
  refine g5_rs [(a0, .inr (6, [.int 5, .int 0, .null, .int 0]))] hP hD (fun hP hD => ?_)
  refine lv_aload_n hx hb dX6_init_14 rfl (lv_at hl 0 rfl) ?_
  refine lv_iload_n hx hb dX6_init_15 rfl (lv_at hl 2 rfl) ?_
  refine va_putF (D := G.1) (ci := 6) (v := .int 24) (ty := .int) (C := RX6) (T := TX6) (N := 4) hx hb hts inG_X6 tyX6 tyX6_ok nmX6 hown hK hP hD hS 0 rfl rfl 1 (by decide) (hts _ fl_X6_18) (fun _ h9 => h9) rfl hin rfl (by decide +kernel) rfl rfl (Nat.le_of_ble_eq_true rfl) dX6_init_16 (fun H locs hP hD hS => ?_)
  refine g5_rs [(a0, .inr (6, [.int 5, .int 24, .null, .int 0]))] hP hD (fun hP hD => ?_)
  refine lv_aload_n hx hb dX6_init_19 rfl (lv_at hl 0 rfl) ?_
  refine lv_iload_n hx hb dX6_init_20 rfl (lv_at hl 1 rfl) ?_
  refine lv_iload_n hx hb dX6_init_21 rfl (lv_at hl 2 rfl) ?_
  refine lv_imul hx hb dX6_init_22 ?_
  refine g5_ti (v := 120) (by decide) ?_
  refine va_newa (D := G.1) (atype := .int) (ty := .int) hx hb (hts _ acl_I) rfl hK hP hD hS hA (n := 120) (N' := 120) (a0 := (120, .inl (fun _ => 0))) (fun _ => rfl) (by decide) (by decide) (by decide) (Nat.le_of_ble_eq_true rfl) (Nat.le_of_ble_eq_true rfl) dX6_init_23 (fun q1 cA H hKn hP hD hS => ?_)
  obtain rfl : cA = G.2 0 := g5_cI hKn
  refine g5_rs [(a0, .inr (6, [.int 5, .int 24, .null, .int 0])), (q1, (arI G 120 (fun _ => 0)))] hP hD (fun hP hD => ?_)
  refine W.widen (k := 1) (n := 120) (Nat.le_of_ble_eq_true rfl) (Nat.le_of_ble_eq_true rfl) ?_
  refine va_putF (D := G.1) (ci := 6) (v := .ref q1) (ty := .array .int) (C := RX6) (T := TX6) (N := 4) hx hb hts inG_X6 tyX6 tyX6_ok nmX6 hown hK hP hD hS 0 rfl rfl 2 (by decide) (hts _ fl_X6_21) (fun _ h9 => h9) rfl hin rfl (by decide +kernel) rfl rfl (Nat.le_of_ble_eq_true rfl) dX6_init_25 (fun H locs hP hD hS => ?_)
  refine g5_rs [(a0, (oc6 5 24 q1 0)), (q1, (arI G 120 (fun _ => 0)))] hP hD (fun hP hD => ?_)
  exact W.vret hx hb hr (fun t ht hW => ⟨⟨[(a0, (oc6 5 24 q1 0)), (q1, (arI G 120 (fun _ => 0)))], rfl, ⟨q1, rfl⟩, by rw [ht]; exact hP, hD⟩, hS.F ht⟩) hS.2.2 dX6_init_28
set_option maxHeartbeats 4000000 in
set_option maxRecDepth 100000 in
theorem kX6_init_3 (l : Launch) (G : g5_G) (a0 : Nat) (sz : Nat) : Met l yX6_init (wsG yX6_init cX6_init 3 none) ({ frames := 1, cells := 1, slots := 40, locals := 12 }) (va_Pc [.ref a0, .int 10, .int 4] (g5_P G [(a0, .inr (6, [.int 0, .int 0, .null, .int 0]))] sz)) (va_Qv (fun (u : va_W) => (∃ (q1 : Nat), (u = [(a0, (oc6 10 4 q1 0)), (q1, (arI G 40 (fun _ => 0)))]))) (g5_B G (va_A [(a0, .inr (6, [.int 0, .int 0, .null, .int 0]))] sz)) (va_A [(a0, .inr (6, [.int 0, .int 0, .null, .int 0]))] sz)) 1 40 (va_A [(a0, .inr (6, [.int 0, .int 0, .null, .int 0]))] sz) := by
  refine Met.ofW (cc := cX6_init) (maxL := 3) (ret := none) (by decide) rfl ?_
  intro p e s m args below meth c s₁ B hml hv
  obtain ⟨rfl, hsz, hP, hK, hD0, hN, hT⟩ := hv
  have hx := B.exec
  have hb := B.bytes
  have hr := B.returns
  have hts : ∀ w ∈ tblG, w.before _ s = true := fun w h => atoms_spec (ws := (wsG yX6_init cX6_init 3 none)) B.pre w (List.mem_cons_of_mem _ h)
  have hown : s.vm.findClass RX6 = some m.cls := findClass_of_methodNamed B.named
  have hlocks := B.notSynchronized
  have hin : meth.name = "<init>" := (name_of_methodNamed B.named B.method).1
  subst hsz
  have hD := hD0.self (sz := s.heap.size)
  generalize hAe : va_A [(a0, .inr (6, [.int 0, .int 0, .null, .int 0]))] s.heap.size = A at hD hT ⊢
  have hA : ∀ q : Nat, s.heap.size ≤ q → A q := fun q h => by rw [← hAe]; exact Or.inr h
  have hS : va_S A s.heap s.heap [] := va_S.rf
  have hP : va_P G.1 vwCl [(a0, .inr (6, [.int 0, .int 0, .null, .int 0]))] s.heap := hP
  have hl := lv_entry ([.ref a0, .int 10, .int 4]) (n := 3) (Nat.le_of_ble_eq_true rfl)
  rw [lg_entry_eq]
  generalize (lg_sl ([.ref a0, .int 10, .int 4]) ++ List.replicate (3 - (lg_sl ([.ref a0, .int 10, .int 4])).length) Slot.unset).toArray = ls at hl ⊢
  have hl : lv_has ls 3 [(0, .ref a0), (1, .int 10), (2, .int 4)] := hl
  refine lv_aload_n hx hb dX6_init_0 rfl (lv_at hl 0 rfl) ?_
  refine W.objInit hx hb hown (hts _ oi_X6_3) (hts _ oi_im) (hts _ oi_cd) rfl (by rw [hml]; exact hl.1) rfl dX6_init_1 (Nat.le_of_ble_eq_true rfl) (Nat.le_of_ble_eq_true rfl) ?_
  refine W.eq (g2 := F0 m 4 ls []) rfl ?_
  refine lv_aload_n hx hb dX6_init_4 rfl (lv_at hl 0 rfl) ?_
  refine lv_iconst (v := 0) hx hb dX6_init_5 (by decide) ?_
  refine va_put (D := G.1) (ci := 6) (v := .int 0) (ty := .int) (C := RX6) (T := TX6) (N := 4) hx hb hts inG_X6 tyX6 tyX6_ok nmX6 hown hK hP hD hS 0 rfl rfl 3 (by decide) (hts _ fl_X6_9) (fun _ h9 => h9) rfl (by decide +kernel) rfl rfl (Nat.le_of_ble_eq_true rfl) dX6_init_6 (fun H locs hP hD hS => ?_)
  refine g5_rs [(a0, .inr (6, [.int 0, .int 0, .null, .int 0]))] hP hD (fun hP hD => ?_)
  refine lv_aload_n hx hb dX6_init_9 rfl (lv_at hl 0 rfl) ?_
  refine lv_iload_n hx hb dX6_init_10 rfl (lv_at hl 1 rfl) ?_
  refine va_putF (D := G.1) (ci := 6) (v := .int 10) (ty := .int) (C := RX6) (T := TX6) (N := 4) hx hb hts inG_X6 tyX6 tyX6_ok nmX6 hown hK hP hD hS 0 rfl rfl 0 (by decide) (hts _ fl_X6_15) (fun _ h9 => h9) rfl hin rfl (by decide +kernel) rfl rfl (Nat.le_of_ble_eq_true rfl) dX6_init_11 (fun H locs hP hD hS => ?_)
  refine g5_rs [(a0, .inr (6, [.int 10, .int 0, .null, .int 0]))] hP hD (fun hP hD => ?_)
  refine lv_aload_n hx hb dX6_init_14 rfl (lv_at hl 0 rfl) ?_
  refine lv_iload_n hx hb dX6_init_15 rfl (lv_at hl 2 rfl) ?_
  refine va_putF (D := G.1) (ci := 6) (v := .int 4) (ty := .int) (C := RX6) (T := TX6) (N := 4) hx hb hts inG_X6 tyX6 tyX6_ok nmX6 hown hK hP hD hS 0 rfl rfl 1 (by decide) (hts _ fl_X6_18) (fun _ h9 => h9) rfl hin rfl (by decide +kernel) rfl rfl (Nat.le_of_ble_eq_true rfl) dX6_init_16 (fun H locs hP hD hS => ?_)
  refine g5_rs [(a0, .inr (6, [.int 10, .int 4, .null, .int 0]))] hP hD (fun hP hD => ?_)
  refine lv_aload_n hx hb dX6_init_19 rfl (lv_at hl 0 rfl) ?_
  refine lv_iload_n hx hb dX6_init_20 rfl (lv_at hl 1 rfl) ?_
  refine lv_iload_n hx hb dX6_init_21 rfl (lv_at hl 2 rfl) ?_
  refine lv_imul hx hb dX6_init_22 ?_
  refine g5_ti (v := 40) (by decide) ?_
  refine va_newa (D := G.1) (atype := .int) (ty := .int) hx hb (hts _ acl_I) rfl hK hP hD hS hA (n := 40) (N' := 40) (a0 := (40, .inl (fun _ => 0))) (fun _ => rfl) (by decide) (by decide) (by decide) (Nat.le_of_ble_eq_true rfl) (Nat.le_of_ble_eq_true rfl) dX6_init_23 (fun q1 cA H hKn hP hD hS => ?_)
  obtain rfl : cA = G.2 0 := g5_cI hKn
  refine g5_rs [(a0, .inr (6, [.int 10, .int 4, .null, .int 0])), (q1, (arI G 40 (fun _ => 0)))] hP hD (fun hP hD => ?_)
  refine W.widen (k := 1) (n := 40) (Nat.le_of_ble_eq_true rfl) (Nat.le_of_ble_eq_true rfl) ?_
  refine va_putF (D := G.1) (ci := 6) (v := .ref q1) (ty := .array .int) (C := RX6) (T := TX6) (N := 4) hx hb hts inG_X6 tyX6 tyX6_ok nmX6 hown hK hP hD hS 0 rfl rfl 2 (by decide) (hts _ fl_X6_21) (fun _ h9 => h9) rfl hin rfl (by decide +kernel) rfl rfl (Nat.le_of_ble_eq_true rfl) dX6_init_25 (fun H locs hP hD hS => ?_)
  refine g5_rs [(a0, (oc6 10 4 q1 0)), (q1, (arI G 40 (fun _ => 0)))] hP hD (fun hP hD => ?_)
  exact W.vret hx hb hr (fun t ht hW => ⟨⟨[(a0, (oc6 10 4 q1 0)), (q1, (arI G 40 (fun _ => 0)))], rfl, ⟨q1, rfl⟩, by rw [ht]; exact hP, hD⟩, hS.F ht⟩) hS.2.2 dX6_init_28
set_option maxHeartbeats 4000000 in
set_option maxRecDepth 100000 in
theorem kX6_init_4 (l : Launch) (G : g5_G) (a0 : Nat) (sz : Nat) : Met l yX6_init (wsG yX6_init cX6_init 3 none) ({ frames := 1, cells := 1, slots := 40, locals := 12 }) (va_Pc [.ref a0, .int 8, .int 5] (g5_P G [(a0, .inr (6, [.int 0, .int 0, .null, .int 0]))] sz)) (va_Qv (fun (u : va_W) => (∃ (q1 : Nat), (u = [(a0, (oc6 8 5 q1 0)), (q1, (arI G 40 (fun _ => 0)))]))) (g5_B G (va_A [(a0, .inr (6, [.int 0, .int 0, .null, .int 0]))] sz)) (va_A [(a0, .inr (6, [.int 0, .int 0, .null, .int 0]))] sz)) 1 40 (va_A [(a0, .inr (6, [.int 0, .int 0, .null, .int 0]))] sz) := by
  refine Met.ofW (cc := cX6_init) (maxL := 3) (ret := none) (by decide) rfl ?_
  intro p e s m args below meth c s₁ B hml hv
  obtain ⟨rfl, hsz, hP, hK, hD0, hN, hT⟩ := hv
  have hx := B.exec
  have hb := B.bytes
  have hr := B.returns
  have hts : ∀ w ∈ tblG, w.before _ s = true := fun w h => atoms_spec (ws := (wsG yX6_init cX6_init 3 none)) B.pre w (List.mem_cons_of_mem _ h)
  have hown : s.vm.findClass RX6 = some m.cls := findClass_of_methodNamed B.named
  have hlocks := B.notSynchronized
  have hin : meth.name = "<init>" := (name_of_methodNamed B.named B.method).1
  subst hsz
  have hD := hD0.self (sz := s.heap.size)
  generalize hAe : va_A [(a0, .inr (6, [.int 0, .int 0, .null, .int 0]))] s.heap.size = A at hD hT ⊢
  have hA : ∀ q : Nat, s.heap.size ≤ q → A q := fun q h => by rw [← hAe]; exact Or.inr h
  have hS : va_S A s.heap s.heap [] := va_S.rf
  have hP : va_P G.1 vwCl [(a0, .inr (6, [.int 0, .int 0, .null, .int 0]))] s.heap := hP
  have hl := lv_entry ([.ref a0, .int 8, .int 5]) (n := 3) (Nat.le_of_ble_eq_true rfl)
  rw [lg_entry_eq]
  generalize (lg_sl ([.ref a0, .int 8, .int 5]) ++ List.replicate (3 - (lg_sl ([.ref a0, .int 8, .int 5])).length) Slot.unset).toArray = ls at hl ⊢
  have hl : lv_has ls 3 [(0, .ref a0), (1, .int 8), (2, .int 5)] := hl
  refine lv_aload_n hx hb dX6_init_0 rfl (lv_at hl 0 rfl) ?_
  refine W.objInit hx hb hown (hts _ oi_X6_3) (hts _ oi_im) (hts _ oi_cd) rfl (by rw [hml]; exact hl.1) rfl dX6_init_1 (Nat.le_of_ble_eq_true rfl) (Nat.le_of_ble_eq_true rfl) ?_
  refine W.eq (g2 := F0 m 4 ls []) rfl ?_
  refine lv_aload_n hx hb dX6_init_4 rfl (lv_at hl 0 rfl) ?_
  refine lv_iconst (v := 0) hx hb dX6_init_5 (by decide) ?_
  refine va_put (D := G.1) (ci := 6) (v := .int 0) (ty := .int) (C := RX6) (T := TX6) (N := 4) hx hb hts inG_X6 tyX6 tyX6_ok nmX6 hown hK hP hD hS 0 rfl rfl 3 (by decide) (hts _ fl_X6_9) (fun _ h9 => h9) rfl (by decide +kernel) rfl rfl (Nat.le_of_ble_eq_true rfl) dX6_init_6 (fun H locs hP hD hS => ?_)
  refine g5_rs [(a0, .inr (6, [.int 0, .int 0, .null, .int 0]))] hP hD (fun hP hD => ?_)
  refine lv_aload_n hx hb dX6_init_9 rfl (lv_at hl 0 rfl) ?_
  refine lv_iload_n hx hb dX6_init_10 rfl (lv_at hl 1 rfl) ?_
  refine va_putF (D := G.1) (ci := 6) (v := .int 8) (ty := .int) (C := RX6) (T := TX6) (N := 4) hx hb hts inG_X6 tyX6 tyX6_ok nmX6 hown hK hP hD hS 0 rfl rfl 0 (by decide) (hts _ fl_X6_15) (fun _ h9 => h9) rfl hin rfl (by decide +kernel) rfl rfl (Nat.le_of_ble_eq_true rfl) dX6_init_11 (fun H locs hP hD hS => ?_)
  refine g5_rs [(a0, .inr (6, [.int 8, .int 0, .null, .int 0]))] hP hD (fun hP hD => ?_)
  refine lv_aload_n hx hb dX6_init_14 rfl (lv_at hl 0 rfl) ?_
  refine lv_iload_n hx hb dX6_init_15 rfl (lv_at hl 2 rfl) ?_
  refine va_putF (D := G.1) (ci := 6) (v := .int 5) (ty := .int) (C := RX6) (T := TX6) (N := 4) hx hb hts inG_X6 tyX6 tyX6_ok nmX6 hown hK hP hD hS 0 rfl rfl 1 (by decide) (hts _ fl_X6_18) (fun _ h9 => h9) rfl hin rfl (by decide +kernel) rfl rfl (Nat.le_of_ble_eq_true rfl) dX6_init_16 (fun H locs hP hD hS => ?_)
  refine g5_rs [(a0, .inr (6, [.int 8, .int 5, .null, .int 0]))] hP hD (fun hP hD => ?_)
  refine lv_aload_n hx hb dX6_init_19 rfl (lv_at hl 0 rfl) ?_
  refine lv_iload_n hx hb dX6_init_20 rfl (lv_at hl 1 rfl) ?_
  refine lv_iload_n hx hb dX6_init_21 rfl (lv_at hl 2 rfl) ?_
  refine lv_imul hx hb dX6_init_22 ?_
  refine g5_ti (v := 40) (by decide) ?_
  refine va_newa (D := G.1) (atype := .int) (ty := .int) hx hb (hts _ acl_I) rfl hK hP hD hS hA (n := 40) (N' := 40) (a0 := (40, .inl (fun _ => 0))) (fun _ => rfl) (by decide) (by decide) (by decide) (Nat.le_of_ble_eq_true rfl) (Nat.le_of_ble_eq_true rfl) dX6_init_23 (fun q1 cA H hKn hP hD hS => ?_)
  obtain rfl : cA = G.2 0 := g5_cI hKn
  refine g5_rs [(a0, .inr (6, [.int 8, .int 5, .null, .int 0])), (q1, (arI G 40 (fun _ => 0)))] hP hD (fun hP hD => ?_)
  refine W.widen (k := 1) (n := 40) (Nat.le_of_ble_eq_true rfl) (Nat.le_of_ble_eq_true rfl) ?_
  refine va_putF (D := G.1) (ci := 6) (v := .ref q1) (ty := .array .int) (C := RX6) (T := TX6) (N := 4) hx hb hts inG_X6 tyX6 tyX6_ok nmX6 hown hK hP hD hS 0 rfl rfl 2 (by decide) (hts _ fl_X6_21) (fun _ h9 => h9) rfl hin rfl (by decide +kernel) rfl rfl (Nat.le_of_ble_eq_true rfl) dX6_init_25 (fun H locs hP hD hS => ?_)
  refine g5_rs [(a0, (oc6 8 5 q1 0)), (q1, (arI G 40 (fun _ => 0)))] hP hD (fun hP hD => ?_)
  exact W.vret hx hb hr (fun t ht hW => ⟨⟨[(a0, (oc6 8 5 q1 0)), (q1, (arI G 40 (fun _ => 0)))], rfl, ⟨q1, rfl⟩, by rw [ht]; exact hP, hD⟩, hS.F ht⟩) hS.2.2 dX6_init_28
set_option maxHeartbeats 4000000 in
set_option maxRecDepth 100000 in
theorem kX6_init_5 (l : Launch) (G : g5_G) (a0 : Nat) (sz : Nat) : Met l yX6_init (wsG yX6_init cX6_init 3 none) ({ frames := 1, cells := 1, slots := 36, locals := 12 }) (va_Pc [.ref a0, .int 6, .int 6] (g5_P G [(a0, .inr (6, [.int 0, .int 0, .null, .int 0]))] sz)) (va_Qv (fun (u : va_W) => (∃ (q1 : Nat), (u = [(a0, (oc6 6 6 q1 0)), (q1, (arI G 36 (fun _ => 0)))]))) (g5_B G (va_A [(a0, .inr (6, [.int 0, .int 0, .null, .int 0]))] sz)) (va_A [(a0, .inr (6, [.int 0, .int 0, .null, .int 0]))] sz)) 1 36 (va_A [(a0, .inr (6, [.int 0, .int 0, .null, .int 0]))] sz) := by
  refine Met.ofW (cc := cX6_init) (maxL := 3) (ret := none) (by decide) rfl ?_
  intro p e s m args below meth c s₁ B hml hv
  obtain ⟨rfl, hsz, hP, hK, hD0, hN, hT⟩ := hv
  have hx := B.exec
  have hb := B.bytes
  have hr := B.returns
  have hts : ∀ w ∈ tblG, w.before _ s = true := fun w h => atoms_spec (ws := (wsG yX6_init cX6_init 3 none)) B.pre w (List.mem_cons_of_mem _ h)
  have hown : s.vm.findClass RX6 = some m.cls := findClass_of_methodNamed B.named
  have hlocks := B.notSynchronized
  have hin : meth.name = "<init>" := (name_of_methodNamed B.named B.method).1
  subst hsz
  have hD := hD0.self (sz := s.heap.size)
  generalize hAe : va_A [(a0, .inr (6, [.int 0, .int 0, .null, .int 0]))] s.heap.size = A at hD hT ⊢
  have hA : ∀ q : Nat, s.heap.size ≤ q → A q := fun q h => by rw [← hAe]; exact Or.inr h
  have hS : va_S A s.heap s.heap [] := va_S.rf
  have hP : va_P G.1 vwCl [(a0, .inr (6, [.int 0, .int 0, .null, .int 0]))] s.heap := hP
  have hl := lv_entry ([.ref a0, .int 6, .int 6]) (n := 3) (Nat.le_of_ble_eq_true rfl)
  rw [lg_entry_eq]
  generalize (lg_sl ([.ref a0, .int 6, .int 6]) ++ List.replicate (3 - (lg_sl ([.ref a0, .int 6, .int 6])).length) Slot.unset).toArray = ls at hl ⊢
  have hl : lv_has ls 3 [(0, .ref a0), (1, .int 6), (2, .int 6)] := hl
  refine lv_aload_n hx hb dX6_init_0 rfl (lv_at hl 0 rfl) ?_
  refine W.objInit hx hb hown (hts _ oi_X6_3) (hts _ oi_im) (hts _ oi_cd) rfl (by rw [hml]; exact hl.1) rfl dX6_init_1 (Nat.le_of_ble_eq_true rfl) (Nat.le_of_ble_eq_true rfl) ?_
  refine W.eq (g2 := F0 m 4 ls []) rfl ?_
  refine lv_aload_n hx hb dX6_init_4 rfl (lv_at hl 0 rfl) ?_
  refine lv_iconst (v := 0) hx hb dX6_init_5 (by decide) ?_
  refine va_put (D := G.1) (ci := 6) (v := .int 0) (ty := .int) (C := RX6) (T := TX6) (N := 4) hx hb hts inG_X6 tyX6 tyX6_ok nmX6 hown hK hP hD hS 0 rfl rfl 3 (by decide) (hts _ fl_X6_9) (fun _ h9 => h9) rfl (by decide +kernel) rfl rfl (Nat.le_of_ble_eq_true rfl) dX6_init_6 (fun H locs hP hD hS => ?_)
  refine g5_rs [(a0, .inr (6, [.int 0, .int 0, .null, .int 0]))] hP hD (fun hP hD => ?_)
  refine lv_aload_n hx hb dX6_init_9 rfl (lv_at hl 0 rfl) ?_
  refine lv_iload_n hx hb dX6_init_10 rfl (lv_at hl 1 rfl) ?_
  refine va_putF (D := G.1) (ci := 6) (v := .int 6) (ty := .int) (C := RX6) (T := TX6) (N := 4) hx hb hts inG_X6 tyX6 tyX6_ok nmX6 hown hK hP hD hS 0 rfl rfl 0 (by decide) (hts _ fl_X6_15) (fun _ h9 => h9) rfl hin rfl (by decide +kernel) rfl rfl (Nat.le_of_ble_eq_true rfl) dX6_init_11 (fun H locs hP hD hS => ?_)
  refine g5_rs [(a0, .inr (6, [.int 6, .int 0, .null, .int 0]))] hP hD (fun hP hD => ?_)
  refine lv_aload_n hx hb dX6_init_14 rfl (lv_at hl 0 rfl) ?_
  refine lv_iload_n hx hb dX6_init_15 rfl (lv_at hl 2 rfl) ?_
  refine va_putF (D := G.1) (ci := 6) (v := .int 6) (ty := .int) (C := RX6) (T := TX6) (N := 4) hx hb hts inG_X6 tyX6 tyX6_ok nmX6 hown hK hP hD hS 0 rfl rfl 1 (by decide) (hts _ fl_X6_18) (fun _ h9 => h9) rfl hin rfl (by decide +kernel) rfl rfl (Nat.le_of_ble_eq_true rfl) dX6_init_16 (fun H locs hP hD hS => ?_)
  refine g5_rs [(a0, .inr (6, [.int 6, .int 6, .null, .int 0]))] hP hD (fun hP hD => ?_)
  refine lv_aload_n hx hb dX6_init_19 rfl (lv_at hl 0 rfl) ?_
  refine lv_iload_n hx hb dX6_init_20 rfl (lv_at hl 1 rfl) ?_
  refine lv_iload_n hx hb dX6_init_21 rfl (lv_at hl 2 rfl) ?_
  refine lv_imul hx hb dX6_init_22 ?_
  refine g5_ti (v := 36) (by decide) ?_
  refine va_newa (D := G.1) (atype := .int) (ty := .int) hx hb (hts _ acl_I) rfl hK hP hD hS hA (n := 36) (N' := 36) (a0 := (36, .inl (fun _ => 0))) (fun _ => rfl) (by decide) (by decide) (by decide) (Nat.le_of_ble_eq_true rfl) (Nat.le_of_ble_eq_true rfl) dX6_init_23 (fun q1 cA H hKn hP hD hS => ?_)
  obtain rfl : cA = G.2 0 := g5_cI hKn
  refine g5_rs [(a0, .inr (6, [.int 6, .int 6, .null, .int 0])), (q1, (arI G 36 (fun _ => 0)))] hP hD (fun hP hD => ?_)
  refine W.widen (k := 1) (n := 36) (Nat.le_of_ble_eq_true rfl) (Nat.le_of_ble_eq_true rfl) ?_
  refine va_putF (D := G.1) (ci := 6) (v := .ref q1) (ty := .array .int) (C := RX6) (T := TX6) (N := 4) hx hb hts inG_X6 tyX6 tyX6_ok nmX6 hown hK hP hD hS 0 rfl rfl 2 (by decide) (hts _ fl_X6_21) (fun _ h9 => h9) rfl hin rfl (by decide +kernel) rfl rfl (Nat.le_of_ble_eq_true rfl) dX6_init_25 (fun H locs hP hD hS => ?_)
  refine g5_rs [(a0, (oc6 6 6 q1 0)), (q1, (arI G 36 (fun _ => 0)))] hP hD (fun hP hD => ?_)
  exact W.vret hx hb hr (fun t ht hW => ⟨⟨[(a0, (oc6 6 6 q1 0)), (q1, (arI G 36 (fun _ => 0)))], rfl, ⟨q1, rfl⟩, by rw [ht]; exact hP, hD⟩, hS.F ht⟩) hS.2.2 dX6_init_28
theorem dgX1_init_0 : ∀ r ∈ ([(0, (.aload_n 0, 1)), (1, (.invokespecial 3, 3)), (4, (.aload_n 0, 1)), (5, (.lconst 0, 1)), (6, (.putfield 9, 3)), (9, (.aload_n 0, 1)), (10, (.sipush 1000, 3)), (13, (.putfield 15, 3)), (16, (.aload_n 0, 1)), (17, (.iconst (-1), 1)), (18, (.putfield 19, 3)), (21, (.aload_n 0, 1)), (22, (.iconst (-1), 1)), (23, (.putfield 22, 3)), (26, (.aload_n 0, 1)), (27, (.iconst 0, 1)), (28, (.putfield 25, 3)), (31, (.aload_n 0, 1)), (32, (.bipush 6, 2)), (34, (.anewarray 28, 3)), (37, (.putfield 30, 3)), (40, (.aload_n 0, 1)), (41, (.new 34, 3)), (44, (.dup, 1)), (45, (.bipush 6, 2)), (47, (.iconst 5, 1)), (48, (.invokespecial 36, 3)), (51, (.putfield 39, 3)), (54, (.aload_n 0, 1)), (55, (.new 34, 3)), (58, (.dup, 1)), (59, (.iconst 5, 1)), (60, (.bipush 24, 2)), (62, (.invokespecial 36, 3)), (65, (.putfield 43, 3)), (68, (.aload_n 0, 1)), (69, (.new 34, 3)), (72, (.dup, 1)), (73, (.bipush 10, 2)), (75, (.iconst 4, 1))] : List (Nat × (Instr × Nat))), decode cX1_init r.1 = .ok r.2 := by decide +kernel
theorem dX1_init_0 : decode cX1_init 0 = .ok (.aload_n 0, 1) := dgX1_init_0 (0, (.aload_n 0, 1)) (List.mem_of_getElem? (i := 0) rfl)
theorem dX1_init_1 : decode cX1_init 1 = .ok (.invokespecial 3, 3) := dgX1_init_0 (1, (.invokespecial 3, 3)) (List.mem_of_getElem? (i := 1) rfl)
theorem dX1_init_4 : decode cX1_init 4 = .ok (.aload_n 0, 1) := dgX1_init_0 (4, (.aload_n 0, 1)) (List.mem_of_getElem? (i := 2) rfl)
theorem dX1_init_5 : decode cX1_init 5 = .ok (.lconst 0, 1) := dgX1_init_0 (5, (.lconst 0, 1)) (List.mem_of_getElem? (i := 3) rfl)
theorem dX1_init_6 : decode cX1_init 6 = .ok (.putfield 9, 3) := dgX1_init_0 (6, (.putfield 9, 3)) (List.mem_of_getElem? (i := 4) rfl)
theorem dX1_init_9 : decode cX1_init 9 = .ok (.aload_n 0, 1) := dgX1_init_0 (9, (.aload_n 0, 1)) (List.mem_of_getElem? (i := 5) rfl)
theorem dX1_init_10 : decode cX1_init 10 = .ok (.sipush 1000, 3) := dgX1_init_0 (10, (.sipush 1000, 3)) (List.mem_of_getElem? (i := 6) rfl)
theorem dX1_init_13 : decode cX1_init 13 = .ok (.putfield 15, 3) := dgX1_init_0 (13, (.putfield 15, 3)) (List.mem_of_getElem? (i := 7) rfl)
theorem dX1_init_16 : decode cX1_init 16 = .ok (.aload_n 0, 1) := dgX1_init_0 (16, (.aload_n 0, 1)) (List.mem_of_getElem? (i := 8) rfl)
theorem dX1_init_17 : decode cX1_init 17 = .ok (.iconst (-1), 1) := dgX1_init_0 (17, (.iconst (-1), 1)) (List.mem_of_getElem? (i := 9) rfl)
theorem dX1_init_18 : decode cX1_init 18 = .ok (.putfield 19, 3) := dgX1_init_0 (18, (.putfield 19, 3)) (List.mem_of_getElem? (i := 10) rfl)
theorem dX1_init_21 : decode cX1_init 21 = .ok (.aload_n 0, 1) := dgX1_init_0 (21, (.aload_n 0, 1)) (List.mem_of_getElem? (i := 11) rfl)
theorem dX1_init_22 : decode cX1_init 22 = .ok (.iconst (-1), 1) := dgX1_init_0 (22, (.iconst (-1), 1)) (List.mem_of_getElem? (i := 12) rfl)
theorem dX1_init_23 : decode cX1_init 23 = .ok (.putfield 22, 3) := dgX1_init_0 (23, (.putfield 22, 3)) (List.mem_of_getElem? (i := 13) rfl)
theorem dX1_init_26 : decode cX1_init 26 = .ok (.aload_n 0, 1) := dgX1_init_0 (26, (.aload_n 0, 1)) (List.mem_of_getElem? (i := 14) rfl)
theorem dX1_init_27 : decode cX1_init 27 = .ok (.iconst 0, 1) := dgX1_init_0 (27, (.iconst 0, 1)) (List.mem_of_getElem? (i := 15) rfl)
theorem dX1_init_28 : decode cX1_init 28 = .ok (.putfield 25, 3) := dgX1_init_0 (28, (.putfield 25, 3)) (List.mem_of_getElem? (i := 16) rfl)
theorem dX1_init_31 : decode cX1_init 31 = .ok (.aload_n 0, 1) := dgX1_init_0 (31, (.aload_n 0, 1)) (List.mem_of_getElem? (i := 17) rfl)
theorem dX1_init_32 : decode cX1_init 32 = .ok (.bipush 6, 2) := dgX1_init_0 (32, (.bipush 6, 2)) (List.mem_of_getElem? (i := 18) rfl)
theorem dX1_init_34 : decode cX1_init 34 = .ok (.anewarray 28, 3) := dgX1_init_0 (34, (.anewarray 28, 3)) (List.mem_of_getElem? (i := 19) rfl)
theorem dX1_init_37 : decode cX1_init 37 = .ok (.putfield 30, 3) := dgX1_init_0 (37, (.putfield 30, 3)) (List.mem_of_getElem? (i := 20) rfl)
theorem dX1_init_40 : decode cX1_init 40 = .ok (.aload_n 0, 1) := dgX1_init_0 (40, (.aload_n 0, 1)) (List.mem_of_getElem? (i := 21) rfl)
theorem dX1_init_41 : decode cX1_init 41 = .ok (.new 34, 3) := dgX1_init_0 (41, (.new 34, 3)) (List.mem_of_getElem? (i := 22) rfl)
theorem dX1_init_44 : decode cX1_init 44 = .ok (.dup, 1) := dgX1_init_0 (44, (.dup, 1)) (List.mem_of_getElem? (i := 23) rfl)
theorem dX1_init_45 : decode cX1_init 45 = .ok (.bipush 6, 2) := dgX1_init_0 (45, (.bipush 6, 2)) (List.mem_of_getElem? (i := 24) rfl)
theorem dX1_init_47 : decode cX1_init 47 = .ok (.iconst 5, 1) := dgX1_init_0 (47, (.iconst 5, 1)) (List.mem_of_getElem? (i := 25) rfl)
theorem dX1_init_48 : decode cX1_init 48 = .ok (.invokespecial 36, 3) := dgX1_init_0 (48, (.invokespecial 36, 3)) (List.mem_of_getElem? (i := 26) rfl)
theorem dX1_init_51 : decode cX1_init 51 = .ok (.putfield 39, 3) := dgX1_init_0 (51, (.putfield 39, 3)) (List.mem_of_getElem? (i := 27) rfl)
theorem dX1_init_54 : decode cX1_init 54 = .ok (.aload_n 0, 1) := dgX1_init_0 (54, (.aload_n 0, 1)) (List.mem_of_getElem? (i := 28) rfl)
theorem dX1_init_55 : decode cX1_init 55 = .ok (.new 34, 3) := dgX1_init_0 (55, (.new 34, 3)) (List.mem_of_getElem? (i := 29) rfl)
theorem dX1_init_58 : decode cX1_init 58 = .ok (.dup, 1) := dgX1_init_0 (58, (.dup, 1)) (List.mem_of_getElem? (i := 30) rfl)
theorem dX1_init_59 : decode cX1_init 59 = .ok (.iconst 5, 1) := dgX1_init_0 (59, (.iconst 5, 1)) (List.mem_of_getElem? (i := 31) rfl)
theorem dX1_init_60 : decode cX1_init 60 = .ok (.bipush 24, 2) := dgX1_init_0 (60, (.bipush 24, 2)) (List.mem_of_getElem? (i := 32) rfl)
theorem dX1_init_62 : decode cX1_init 62 = .ok (.invokespecial 36, 3) := dgX1_init_0 (62, (.invokespecial 36, 3)) (List.mem_of_getElem? (i := 33) rfl)
theorem dX1_init_65 : decode cX1_init 65 = .ok (.putfield 43, 3) := dgX1_init_0 (65, (.putfield 43, 3)) (List.mem_of_getElem? (i := 34) rfl)
theorem dX1_init_68 : decode cX1_init 68 = .ok (.aload_n 0, 1) := dgX1_init_0 (68, (.aload_n 0, 1)) (List.mem_of_getElem? (i := 35) rfl)
theorem dX1_init_69 : decode cX1_init 69 = .ok (.new 34, 3) := dgX1_init_0 (69, (.new 34, 3)) (List.mem_of_getElem? (i := 36) rfl)
theorem dX1_init_72 : decode cX1_init 72 = .ok (.dup, 1) := dgX1_init_0 (72, (.dup, 1)) (List.mem_of_getElem? (i := 37) rfl)
theorem dX1_init_73 : decode cX1_init 73 = .ok (.bipush 10, 2) := dgX1_init_0 (73, (.bipush 10, 2)) (List.mem_of_getElem? (i := 38) rfl)
theorem dX1_init_75 : decode cX1_init 75 = .ok (.iconst 4, 1) := dgX1_init_0 (75, (.iconst 4, 1)) (List.mem_of_getElem? (i := 39) rfl)
theorem dgX1_init_1 : ∀ r ∈ ([(76, (.invokespecial 36, 3)), (79, (.putfield 46, 3)), (82, (.aload_n 0, 1)), (83, (.new 34, 3)), (86, (.dup, 1)), (87, (.bipush 8, 2)), (89, (.iconst 5, 1)), (90, (.invokespecial 36, 3)), (93, (.putfield 49, 3)), (96, (.aload_n 0, 1)), (97, (.new 34, 3)), (100, (.dup, 1)), (101, (.bipush 6, 2)), (103, (.bipush 6, 2)), (105, (.invokespecial 36, 3)), (108, (.putfield 52, 3)), (111, (.aload_n 0, 1)), (112, (.lconst 0, 1)), (113, (.putfield 55, 3)), (116, (.aload_n 0, 1)), (117, (.bipush 24, 2)), (119, (.newarray .long, 2)), (121, (.putfield 58, 3)), (124, (.return_, 1))] : List (Nat × (Instr × Nat))), decode cX1_init r.1 = .ok r.2 := by decide +kernel
theorem dX1_init_76 : decode cX1_init 76 = .ok (.invokespecial 36, 3) := dgX1_init_1 (76, (.invokespecial 36, 3)) (List.mem_of_getElem? (i := 0) rfl)
theorem dX1_init_79 : decode cX1_init 79 = .ok (.putfield 46, 3) := dgX1_init_1 (79, (.putfield 46, 3)) (List.mem_of_getElem? (i := 1) rfl)
theorem dX1_init_82 : decode cX1_init 82 = .ok (.aload_n 0, 1) := dgX1_init_1 (82, (.aload_n 0, 1)) (List.mem_of_getElem? (i := 2) rfl)
theorem dX1_init_83 : decode cX1_init 83 = .ok (.new 34, 3) := dgX1_init_1 (83, (.new 34, 3)) (List.mem_of_getElem? (i := 3) rfl)
theorem dX1_init_86 : decode cX1_init 86 = .ok (.dup, 1) := dgX1_init_1 (86, (.dup, 1)) (List.mem_of_getElem? (i := 4) rfl)
theorem dX1_init_87 : decode cX1_init 87 = .ok (.bipush 8, 2) := dgX1_init_1 (87, (.bipush 8, 2)) (List.mem_of_getElem? (i := 5) rfl)
theorem dX1_init_89 : decode cX1_init 89 = .ok (.iconst 5, 1) := dgX1_init_1 (89, (.iconst 5, 1)) (List.mem_of_getElem? (i := 6) rfl)
theorem dX1_init_90 : decode cX1_init 90 = .ok (.invokespecial 36, 3) := dgX1_init_1 (90, (.invokespecial 36, 3)) (List.mem_of_getElem? (i := 7) rfl)
theorem dX1_init_93 : decode cX1_init 93 = .ok (.putfield 49, 3) := dgX1_init_1 (93, (.putfield 49, 3)) (List.mem_of_getElem? (i := 8) rfl)
theorem dX1_init_96 : decode cX1_init 96 = .ok (.aload_n 0, 1) := dgX1_init_1 (96, (.aload_n 0, 1)) (List.mem_of_getElem? (i := 9) rfl)
theorem dX1_init_97 : decode cX1_init 97 = .ok (.new 34, 3) := dgX1_init_1 (97, (.new 34, 3)) (List.mem_of_getElem? (i := 10) rfl)
theorem dX1_init_100 : decode cX1_init 100 = .ok (.dup, 1) := dgX1_init_1 (100, (.dup, 1)) (List.mem_of_getElem? (i := 11) rfl)
theorem dX1_init_101 : decode cX1_init 101 = .ok (.bipush 6, 2) := dgX1_init_1 (101, (.bipush 6, 2)) (List.mem_of_getElem? (i := 12) rfl)
theorem dX1_init_103 : decode cX1_init 103 = .ok (.bipush 6, 2) := dgX1_init_1 (103, (.bipush 6, 2)) (List.mem_of_getElem? (i := 13) rfl)
theorem dX1_init_105 : decode cX1_init 105 = .ok (.invokespecial 36, 3) := dgX1_init_1 (105, (.invokespecial 36, 3)) (List.mem_of_getElem? (i := 14) rfl)
theorem dX1_init_108 : decode cX1_init 108 = .ok (.putfield 52, 3) := dgX1_init_1 (108, (.putfield 52, 3)) (List.mem_of_getElem? (i := 15) rfl)
theorem dX1_init_111 : decode cX1_init 111 = .ok (.aload_n 0, 1) := dgX1_init_1 (111, (.aload_n 0, 1)) (List.mem_of_getElem? (i := 16) rfl)
theorem dX1_init_112 : decode cX1_init 112 = .ok (.lconst 0, 1) := dgX1_init_1 (112, (.lconst 0, 1)) (List.mem_of_getElem? (i := 17) rfl)
theorem dX1_init_113 : decode cX1_init 113 = .ok (.putfield 55, 3) := dgX1_init_1 (113, (.putfield 55, 3)) (List.mem_of_getElem? (i := 18) rfl)
theorem dX1_init_116 : decode cX1_init 116 = .ok (.aload_n 0, 1) := dgX1_init_1 (116, (.aload_n 0, 1)) (List.mem_of_getElem? (i := 19) rfl)
theorem dX1_init_117 : decode cX1_init 117 = .ok (.bipush 24, 2) := dgX1_init_1 (117, (.bipush 24, 2)) (List.mem_of_getElem? (i := 20) rfl)
theorem dX1_init_119 : decode cX1_init 119 = .ok (.newarray .long, 2) := dgX1_init_1 (119, (.newarray .long, 2)) (List.mem_of_getElem? (i := 21) rfl)
theorem dX1_init_121 : decode cX1_init 121 = .ok (.putfield 58, 3) := dgX1_init_1 (121, (.putfield 58, 3)) (List.mem_of_getElem? (i := 22) rfl)
theorem dX1_init_124 : decode cX1_init 124 = .ok (.return_, 1) := dgX1_init_1 (124, (.return_, 1)) (List.mem_of_getElem? (i := 23) rfl)
set_option maxHeartbeats 4000000 in
set_option maxRecDepth 100000 in
theorem kX1_init (l : Launch) (G : g5_G) (a0 : Nat) (sz : Nat) : Met l yX1_init (wsG yX1_init cX1_init 1 none) ({ frames := 2, cells := 12, slots := 316, locals := 34 }) (va_Pc [.ref a0] (g5_P G [(a0, .inr (1, [.long 0, .int 0, .int 0, .int 0, .int 0, .null, .null, .null, .null, .null, .null, .long 0, .null]))] sz)) (va_Qv (fun (u : va_W) => (∃ (q1 : Nat) (q2 : Nat) (q3 : Nat) (q4 : Nat) (q5 : Nat) (q6 : Nat) (q7 : Nat) (q8 : Nat) (q9 : Nat) (q10 : Nat) (q11 : Nat) (q12 : Nat), (u = [(a0, (oc1 0 1000 (-1) (-1) 0 q1 q2 q4 q6 q8 q10 0 q12)), (q1, (arW G 6 (fun _ => none))), (q2, (oc6 6 5 q3 0)), (q3, (arI G 30 (fun _ => 0))), (q4, (oc6 5 24 q5 0)), (q5, (arI G 120 (fun _ => 0))), (q6, (oc6 10 4 q7 0)), (q7, (arI G 40 (fun _ => 0))), (q8, (oc6 8 5 q9 0)), (q9, (arI G 40 (fun _ => 0))), (q10, (oc6 6 6 q11 0)), (q11, (arI G 36 (fun _ => 0))), (q12, (arJ G 24 (fun _ => 0)))]))) (g5_B G (va_A [(a0, .inr (1, [.long 0, .int 0, .int 0, .int 0, .int 0, .null, .null, .null, .null, .null, .null, .long 0, .null]))] sz)) (va_A [(a0, .inr (1, [.long 0, .int 0, .int 0, .int 0, .int 0, .null, .null, .null, .null, .null, .null, .long 0, .null]))] sz)) 12 316 (va_A [(a0, .inr (1, [.long 0, .int 0, .int 0, .int 0, .int 0, .null, .null, .null, .null, .null, .null, .long 0, .null]))] sz) := by
  refine Met.ofW (cc := cX1_init) (maxL := 1) (ret := none) (by decide) rfl ?_
  intro p e s m args below meth c s₁ B hml hv
  obtain ⟨rfl, hsz, hP, hK, hD0, hN, hT⟩ := hv
  have hx := B.exec
  have hb := B.bytes
  have hr := B.returns
  have hts : ∀ w ∈ tblG, w.before _ s = true := fun w h => atoms_spec (ws := (wsG yX1_init cX1_init 1 none)) B.pre w (List.mem_cons_of_mem _ h)
  have hown : s.vm.findClass RX1 = some m.cls := findClass_of_methodNamed B.named
  have hlocks := B.notSynchronized
  have hin : meth.name = "<init>" := (name_of_methodNamed B.named B.method).1
  subst hsz
  have hD := hD0.self (sz := s.heap.size)
  generalize hAe : va_A [(a0, .inr (1, [.long 0, .int 0, .int 0, .int 0, .int 0, .null, .null, .null, .null, .null, .null, .long 0, .null]))] s.heap.size = A at hD hT ⊢
  have hA : ∀ q : Nat, s.heap.size ≤ q → A q := fun q h => by rw [← hAe]; exact Or.inr h
  have hS : va_S A s.heap s.heap [] := va_S.rf
  have hP : va_P G.1 vwCl [(a0, .inr (1, [.long 0, .int 0, .int 0, .int 0, .int 0, .null, .null, .null, .null, .null, .null, .long 0, .null]))] s.heap := hP
  have hl := lv_entry ([.ref a0]) (n := 1) (Nat.le_of_ble_eq_true rfl)
  rw [lg_entry_eq]
  generalize (lg_sl ([.ref a0]) ++ List.replicate (1 - (lg_sl ([.ref a0])).length) Slot.unset).toArray = ls at hl ⊢
  have hl : lv_has ls 1 [(0, .ref a0)] := hl
  refine lv_aload_n hx hb dX1_init_0 rfl (lv_at hl 0 rfl) ?_
  refine W.objInit hx hb hown (hts _ oi_X1_3) (hts _ oi_im) (hts _ oi_cd) rfl (by rw [hml]; exact hl.1) rfl dX1_init_1 (Nat.le_of_ble_eq_true rfl) (Nat.le_of_ble_eq_true rfl) ?_
  refine W.eq (g2 := F0 m 4 ls []) rfl ?_
  refine lv_aload_n hx hb dX1_init_4 rfl (lv_at hl 0 rfl) ?_
  refine lv_lconst (v := 0) hx hb dX1_init_5 (by decide) ?_
  refine va_put (D := G.1) (ci := 1) (v := .long 0) (ty := .long) (C := RX1) (T := TX1) (N := 13) hx hb hts inG_X1 tyX1 tyX1_ok nmX1 hown hK hP hD hS 0 rfl rfl 0 (by decide) (hts _ fl_X1_9) (fun _ h9 => h9) rfl (by decide +kernel) rfl rfl (Nat.le_of_ble_eq_true rfl) dX1_init_6 (fun H locs hP hD hS => ?_)
  refine g5_rs [(a0, .inr (1, [.long 0, .int 0, .int 0, .int 0, .int 0, .null, .null, .null, .null, .null, .null, .long 0, .null]))] hP hD (fun hP hD => ?_)
  refine lv_aload_n hx hb dX1_init_9 rfl (lv_at hl 0 rfl) ?_
  refine lv_sipush (v := 1000) hx hb dX1_init_10 (by decide) ?_
  refine va_put (D := G.1) (ci := 1) (v := .int 1000) (ty := .int) (C := RX1) (T := TX1) (N := 13) hx hb hts inG_X1 tyX1 tyX1_ok nmX1 hown hK hP hD hS 0 rfl rfl 1 (by decide) (hts _ fl_X1_15) (fun _ h9 => h9) rfl (by decide +kernel) rfl rfl (Nat.le_of_ble_eq_true rfl) dX1_init_13 (fun H locs hP hD hS => ?_)
  refine g5_rs [(a0, .inr (1, [.long 0, .int 1000, .int 0, .int 0, .int 0, .null, .null, .null, .null, .null, .null, .long 0, .null]))] hP hD (fun hP hD => ?_)
  refine lv_aload_n hx hb dX1_init_16 rfl (lv_at hl 0 rfl) ?_
  refine lv_iconst (v := (-1)) hx hb dX1_init_17 (by decide) ?_
  refine va_put (D := G.1) (ci := 1) (v := .int (-1)) (ty := .int) (C := RX1) (T := TX1) (N := 13) hx hb hts inG_X1 tyX1 tyX1_ok nmX1 hown hK hP hD hS 0 rfl rfl 2 (by decide) (hts _ fl_X1_19) (fun _ h9 => h9) rfl (by decide +kernel) rfl rfl (Nat.le_of_ble_eq_true rfl) dX1_init_18 (fun H locs hP hD hS => ?_)
  refine g5_rs [(a0, .inr (1, [.long 0, .int 1000, .int (-1), .int 0, .int 0, .null, .null, .null, .null, .null, .null, .long 0, .null]))] hP hD (fun hP hD => ?_)
  refine lv_aload_n hx hb dX1_init_21 rfl (lv_at hl 0 rfl) ?_
  refine lv_iconst (v := (-1)) hx hb dX1_init_22 (by decide) ?_
  refine va_put (D := G.1) (ci := 1) (v := .int (-1)) (ty := .int) (C := RX1) (T := TX1) (N := 13) hx hb hts inG_X1 tyX1 tyX1_ok nmX1 hown hK hP hD hS 0 rfl rfl 3 (by decide) (hts _ fl_X1_22) (fun _ h9 => h9) rfl (by decide +kernel) rfl rfl (Nat.le_of_ble_eq_true rfl) dX1_init_23 (fun H locs hP hD hS => ?_)
  refine g5_rs [(a0, .inr (1, [.long 0, .int 1000, .int (-1), .int (-1), .int 0, .null, .null, .null, .null, .null, .null, .long 0, .null]))] hP hD (fun hP hD => ?_)
  refine lv_aload_n hx hb dX1_init_26 rfl (lv_at hl 0 rfl) ?_
  refine lv_iconst (v := 0) hx hb dX1_init_27 (by decide) ?_
  refine va_put (D := G.1) (ci := 1) (v := .int 0) (ty := .int) (C := RX1) (T := TX1) (N := 13) hx hb hts inG_X1 tyX1 tyX1_ok nmX1 hown hK hP hD hS 0 rfl rfl 4 (by decide) (hts _ fl_X1_25) (fun _ h9 => h9) rfl (by decide +kernel) rfl rfl (Nat.le_of_ble_eq_true rfl) dX1_init_28 (fun H locs hP hD hS => ?_)
  refine g5_rs [(a0, .inr (1, [.long 0, .int 1000, .int (-1), .int (-1), .int 0, .null, .null, .null, .null, .null, .null, .long 0, .null]))] hP hD (fun hP hD => ?_)
  refine lv_aload_n hx hb dX1_init_31 rfl (lv_at hl 0 rfl) ?_
  refine lv_bipush (v := 6) hx hb dX1_init_32 (by decide) ?_
  refine va_newq (D := G.1) hx hb hown (hts _ cl_X1_28) hN.2.2.1 hK hP hD hS hA (n := 6) (N' := 6) (by decide) (by decide) (by decide) (Nat.le_of_ble_eq_true rfl) (Nat.le_of_ble_eq_true rfl) dX1_init_34 (fun q1 cA H hKn hP hD hS => ?_)
  obtain rfl : cA = G.2 4 := g5_cW hKn
  refine g5_rs [(a0, .inr (1, [.long 0, .int 1000, .int (-1), .int (-1), .int 0, .null, .null, .null, .null, .null, .null, .long 0, .null])), (q1, (arW G 6 (fun _ => none)))] hP hD (fun hP hD => ?_)
  refine W.widen (k := 1) (n := 6) (Nat.le_of_ble_eq_true rfl) (Nat.le_of_ble_eq_true rfl) ?_
  refine va_putF (D := G.1) (ci := 1) (v := .ref q1) (ty := .array (.object "LateGlass$Law")) (C := RX1) (T := TX1) (N := 13) hx hb hts inG_X1 tyX1 tyX1_ok nmX1 hown hK hP hD hS 0 rfl rfl 5 (by decide) (hts _ fl_X1_30) (fun _ h9 => h9) rfl hin rfl (by decide +kernel) rfl rfl (Nat.le_of_ble_eq_true rfl) dX1_init_37 (fun H locs hP hD hS => ?_)
  refine g5_rs [(a0, .inr (1, [.long 0, .int 1000, .int (-1), .int (-1), .int 0, .ref q1, .null, .null, .null, .null, .null, .long 0, .null])), (q1, (arW G 6 (fun _ => none)))] hP hD (fun hP hD => ?_)
  refine lv_aload_n hx hb dX1_init_40 rfl (lv_at hl 0 rfl) ?_
  refine va_new (D := G.1) (ci := 6) (fs := [.int 0, .int 0, .null, .int 0]) (C := RX6) (T := TX6) (N := 4) hx hb hts inG_X6 tyX6 tyX6_ok hown (hts _ cl_X1_34) (hts _ isn_X6) (hts _ ini_X6) hK hP hD hS hA rfl (fun j hj => by rcases (show j = 0 ∨ j = 1 ∨ j = 2 ∨ j = 3 by omega) with rfl | rfl | rfl | rfl <;> rfl) (Nat.le_of_ble_eq_true rfl) (Nat.le_of_ble_eq_true rfl) dX1_init_41 (fun q2 H hP hD hS => ?_)
  refine g5_rs [(a0, .inr (1, [.long 0, .int 1000, .int (-1), .int (-1), .int 0, .ref q1, .null, .null, .null, .null, .null, .long 0, .null])), (q1, (arW G 6 (fun _ => none))), (q2, .inr (6, [.int 0, .int 0, .null, .int 0]))] hP hD (fun hP hD => ?_)
  refine W.widen (k := 2) (n := 10) (Nat.le_of_ble_eq_true rfl) (Nat.le_of_ble_eq_true rfl) ?_
  refine lv_dup hx hb dX1_init_44 rfl ?_
  refine lv_bipush (v := 6) hx hb dX1_init_45 (by decide) ?_
  refine lv_iconst (v := 5) hx hb dX1_init_47 (by decide) ?_
  obtain ⟨hPc, hDc, hFc⟩ := g5_sub3 (wc := [(q2, .inr (6, [.int 0, .int 0, .null, .int 0]))]) hP hD hS hA [2] (by decide) rfl
  refine va_callv (va_runI (As := [.int 6, .int 5]) (rest := [.ref q2, .ref a0]) ⟨hx, hb, hml, hown, hts⟩ (kX6_init l G q2 H.size) (cwI 2 hts gW_X6_init rfl rfl rfl (hts _ ini_X6) (hts _ ml_X1_36) (hts _ im_X6_init) rfl hs_X6_init ⟨Nat.le_of_ble_eq_true rfl, Nat.le_of_ble_eq_true rfl⟩) (g5_preS hPc hK hDc hN hT hS hFc) rfl rfl hl.1 rfl (lv_room (Nat.le_of_ble_eq_true rfl)) dX1_init_48 ⟨Nat.le_of_ble_eq_true rfl, Nat.le_of_ble_eq_true rfl⟩) hS (fun q _ h => hFc q h) hFc (fun u t H1 locs ht hvm hw hB hz1 hk1 hS => ?_)
  obtain ⟨hP1, hD1⟩ := hB
  rw [ht] at hP1
  refine W.widen (k := 3) (n := 40) (Nat.le_of_ble_eq_true rfl) (Nat.le_of_ble_eq_true rfl) ?_
  obtain ⟨q3, rfl⟩ := hw
  obtain ⟨hP, hD⟩ := va_join (wr := [(a0, .inr (1, [.long 0, .int 1000, .int (-1), .int (-1), .int 0, .ref q1, .null, .null, .null, .null, .null, .long 0, .null])), (q1, (arW G 6 (fun _ => none)))]) hP hD [2] [0, 1] rfl rfl (by decide) (by decide) hk1 hFc hP1 hD1
  generalize H1 = H at hP hS ⊢
  refine g5_rs [(a0, .inr (1, [.long 0, .int 1000, .int (-1), .int (-1), .int 0, .ref q1, .null, .null, .null, .null, .null, .long 0, .null])), (q1, (arW G 6 (fun _ => none))), (q2, (oc6 6 5 q3 0)), (q3, (arI G 30 (fun _ => 0)))] hP hD (fun hP hD => ?_)
  refine va_putF (D := G.1) (ci := 1) (v := .ref q2) (ty := .object "LateGlass$Table") (C := RX1) (T := TX1) (N := 13) hx hb hts inG_X1 tyX1 tyX1_ok nmX1 hown hK hP hD hS 0 rfl rfl 6 (by decide) (hts _ fl_X1_39) (fun _ h9 => h9) rfl hin rfl (by decide +kernel) rfl rfl (Nat.le_of_ble_eq_true rfl) dX1_init_51 (fun H locs hP hD hS => ?_)
  refine g5_rs [(a0, .inr (1, [.long 0, .int 1000, .int (-1), .int (-1), .int 0, .ref q1, .ref q2, .null, .null, .null, .null, .long 0, .null])), (q1, (arW G 6 (fun _ => none))), (q2, (oc6 6 5 q3 0)), (q3, (arI G 30 (fun _ => 0)))] hP hD (fun hP hD => ?_)
  refine lv_aload_n hx hb dX1_init_54 rfl (lv_at hl 0 rfl) ?_
  refine va_new (D := G.1) (ci := 6) (fs := [.int 0, .int 0, .null, .int 0]) (C := RX6) (T := TX6) (N := 4) hx hb hts inG_X6 tyX6 tyX6_ok hown (hts _ cl_X1_34) (hts _ isn_X6) (hts _ ini_X6) hK hP hD hS hA rfl (fun j hj => by rcases (show j = 0 ∨ j = 1 ∨ j = 2 ∨ j = 3 by omega) with rfl | rfl | rfl | rfl <;> rfl) (Nat.le_of_ble_eq_true rfl) (Nat.le_of_ble_eq_true rfl) dX1_init_55 (fun q4 H hP hD hS => ?_)
  refine g5_rs [(a0, .inr (1, [.long 0, .int 1000, .int (-1), .int (-1), .int 0, .ref q1, .ref q2, .null, .null, .null, .null, .long 0, .null])), (q1, (arW G 6 (fun _ => none))), (q2, (oc6 6 5 q3 0)), (q3, (arI G 30 (fun _ => 0))), (q4, .inr (6, [.int 0, .int 0, .null, .int 0]))] hP hD (fun hP hD => ?_)
  refine W.widen (k := 4) (n := 44) (Nat.le_of_ble_eq_true rfl) (Nat.le_of_ble_eq_true rfl) ?_
  refine lv_dup hx hb dX1_init_58 rfl ?_
  refine lv_iconst (v := 5) hx hb dX1_init_59 (by decide) ?_
  refine lv_bipush (v := 24) hx hb dX1_init_60 (by decide) ?_
  obtain ⟨hPc, hDc, hFc⟩ := g5_sub3 (wc := [(q4, .inr (6, [.int 0, .int 0, .null, .int 0]))]) hP hD hS hA [4] (by decide) rfl
  refine va_callv (va_runI (As := [.int 5, .int 24]) (rest := [.ref q4, .ref a0]) ⟨hx, hb, hml, hown, hts⟩ (kX6_init_2 l G q4 H.size) (cwI 2 hts gW_X6_init rfl rfl rfl (hts _ ini_X6) (hts _ ml_X1_36) (hts _ im_X6_init) rfl hs_X6_init ⟨Nat.le_of_ble_eq_true rfl, Nat.le_of_ble_eq_true rfl⟩) (g5_preS hPc hK hDc hN hT hS hFc) rfl rfl hl.1 rfl (lv_room (Nat.le_of_ble_eq_true rfl)) dX1_init_62 ⟨Nat.le_of_ble_eq_true rfl, Nat.le_of_ble_eq_true rfl⟩) hS (fun q _ h => hFc q h) hFc (fun u t H1 locs ht hvm hw hB hz1 hk1 hS => ?_)
  obtain ⟨hP1, hD1⟩ := hB
  rw [ht] at hP1
  refine W.widen (k := 5) (n := 164) (Nat.le_of_ble_eq_true rfl) (Nat.le_of_ble_eq_true rfl) ?_
  obtain ⟨q5, rfl⟩ := hw
  obtain ⟨hP, hD⟩ := va_join (wr := [(a0, .inr (1, [.long 0, .int 1000, .int (-1), .int (-1), .int 0, .ref q1, .ref q2, .null, .null, .null, .null, .long 0, .null])), (q1, (arW G 6 (fun _ => none))), (q2, (oc6 6 5 q3 0)), (q3, (arI G 30 (fun _ => 0)))]) hP hD [4] [0, 1, 2, 3] rfl rfl (by decide) (by decide) hk1 hFc hP1 hD1
  generalize H1 = H at hP hS ⊢
  refine g5_rs [(a0, .inr (1, [.long 0, .int 1000, .int (-1), .int (-1), .int 0, .ref q1, .ref q2, .null, .null, .null, .null, .long 0, .null])), (q1, (arW G 6 (fun _ => none))), (q2, (oc6 6 5 q3 0)), (q3, (arI G 30 (fun _ => 0))), (q4, (oc6 5 24 q5 0)), (q5, (arI G 120 (fun _ => 0)))] hP hD (fun hP hD => ?_)
  refine va_putF (D := G.1) (ci := 1) (v := .ref q4) (ty := .object "LateGlass$Table") (C := RX1) (T := TX1) (N := 13) hx hb hts inG_X1 tyX1 tyX1_ok nmX1 hown hK hP hD hS 0 rfl rfl 7 (by decide) (hts _ fl_X1_43) (fun _ h9 => h9) rfl hin rfl (by decide +kernel) rfl rfl (Nat.le_of_ble_eq_true rfl) dX1_init_65 (fun H locs hP hD hS => ?_)
  refine g5_rs [(a0, .inr (1, [.long 0, .int 1000, .int (-1), .int (-1), .int 0, .ref q1, .ref q2, .ref q4, .null, .null, .null, .long 0, .null])), (q1, (arW G 6 (fun _ => none))), (q2, (oc6 6 5 q3 0)), (q3, (arI G 30 (fun _ => 0))), (q4, (oc6 5 24 q5 0)), (q5, (arI G 120 (fun _ => 0)))] hP hD (fun hP hD => ?_)
  refine lv_aload_n hx hb dX1_init_68 rfl (lv_at hl 0 rfl) ?_
  refine va_new (D := G.1) (ci := 6) (fs := [.int 0, .int 0, .null, .int 0]) (C := RX6) (T := TX6) (N := 4) hx hb hts inG_X6 tyX6 tyX6_ok hown (hts _ cl_X1_34) (hts _ isn_X6) (hts _ ini_X6) hK hP hD hS hA rfl (fun j hj => by rcases (show j = 0 ∨ j = 1 ∨ j = 2 ∨ j = 3 by omega) with rfl | rfl | rfl | rfl <;> rfl) (Nat.le_of_ble_eq_true rfl) (Nat.le_of_ble_eq_true rfl) dX1_init_69 (fun q6 H hP hD hS => ?_)
  refine g5_rs [(a0, .inr (1, [.long 0, .int 1000, .int (-1), .int (-1), .int 0, .ref q1, .ref q2, .ref q4, .null, .null, .null, .long 0, .null])), (q1, (arW G 6 (fun _ => none))), (q2, (oc6 6 5 q3 0)), (q3, (arI G 30 (fun _ => 0))), (q4, (oc6 5 24 q5 0)), (q5, (arI G 120 (fun _ => 0))), (q6, .inr (6, [.int 0, .int 0, .null, .int 0]))] hP hD (fun hP hD => ?_)
  refine W.widen (k := 6) (n := 168) (Nat.le_of_ble_eq_true rfl) (Nat.le_of_ble_eq_true rfl) ?_
  refine lv_dup hx hb dX1_init_72 rfl ?_
  refine lv_bipush (v := 10) hx hb dX1_init_73 (by decide) ?_
  refine lv_iconst (v := 4) hx hb dX1_init_75 (by decide) ?_
  obtain ⟨hPc, hDc, hFc⟩ := g5_sub3 (wc := [(q6, .inr (6, [.int 0, .int 0, .null, .int 0]))]) hP hD hS hA [6] (by decide) rfl
  refine va_callv (va_runI (As := [.int 10, .int 4]) (rest := [.ref q6, .ref a0]) ⟨hx, hb, hml, hown, hts⟩ (kX6_init_3 l G q6 H.size) (cwI 2 hts gW_X6_init rfl rfl rfl (hts _ ini_X6) (hts _ ml_X1_36) (hts _ im_X6_init) rfl hs_X6_init ⟨Nat.le_of_ble_eq_true rfl, Nat.le_of_ble_eq_true rfl⟩) (g5_preS hPc hK hDc hN hT hS hFc) rfl rfl hl.1 rfl (lv_room (Nat.le_of_ble_eq_true rfl)) dX1_init_76 ⟨Nat.le_of_ble_eq_true rfl, Nat.le_of_ble_eq_true rfl⟩) hS (fun q _ h => hFc q h) hFc (fun u t H1 locs ht hvm hw hB hz1 hk1 hS => ?_)
  obtain ⟨hP1, hD1⟩ := hB
  rw [ht] at hP1
  refine W.widen (k := 7) (n := 208) (Nat.le_of_ble_eq_true rfl) (Nat.le_of_ble_eq_true rfl) ?_
  obtain ⟨q7, rfl⟩ := hw
  obtain ⟨hP, hD⟩ := va_join (wr := [(a0, .inr (1, [.long 0, .int 1000, .int (-1), .int (-1), .int 0, .ref q1, .ref q2, .ref q4, .null, .null, .null, .long 0, .null])), (q1, (arW G 6 (fun _ => none))), (q2, (oc6 6 5 q3 0)), (q3, (arI G 30 (fun _ => 0))), (q4, (oc6 5 24 q5 0)), (q5, (arI G 120 (fun _ => 0)))]) hP hD [6] [0, 1, 2, 3, 4, 5] rfl rfl (by decide) (by decide) hk1 hFc hP1 hD1
  generalize H1 = H at hP hS ⊢
  refine g5_rs [(a0, .inr (1, [.long 0, .int 1000, .int (-1), .int (-1), .int 0, .ref q1, .ref q2, .ref q4, .null, .null, .null, .long 0, .null])), (q1, (arW G 6 (fun _ => none))), (q2, (oc6 6 5 q3 0)), (q3, (arI G 30 (fun _ => 0))), (q4, (oc6 5 24 q5 0)), (q5, (arI G 120 (fun _ => 0))), (q6, (oc6 10 4 q7 0)), (q7, (arI G 40 (fun _ => 0)))] hP hD (fun hP hD => ?_)
  refine va_putF (D := G.1) (ci := 1) (v := .ref q6) (ty := .object "LateGlass$Table") (C := RX1) (T := TX1) (N := 13) hx hb hts inG_X1 tyX1 tyX1_ok nmX1 hown hK hP hD hS 0 rfl rfl 8 (by decide) (hts _ fl_X1_46) (fun _ h9 => h9) rfl hin rfl (by decide +kernel) rfl rfl (Nat.le_of_ble_eq_true rfl) dX1_init_79 (fun H locs hP hD hS => ?_)
  refine g5_rs [(a0, .inr (1, [.long 0, .int 1000, .int (-1), .int (-1), .int 0, .ref q1, .ref q2, .ref q4, .ref q6, .null, .null, .long 0, .null])), (q1, (arW G 6 (fun _ => none))), (q2, (oc6 6 5 q3 0)), (q3, (arI G 30 (fun _ => 0))), (q4, (oc6 5 24 q5 0)), (q5, (arI G 120 (fun _ => 0))), (q6, (oc6 10 4 q7 0)), (q7, (arI G 40 (fun _ => 0)))] hP hD (fun hP hD => ?_)
  refine lv_aload_n hx hb dX1_init_82 rfl (lv_at hl 0 rfl) ?_
  refine va_new (D := G.1) (ci := 6) (fs := [.int 0, .int 0, .null, .int 0]) (C := RX6) (T := TX6) (N := 4) hx hb hts inG_X6 tyX6 tyX6_ok hown (hts _ cl_X1_34) (hts _ isn_X6) (hts _ ini_X6) hK hP hD hS hA rfl (fun j hj => by rcases (show j = 0 ∨ j = 1 ∨ j = 2 ∨ j = 3 by omega) with rfl | rfl | rfl | rfl <;> rfl) (Nat.le_of_ble_eq_true rfl) (Nat.le_of_ble_eq_true rfl) dX1_init_83 (fun q8 H hP hD hS => ?_)
  refine g5_rs [(a0, .inr (1, [.long 0, .int 1000, .int (-1), .int (-1), .int 0, .ref q1, .ref q2, .ref q4, .ref q6, .null, .null, .long 0, .null])), (q1, (arW G 6 (fun _ => none))), (q2, (oc6 6 5 q3 0)), (q3, (arI G 30 (fun _ => 0))), (q4, (oc6 5 24 q5 0)), (q5, (arI G 120 (fun _ => 0))), (q6, (oc6 10 4 q7 0)), (q7, (arI G 40 (fun _ => 0))), (q8, .inr (6, [.int 0, .int 0, .null, .int 0]))] hP hD (fun hP hD => ?_)
  refine W.widen (k := 8) (n := 212) (Nat.le_of_ble_eq_true rfl) (Nat.le_of_ble_eq_true rfl) ?_
  refine lv_dup hx hb dX1_init_86 rfl ?_
  refine lv_bipush (v := 8) hx hb dX1_init_87 (by decide) ?_
  refine lv_iconst (v := 5) hx hb dX1_init_89 (by decide) ?_
  obtain ⟨hPc, hDc, hFc⟩ := g5_sub3 (wc := [(q8, .inr (6, [.int 0, .int 0, .null, .int 0]))]) hP hD hS hA [8] (by decide) rfl
  refine va_callv (va_runI (As := [.int 8, .int 5]) (rest := [.ref q8, .ref a0]) ⟨hx, hb, hml, hown, hts⟩ (kX6_init_4 l G q8 H.size) (cwI 2 hts gW_X6_init rfl rfl rfl (hts _ ini_X6) (hts _ ml_X1_36) (hts _ im_X6_init) rfl hs_X6_init ⟨Nat.le_of_ble_eq_true rfl, Nat.le_of_ble_eq_true rfl⟩) (g5_preS hPc hK hDc hN hT hS hFc) rfl rfl hl.1 rfl (lv_room (Nat.le_of_ble_eq_true rfl)) dX1_init_90 ⟨Nat.le_of_ble_eq_true rfl, Nat.le_of_ble_eq_true rfl⟩) hS (fun q _ h => hFc q h) hFc (fun u t H1 locs ht hvm hw hB hz1 hk1 hS => ?_)
  obtain ⟨hP1, hD1⟩ := hB
  rw [ht] at hP1
  refine W.widen (k := 9) (n := 252) (Nat.le_of_ble_eq_true rfl) (Nat.le_of_ble_eq_true rfl) ?_
  obtain ⟨q9, rfl⟩ := hw
  obtain ⟨hP, hD⟩ := va_join (wr := [(a0, .inr (1, [.long 0, .int 1000, .int (-1), .int (-1), .int 0, .ref q1, .ref q2, .ref q4, .ref q6, .null, .null, .long 0, .null])), (q1, (arW G 6 (fun _ => none))), (q2, (oc6 6 5 q3 0)), (q3, (arI G 30 (fun _ => 0))), (q4, (oc6 5 24 q5 0)), (q5, (arI G 120 (fun _ => 0))), (q6, (oc6 10 4 q7 0)), (q7, (arI G 40 (fun _ => 0)))]) hP hD [8] [0, 1, 2, 3, 4, 5, 6, 7] rfl rfl (by decide) (by decide) hk1 hFc hP1 hD1
  generalize H1 = H at hP hS ⊢
  refine g5_rs [(a0, .inr (1, [.long 0, .int 1000, .int (-1), .int (-1), .int 0, .ref q1, .ref q2, .ref q4, .ref q6, .null, .null, .long 0, .null])), (q1, (arW G 6 (fun _ => none))), (q2, (oc6 6 5 q3 0)), (q3, (arI G 30 (fun _ => 0))), (q4, (oc6 5 24 q5 0)), (q5, (arI G 120 (fun _ => 0))), (q6, (oc6 10 4 q7 0)), (q7, (arI G 40 (fun _ => 0))), (q8, (oc6 8 5 q9 0)), (q9, (arI G 40 (fun _ => 0)))] hP hD (fun hP hD => ?_)
  refine va_putF (D := G.1) (ci := 1) (v := .ref q8) (ty := .object "LateGlass$Table") (C := RX1) (T := TX1) (N := 13) hx hb hts inG_X1 tyX1 tyX1_ok nmX1 hown hK hP hD hS 0 rfl rfl 9 (by decide) (hts _ fl_X1_49) (fun _ h9 => h9) rfl hin rfl (by decide +kernel) rfl rfl (Nat.le_of_ble_eq_true rfl) dX1_init_93 (fun H locs hP hD hS => ?_)
  refine g5_rs [(a0, .inr (1, [.long 0, .int 1000, .int (-1), .int (-1), .int 0, .ref q1, .ref q2, .ref q4, .ref q6, .ref q8, .null, .long 0, .null])), (q1, (arW G 6 (fun _ => none))), (q2, (oc6 6 5 q3 0)), (q3, (arI G 30 (fun _ => 0))), (q4, (oc6 5 24 q5 0)), (q5, (arI G 120 (fun _ => 0))), (q6, (oc6 10 4 q7 0)), (q7, (arI G 40 (fun _ => 0))), (q8, (oc6 8 5 q9 0)), (q9, (arI G 40 (fun _ => 0)))] hP hD (fun hP hD => ?_)
  refine lv_aload_n hx hb dX1_init_96 rfl (lv_at hl 0 rfl) ?_
  refine va_new (D := G.1) (ci := 6) (fs := [.int 0, .int 0, .null, .int 0]) (C := RX6) (T := TX6) (N := 4) hx hb hts inG_X6 tyX6 tyX6_ok hown (hts _ cl_X1_34) (hts _ isn_X6) (hts _ ini_X6) hK hP hD hS hA rfl (fun j hj => by rcases (show j = 0 ∨ j = 1 ∨ j = 2 ∨ j = 3 by omega) with rfl | rfl | rfl | rfl <;> rfl) (Nat.le_of_ble_eq_true rfl) (Nat.le_of_ble_eq_true rfl) dX1_init_97 (fun q10 H hP hD hS => ?_)
  refine g5_rs [(a0, .inr (1, [.long 0, .int 1000, .int (-1), .int (-1), .int 0, .ref q1, .ref q2, .ref q4, .ref q6, .ref q8, .null, .long 0, .null])), (q1, (arW G 6 (fun _ => none))), (q2, (oc6 6 5 q3 0)), (q3, (arI G 30 (fun _ => 0))), (q4, (oc6 5 24 q5 0)), (q5, (arI G 120 (fun _ => 0))), (q6, (oc6 10 4 q7 0)), (q7, (arI G 40 (fun _ => 0))), (q8, (oc6 8 5 q9 0)), (q9, (arI G 40 (fun _ => 0))), (q10, .inr (6, [.int 0, .int 0, .null, .int 0]))] hP hD (fun hP hD => ?_)
  refine W.widen (k := 10) (n := 256) (Nat.le_of_ble_eq_true rfl) (Nat.le_of_ble_eq_true rfl) ?_
  refine lv_dup hx hb dX1_init_100 rfl ?_
  refine lv_bipush (v := 6) hx hb dX1_init_101 (by decide) ?_
  refine lv_bipush (v := 6) hx hb dX1_init_103 (by decide) ?_
  obtain ⟨hPc, hDc, hFc⟩ := g5_sub3 (wc := [(q10, .inr (6, [.int 0, .int 0, .null, .int 0]))]) hP hD hS hA [10] (by decide) rfl
  refine va_callv (va_runI (As := [.int 6, .int 6]) (rest := [.ref q10, .ref a0]) ⟨hx, hb, hml, hown, hts⟩ (kX6_init_5 l G q10 H.size) (cwI 2 hts gW_X6_init rfl rfl rfl (hts _ ini_X6) (hts _ ml_X1_36) (hts _ im_X6_init) rfl hs_X6_init ⟨Nat.le_of_ble_eq_true rfl, Nat.le_of_ble_eq_true rfl⟩) (g5_preS hPc hK hDc hN hT hS hFc) rfl rfl hl.1 rfl (lv_room (Nat.le_of_ble_eq_true rfl)) dX1_init_105 ⟨Nat.le_of_ble_eq_true rfl, Nat.le_of_ble_eq_true rfl⟩) hS (fun q _ h => hFc q h) hFc (fun u t H1 locs ht hvm hw hB hz1 hk1 hS => ?_)
  obtain ⟨hP1, hD1⟩ := hB
  rw [ht] at hP1
  refine W.widen (k := 11) (n := 292) (Nat.le_of_ble_eq_true rfl) (Nat.le_of_ble_eq_true rfl) ?_
  obtain ⟨q11, rfl⟩ := hw
  obtain ⟨hP, hD⟩ := va_join (wr := [(a0, .inr (1, [.long 0, .int 1000, .int (-1), .int (-1), .int 0, .ref q1, .ref q2, .ref q4, .ref q6, .ref q8, .null, .long 0, .null])), (q1, (arW G 6 (fun _ => none))), (q2, (oc6 6 5 q3 0)), (q3, (arI G 30 (fun _ => 0))), (q4, (oc6 5 24 q5 0)), (q5, (arI G 120 (fun _ => 0))), (q6, (oc6 10 4 q7 0)), (q7, (arI G 40 (fun _ => 0))), (q8, (oc6 8 5 q9 0)), (q9, (arI G 40 (fun _ => 0)))]) hP hD [10] [0, 1, 2, 3, 4, 5, 6, 7, 8, 9] rfl rfl (by decide) (by decide) hk1 hFc hP1 hD1
  generalize H1 = H at hP hS ⊢
  refine g5_rs [(a0, .inr (1, [.long 0, .int 1000, .int (-1), .int (-1), .int 0, .ref q1, .ref q2, .ref q4, .ref q6, .ref q8, .null, .long 0, .null])), (q1, (arW G 6 (fun _ => none))), (q2, (oc6 6 5 q3 0)), (q3, (arI G 30 (fun _ => 0))), (q4, (oc6 5 24 q5 0)), (q5, (arI G 120 (fun _ => 0))), (q6, (oc6 10 4 q7 0)), (q7, (arI G 40 (fun _ => 0))), (q8, (oc6 8 5 q9 0)), (q9, (arI G 40 (fun _ => 0))), (q10, (oc6 6 6 q11 0)), (q11, (arI G 36 (fun _ => 0)))] hP hD (fun hP hD => ?_)
  refine va_putF (D := G.1) (ci := 1) (v := .ref q10) (ty := .object "LateGlass$Table") (C := RX1) (T := TX1) (N := 13) hx hb hts inG_X1 tyX1 tyX1_ok nmX1 hown hK hP hD hS 0 rfl rfl 10 (by decide) (hts _ fl_X1_52) (fun _ h9 => h9) rfl hin rfl (by decide +kernel) rfl rfl (Nat.le_of_ble_eq_true rfl) dX1_init_108 (fun H locs hP hD hS => ?_)
  refine g5_rs [(a0, .inr (1, [.long 0, .int 1000, .int (-1), .int (-1), .int 0, .ref q1, .ref q2, .ref q4, .ref q6, .ref q8, .ref q10, .long 0, .null])), (q1, (arW G 6 (fun _ => none))), (q2, (oc6 6 5 q3 0)), (q3, (arI G 30 (fun _ => 0))), (q4, (oc6 5 24 q5 0)), (q5, (arI G 120 (fun _ => 0))), (q6, (oc6 10 4 q7 0)), (q7, (arI G 40 (fun _ => 0))), (q8, (oc6 8 5 q9 0)), (q9, (arI G 40 (fun _ => 0))), (q10, (oc6 6 6 q11 0)), (q11, (arI G 36 (fun _ => 0)))] hP hD (fun hP hD => ?_)
  refine lv_aload_n hx hb dX1_init_111 rfl (lv_at hl 0 rfl) ?_
  refine lv_lconst (v := 0) hx hb dX1_init_112 (by decide) ?_
  refine va_put (D := G.1) (ci := 1) (v := .long 0) (ty := .long) (C := RX1) (T := TX1) (N := 13) hx hb hts inG_X1 tyX1 tyX1_ok nmX1 hown hK hP hD hS 0 rfl rfl 11 (by decide) (hts _ fl_X1_55) (fun _ h9 => h9) rfl (by decide +kernel) rfl rfl (Nat.le_of_ble_eq_true rfl) dX1_init_113 (fun H locs hP hD hS => ?_)
  refine g5_rs [(a0, .inr (1, [.long 0, .int 1000, .int (-1), .int (-1), .int 0, .ref q1, .ref q2, .ref q4, .ref q6, .ref q8, .ref q10, .long 0, .null])), (q1, (arW G 6 (fun _ => none))), (q2, (oc6 6 5 q3 0)), (q3, (arI G 30 (fun _ => 0))), (q4, (oc6 5 24 q5 0)), (q5, (arI G 120 (fun _ => 0))), (q6, (oc6 10 4 q7 0)), (q7, (arI G 40 (fun _ => 0))), (q8, (oc6 8 5 q9 0)), (q9, (arI G 40 (fun _ => 0))), (q10, (oc6 6 6 q11 0)), (q11, (arI G 36 (fun _ => 0)))] hP hD (fun hP hD => ?_)
  refine lv_aload_n hx hb dX1_init_116 rfl (lv_at hl 0 rfl) ?_
  refine lv_bipush (v := 24) hx hb dX1_init_117 (by decide) ?_
  refine va_newa (D := G.1) (atype := .long) (ty := .long) hx hb (hts _ acl_J) rfl hK hP hD hS hA (n := 24) (N' := 24) (a0 := (24, .inr (.inl (fun _ => 0)))) (fun _ => rfl) (by decide) (by decide) (by decide) (Nat.le_of_ble_eq_true rfl) (Nat.le_of_ble_eq_true rfl) dX1_init_119 (fun q12 cA H hKn hP hD hS => ?_)
  obtain rfl : cA = G.2 1 := g5_cJ hKn
  refine g5_rs [(a0, .inr (1, [.long 0, .int 1000, .int (-1), .int (-1), .int 0, .ref q1, .ref q2, .ref q4, .ref q6, .ref q8, .ref q10, .long 0, .null])), (q1, (arW G 6 (fun _ => none))), (q2, (oc6 6 5 q3 0)), (q3, (arI G 30 (fun _ => 0))), (q4, (oc6 5 24 q5 0)), (q5, (arI G 120 (fun _ => 0))), (q6, (oc6 10 4 q7 0)), (q7, (arI G 40 (fun _ => 0))), (q8, (oc6 8 5 q9 0)), (q9, (arI G 40 (fun _ => 0))), (q10, (oc6 6 6 q11 0)), (q11, (arI G 36 (fun _ => 0))), (q12, (arJ G 24 (fun _ => 0)))] hP hD (fun hP hD => ?_)
  refine W.widen (k := 12) (n := 316) (Nat.le_of_ble_eq_true rfl) (Nat.le_of_ble_eq_true rfl) ?_
  refine va_putF (D := G.1) (ci := 1) (v := .ref q12) (ty := .array .long) (C := RX1) (T := TX1) (N := 13) hx hb hts inG_X1 tyX1 tyX1_ok nmX1 hown hK hP hD hS 0 rfl rfl 12 (by decide) (hts _ fl_X1_58) (fun _ h9 => h9) rfl hin rfl (by decide +kernel) rfl rfl (Nat.le_of_ble_eq_true rfl) dX1_init_121 (fun H locs hP hD hS => ?_)
  refine g5_rs [(a0, (oc1 0 1000 (-1) (-1) 0 q1 q2 q4 q6 q8 q10 0 q12)), (q1, (arW G 6 (fun _ => none))), (q2, (oc6 6 5 q3 0)), (q3, (arI G 30 (fun _ => 0))), (q4, (oc6 5 24 q5 0)), (q5, (arI G 120 (fun _ => 0))), (q6, (oc6 10 4 q7 0)), (q7, (arI G 40 (fun _ => 0))), (q8, (oc6 8 5 q9 0)), (q9, (arI G 40 (fun _ => 0))), (q10, (oc6 6 6 q11 0)), (q11, (arI G 36 (fun _ => 0))), (q12, (arJ G 24 (fun _ => 0)))] hP hD (fun hP hD => ?_)
  exact W.vret hx hb hr (fun t ht hW => ⟨⟨[(a0, (oc1 0 1000 (-1) (-1) 0 q1 q2 q4 q6 q8 q10 0 q12)), (q1, (arW G 6 (fun _ => none))), (q2, (oc6 6 5 q3 0)), (q3, (arI G 30 (fun _ => 0))), (q4, (oc6 5 24 q5 0)), (q5, (arI G 120 (fun _ => 0))), (q6, (oc6 10 4 q7 0)), (q7, (arI G 40 (fun _ => 0))), (q8, (oc6 8 5 q9 0)), (q9, (arI G 40 (fun _ => 0))), (q10, (oc6 6 6 q11 0)), (q11, (arI G 36 (fun _ => 0))), (q12, (arJ G 24 (fun _ => 0)))], rfl, ⟨q1, q2, q3, q4, q5, q6, q7, q8, q9, q10, q11, q12, rfl⟩, by rw [ht]; exact hP, hD⟩, hS.F ht⟩) hS.2.2 dX1_init_124
theorem cd_X1_init : Cond.code yX1_init cX1_init 1 none ∈ tblG := tg 123 (by decide +kernel) (by decide +kernel)
theorem gW_X1_init : GoodIn tblG (wsG yX1_init cX1_init 1 none) := tgi cd_X1_init
theorem hs_X1_init : yX1_init.cls ≠ "java/lang/invoke/MethodHandle" ∧ yX1_init.cls ≠ "java/lang/invoke/VarHandle" ∧ (parseMethodDescriptor yX1_init.desc).map (fun d => d.parameters.length) = some 0 := by decide +kernel
theorem im_X1_init : Cond.instanceMethod yX1_init ∈ tblG := tg 122 (by decide +kernel) (by decide +kernel)
theorem cl_X11_24 : Cond.classLink RX11 24 RX5 ∈ tblG := tg 222 (by decide +kernel) (by decide +kernel)
theorem oi_X5_3 : Cond.methodLink RX5 3 objectInit ∈ tblG := tg 227 (by decide +kernel) (by decide +kernel)
theorem cl_X5_9 : Cond.classLink RX5 9 RX2 ∈ tblG := tg 228 (by decide +kernel) (by decide +kernel)
theorem oi_X2_3 : Cond.methodLink RX2 3 objectInit ∈ tblG := tg 233 (by decide +kernel) (by decide +kernel)
theorem dgX2_init_0 : ∀ r ∈ ([(0, (.aload_n 0, 1)), (1, (.invokespecial 3, 3)), (4, (.aload_n 0, 1)), (5, (.bipush 8, 2)), (7, (.newarray .int, 2)), (9, (.putfield 9, 3)), (12, (.aload_n 0, 1)), (13, (.bipush 50, 2)), (15, (.newarray .long, 2)), (17, (.putfield 15, 3)), (20, (.return_, 1))] : List (Nat × (Instr × Nat))), decode cX2_init r.1 = .ok r.2 := by decide +kernel
theorem dX2_init_0 : decode cX2_init 0 = .ok (.aload_n 0, 1) := dgX2_init_0 (0, (.aload_n 0, 1)) (List.mem_of_getElem? (i := 0) rfl)
theorem dX2_init_1 : decode cX2_init 1 = .ok (.invokespecial 3, 3) := dgX2_init_0 (1, (.invokespecial 3, 3)) (List.mem_of_getElem? (i := 1) rfl)
theorem dX2_init_4 : decode cX2_init 4 = .ok (.aload_n 0, 1) := dgX2_init_0 (4, (.aload_n 0, 1)) (List.mem_of_getElem? (i := 2) rfl)
theorem dX2_init_5 : decode cX2_init 5 = .ok (.bipush 8, 2) := dgX2_init_0 (5, (.bipush 8, 2)) (List.mem_of_getElem? (i := 3) rfl)
theorem dX2_init_7 : decode cX2_init 7 = .ok (.newarray .int, 2) := dgX2_init_0 (7, (.newarray .int, 2)) (List.mem_of_getElem? (i := 4) rfl)
theorem dX2_init_9 : decode cX2_init 9 = .ok (.putfield 9, 3) := dgX2_init_0 (9, (.putfield 9, 3)) (List.mem_of_getElem? (i := 5) rfl)
theorem dX2_init_12 : decode cX2_init 12 = .ok (.aload_n 0, 1) := dgX2_init_0 (12, (.aload_n 0, 1)) (List.mem_of_getElem? (i := 6) rfl)
theorem dX2_init_13 : decode cX2_init 13 = .ok (.bipush 50, 2) := dgX2_init_0 (13, (.bipush 50, 2)) (List.mem_of_getElem? (i := 7) rfl)
theorem dX2_init_15 : decode cX2_init 15 = .ok (.newarray .long, 2) := dgX2_init_0 (15, (.newarray .long, 2)) (List.mem_of_getElem? (i := 8) rfl)
theorem dX2_init_17 : decode cX2_init 17 = .ok (.putfield 15, 3) := dgX2_init_0 (17, (.putfield 15, 3)) (List.mem_of_getElem? (i := 9) rfl)
theorem dX2_init_20 : decode cX2_init 20 = .ok (.return_, 1) := dgX2_init_0 (20, (.return_, 1)) (List.mem_of_getElem? (i := 10) rfl)
set_option maxHeartbeats 4000000 in
set_option maxRecDepth 100000 in
theorem kX2_init (l : Launch) (G : g5_G) (a0 : Nat) (sz : Nat) : Met l yX2_init (wsG yX2_init cX2_init 1 none) ({ frames := 1, cells := 2, slots := 58, locals := 12 }) (va_Pc [.ref a0] (g5_P G [(a0, .inr (2, [.null, .null]))] sz)) (va_Qv (fun (u : va_W) => (∃ (q1 : Nat) (q2 : Nat), (u = [(a0, (oc2 q1 q2)), (q1, (arI G 8 (fun _ => 0))), (q2, (arJ G 50 (fun _ => 0)))]))) (g5_B G (va_A [(a0, .inr (2, [.null, .null]))] sz)) (va_A [(a0, .inr (2, [.null, .null]))] sz)) 2 58 (va_A [(a0, .inr (2, [.null, .null]))] sz) := by
  refine Met.ofW (cc := cX2_init) (maxL := 1) (ret := none) (by decide) rfl ?_
  intro p e s m args below meth c s₁ B hml hv
  obtain ⟨rfl, hsz, hP, hK, hD0, hN, hT⟩ := hv
  have hx := B.exec
  have hb := B.bytes
  have hr := B.returns
  have hts : ∀ w ∈ tblG, w.before _ s = true := fun w h => atoms_spec (ws := (wsG yX2_init cX2_init 1 none)) B.pre w (List.mem_cons_of_mem _ h)
  have hown : s.vm.findClass RX2 = some m.cls := findClass_of_methodNamed B.named
  have hlocks := B.notSynchronized
  have hin : meth.name = "<init>" := (name_of_methodNamed B.named B.method).1
  subst hsz
  have hD := hD0.self (sz := s.heap.size)
  generalize hAe : va_A [(a0, .inr (2, [.null, .null]))] s.heap.size = A at hD hT ⊢
  have hA : ∀ q : Nat, s.heap.size ≤ q → A q := fun q h => by rw [← hAe]; exact Or.inr h
  have hS : va_S A s.heap s.heap [] := va_S.rf
  have hP : va_P G.1 vwCl [(a0, .inr (2, [.null, .null]))] s.heap := hP
  have hl := lv_entry ([.ref a0]) (n := 1) (Nat.le_of_ble_eq_true rfl)
  rw [lg_entry_eq]
  generalize (lg_sl ([.ref a0]) ++ List.replicate (1 - (lg_sl ([.ref a0])).length) Slot.unset).toArray = ls at hl ⊢
  have hl : lv_has ls 1 [(0, .ref a0)] := hl
  refine lv_aload_n hx hb dX2_init_0 rfl (lv_at hl 0 rfl) ?_
  refine W.objInit hx hb hown (hts _ oi_X2_3) (hts _ oi_im) (hts _ oi_cd) rfl (by rw [hml]; exact hl.1) rfl dX2_init_1 (Nat.le_of_ble_eq_true rfl) (Nat.le_of_ble_eq_true rfl) ?_
  refine W.eq (g2 := F0 m 4 ls []) rfl ?_
  refine lv_aload_n hx hb dX2_init_4 rfl (lv_at hl 0 rfl) ?_
  refine lv_bipush (v := 8) hx hb dX2_init_5 (by decide) ?_
  refine va_newa (D := G.1) (atype := .int) (ty := .int) hx hb (hts _ acl_I) rfl hK hP hD hS hA (n := 8) (N' := 8) (a0 := (8, .inl (fun _ => 0))) (fun _ => rfl) (by decide) (by decide) (by decide) (Nat.le_of_ble_eq_true rfl) (Nat.le_of_ble_eq_true rfl) dX2_init_7 (fun q1 cA H hKn hP hD hS => ?_)
  obtain rfl : cA = G.2 0 := g5_cI hKn
  refine g5_rs [(a0, .inr (2, [.null, .null])), (q1, (arI G 8 (fun _ => 0)))] hP hD (fun hP hD => ?_)
  refine W.widen (k := 1) (n := 8) (Nat.le_of_ble_eq_true rfl) (Nat.le_of_ble_eq_true rfl) ?_
  refine va_putF (D := G.1) (ci := 2) (v := .ref q1) (ty := .array .int) (C := RX2) (T := TX2) (N := 2) hx hb hts inG_X2 tyX2 tyX2_ok nmX2 hown hK hP hD hS 0 rfl rfl 0 (by decide) (hts _ fl_X2_9) (fun _ h9 => h9) rfl hin rfl (by decide +kernel) rfl rfl (Nat.le_of_ble_eq_true rfl) dX2_init_9 (fun H locs hP hD hS => ?_)
  refine g5_rs [(a0, .inr (2, [.ref q1, .null])), (q1, (arI G 8 (fun _ => 0)))] hP hD (fun hP hD => ?_)
  refine lv_aload_n hx hb dX2_init_12 rfl (lv_at hl 0 rfl) ?_
  refine lv_bipush (v := 50) hx hb dX2_init_13 (by decide) ?_
  refine va_newa (D := G.1) (atype := .long) (ty := .long) hx hb (hts _ acl_J) rfl hK hP hD hS hA (n := 50) (N' := 50) (a0 := (50, .inr (.inl (fun _ => 0)))) (fun _ => rfl) (by decide) (by decide) (by decide) (Nat.le_of_ble_eq_true rfl) (Nat.le_of_ble_eq_true rfl) dX2_init_15 (fun q2 cA H hKn hP hD hS => ?_)
  obtain rfl : cA = G.2 1 := g5_cJ hKn
  refine g5_rs [(a0, .inr (2, [.ref q1, .null])), (q1, (arI G 8 (fun _ => 0))), (q2, (arJ G 50 (fun _ => 0)))] hP hD (fun hP hD => ?_)
  refine W.widen (k := 2) (n := 58) (Nat.le_of_ble_eq_true rfl) (Nat.le_of_ble_eq_true rfl) ?_
  refine va_putF (D := G.1) (ci := 2) (v := .ref q2) (ty := .array .long) (C := RX2) (T := TX2) (N := 2) hx hb hts inG_X2 tyX2 tyX2_ok nmX2 hown hK hP hD hS 0 rfl rfl 1 (by decide) (hts _ fl_X2_15) (fun _ h9 => h9) rfl hin rfl (by decide +kernel) rfl rfl (Nat.le_of_ble_eq_true rfl) dX2_init_17 (fun H locs hP hD hS => ?_)
  refine g5_rs [(a0, (oc2 q1 q2)), (q1, (arI G 8 (fun _ => 0))), (q2, (arJ G 50 (fun _ => 0)))] hP hD (fun hP hD => ?_)
  exact W.vret hx hb hr (fun t ht hW => ⟨⟨[(a0, (oc2 q1 q2)), (q1, (arI G 8 (fun _ => 0))), (q2, (arJ G 50 (fun _ => 0)))], rfl, ⟨q1, q2, rfl⟩, by rw [ht]; exact hP, hD⟩, hS.F ht⟩) hS.2.2 dX2_init_20
theorem cd_X2_init : Cond.code yX2_init cX2_init 1 none ∈ tblG := tg 232 (by decide +kernel) (by decide +kernel)
theorem gW_X2_init : GoodIn tblG (wsG yX2_init cX2_init 1 none) := tgi cd_X2_init
theorem hs_X2_init : yX2_init.cls ≠ "java/lang/invoke/MethodHandle" ∧ yX2_init.cls ≠ "java/lang/invoke/VarHandle" ∧ (parseMethodDescriptor yX2_init.desc).map (fun d => d.parameters.length) = some 0 := by decide +kernel
theorem im_X2_init : Cond.instanceMethod yX2_init ∈ tblG := tg 231 (by decide +kernel) (by decide +kernel)
theorem dgX5_init_0 : ∀ r ∈ ([(0, (.aload_n 0, 1)), (1, (.invokespecial 3, 3)), (4, (.aload_n 0, 1)), (5, (.new 9, 3)), (8, (.dup, 1)), (9, (.invokespecial 11, 3)), (12, (.putfield 12, 3)), (15, (.aload_n 0, 1)), (16, (.sipush 200, 3)), (19, (.newarray .int, 2)), (21, (.putfield 18, 3)), (24, (.aload_n 0, 1)), (25, (.aload_n 1, 1)), (26, (.putfield 22, 3)), (29, (.return_, 1))] : List (Nat × (Instr × Nat))), decode cX5_init r.1 = .ok r.2 := by decide +kernel
theorem dX5_init_0 : decode cX5_init 0 = .ok (.aload_n 0, 1) := dgX5_init_0 (0, (.aload_n 0, 1)) (List.mem_of_getElem? (i := 0) rfl)
theorem dX5_init_1 : decode cX5_init 1 = .ok (.invokespecial 3, 3) := dgX5_init_0 (1, (.invokespecial 3, 3)) (List.mem_of_getElem? (i := 1) rfl)
theorem dX5_init_4 : decode cX5_init 4 = .ok (.aload_n 0, 1) := dgX5_init_0 (4, (.aload_n 0, 1)) (List.mem_of_getElem? (i := 2) rfl)
theorem dX5_init_5 : decode cX5_init 5 = .ok (.new 9, 3) := dgX5_init_0 (5, (.new 9, 3)) (List.mem_of_getElem? (i := 3) rfl)
theorem dX5_init_8 : decode cX5_init 8 = .ok (.dup, 1) := dgX5_init_0 (8, (.dup, 1)) (List.mem_of_getElem? (i := 4) rfl)
theorem dX5_init_9 : decode cX5_init 9 = .ok (.invokespecial 11, 3) := dgX5_init_0 (9, (.invokespecial 11, 3)) (List.mem_of_getElem? (i := 5) rfl)
theorem dX5_init_12 : decode cX5_init 12 = .ok (.putfield 12, 3) := dgX5_init_0 (12, (.putfield 12, 3)) (List.mem_of_getElem? (i := 6) rfl)
theorem dX5_init_15 : decode cX5_init 15 = .ok (.aload_n 0, 1) := dgX5_init_0 (15, (.aload_n 0, 1)) (List.mem_of_getElem? (i := 7) rfl)
theorem dX5_init_16 : decode cX5_init 16 = .ok (.sipush 200, 3) := dgX5_init_0 (16, (.sipush 200, 3)) (List.mem_of_getElem? (i := 8) rfl)
theorem dX5_init_19 : decode cX5_init 19 = .ok (.newarray .int, 2) := dgX5_init_0 (19, (.newarray .int, 2)) (List.mem_of_getElem? (i := 9) rfl)
theorem dX5_init_21 : decode cX5_init 21 = .ok (.putfield 18, 3) := dgX5_init_0 (21, (.putfield 18, 3)) (List.mem_of_getElem? (i := 10) rfl)
theorem dX5_init_24 : decode cX5_init 24 = .ok (.aload_n 0, 1) := dgX5_init_0 (24, (.aload_n 0, 1)) (List.mem_of_getElem? (i := 11) rfl)
theorem dX5_init_25 : decode cX5_init 25 = .ok (.aload_n 1, 1) := dgX5_init_0 (25, (.aload_n 1, 1)) (List.mem_of_getElem? (i := 12) rfl)
theorem dX5_init_26 : decode cX5_init 26 = .ok (.putfield 22, 3) := dgX5_init_0 (26, (.putfield 22, 3)) (List.mem_of_getElem? (i := 13) rfl)
theorem dX5_init_29 : decode cX5_init 29 = .ok (.return_, 1) := dgX5_init_0 (29, (.return_, 1)) (List.mem_of_getElem? (i := 14) rfl)
set_option maxHeartbeats 4000000 in
set_option maxRecDepth 100000 in
theorem kX5_init (l : Launch) (G : g5_G) (a0 a1 : Nat) (sz : Nat) : Met l yX5_init (wsG yX5_init cX5_init 2 none) ({ frames := 2, cells := 4, slots := 260, locals := 32 }) (va_Pc [.ref a0, .ref a1] (g5_P G [(a0, .inr (5, [.null, .null, .null, .int 0, .int 0, .int 0, .int 0, .int 0, .int 0, .int 0, .int 0, .int 0, .int 0]))] sz)) (va_Qv (fun (u : va_W) => (∃ (q1 : Nat) (q2 : Nat) (q3 : Nat) (q4 : Nat), (u = [(a0, (oc5 a1 q1 q4 0 0 0 0 0 0 0 0 0 0)), (q1, (oc2 q2 q3)), (q2, (arI G 8 (fun _ => 0))), (q3, (arJ G 50 (fun _ => 0))), (q4, (arI G 200 (fun _ => 0)))]))) (g5_B G (va_A [(a0, .inr (5, [.null, .null, .null, .int 0, .int 0, .int 0, .int 0, .int 0, .int 0, .int 0, .int 0, .int 0, .int 0]))] sz)) (va_A [(a0, .inr (5, [.null, .null, .null, .int 0, .int 0, .int 0, .int 0, .int 0, .int 0, .int 0, .int 0, .int 0, .int 0]))] sz)) 4 260 (va_A [(a0, .inr (5, [.null, .null, .null, .int 0, .int 0, .int 0, .int 0, .int 0, .int 0, .int 0, .int 0, .int 0, .int 0]))] sz) := by
  refine Met.ofW (cc := cX5_init) (maxL := 2) (ret := none) (by decide) rfl ?_
  intro p e s m args below meth c s₁ B hml hv
  obtain ⟨rfl, hsz, hP, hK, hD0, hN, hT⟩ := hv
  have hx := B.exec
  have hb := B.bytes
  have hr := B.returns
  have hts : ∀ w ∈ tblG, w.before _ s = true := fun w h => atoms_spec (ws := (wsG yX5_init cX5_init 2 none)) B.pre w (List.mem_cons_of_mem _ h)
  have hown : s.vm.findClass RX5 = some m.cls := findClass_of_methodNamed B.named
  have hlocks := B.notSynchronized
  have hin : meth.name = "<init>" := (name_of_methodNamed B.named B.method).1
  subst hsz
  have hD := hD0.self (sz := s.heap.size)
  generalize hAe : va_A [(a0, .inr (5, [.null, .null, .null, .int 0, .int 0, .int 0, .int 0, .int 0, .int 0, .int 0, .int 0, .int 0, .int 0]))] s.heap.size = A at hD hT ⊢
  have hA : ∀ q : Nat, s.heap.size ≤ q → A q := fun q h => by rw [← hAe]; exact Or.inr h
  have hS : va_S A s.heap s.heap [] := va_S.rf
  have hP : va_P G.1 vwCl [(a0, .inr (5, [.null, .null, .null, .int 0, .int 0, .int 0, .int 0, .int 0, .int 0, .int 0, .int 0, .int 0, .int 0]))] s.heap := hP
  have hl := lv_entry ([.ref a0, .ref a1]) (n := 2) (Nat.le_of_ble_eq_true rfl)
  rw [lg_entry_eq]
  generalize (lg_sl ([.ref a0, .ref a1]) ++ List.replicate (2 - (lg_sl ([.ref a0, .ref a1])).length) Slot.unset).toArray = ls at hl ⊢
  have hl : lv_has ls 2 [(0, .ref a0), (1, .ref a1)] := hl
  refine lv_aload_n hx hb dX5_init_0 rfl (lv_at hl 0 rfl) ?_
  refine W.objInit hx hb hown (hts _ oi_X5_3) (hts _ oi_im) (hts _ oi_cd) rfl (by rw [hml]; exact hl.1) rfl dX5_init_1 (Nat.le_of_ble_eq_true rfl) (Nat.le_of_ble_eq_true rfl) ?_
  refine W.eq (g2 := F0 m 4 ls []) rfl ?_
  refine lv_aload_n hx hb dX5_init_4 rfl (lv_at hl 0 rfl) ?_
  refine va_new (D := G.1) (ci := 2) (fs := [.null, .null]) (C := RX2) (T := TX2) (N := 2) hx hb hts inG_X2 tyX2 tyX2_ok hown (hts _ cl_X5_9) (hts _ isn_X2) (hts _ ini_X2) hK hP hD hS hA rfl (fun j hj => by rcases (show j = 0 ∨ j = 1 by omega) with rfl | rfl <;> rfl) (Nat.le_of_ble_eq_true rfl) (Nat.le_of_ble_eq_true rfl) dX5_init_5 (fun q1 H hP hD hS => ?_)
  refine g5_rs [(a0, .inr (5, [.null, .null, .null, .int 0, .int 0, .int 0, .int 0, .int 0, .int 0, .int 0, .int 0, .int 0, .int 0])), (q1, .inr (2, [.null, .null]))] hP hD (fun hP hD => ?_)
  refine W.widen (k := 1) (n := 2) (Nat.le_of_ble_eq_true rfl) (Nat.le_of_ble_eq_true rfl) ?_
  refine lv_dup hx hb dX5_init_8 rfl ?_
  obtain ⟨hPc, hDc, hFc⟩ := g5_sub3 (wc := [(q1, .inr (2, [.null, .null]))]) hP hD hS hA [1] (by decide) rfl
  refine va_callv (va_runIN (As := []) (rest := [.ref q1, .ref a0]) ⟨hx, hb, hml, hown, hts⟩ (kX2_init l G q1 H.size) ⟨va_cnB 0 hts gW_X2_init rfl rfl rfl (hN.1 _ g5_nw_X5_11) (hts _ ini_X2) hs_X2_init ⟨Nat.le_of_ble_eq_true rfl, Nat.le_of_ble_eq_true rfl⟩, rfl, hts _ im_X2_init⟩ (g5_preS hPc hK hDc hN hT hS hFc) rfl rfl hl.1 rfl (lv_room (Nat.le_of_ble_eq_true rfl)) dX5_init_9 ⟨Nat.le_of_ble_eq_true rfl, Nat.le_of_ble_eq_true rfl⟩) hS (fun q _ h => hFc q h) hFc (fun u t H1 locs ht hvm hw hB hz1 hk1 hS => ?_)
  obtain ⟨hP1, hD1⟩ := hB
  rw [ht] at hP1
  refine W.widen (k := 3) (n := 60) (Nat.le_of_ble_eq_true rfl) (Nat.le_of_ble_eq_true rfl) ?_
  obtain ⟨q2, q3, rfl⟩ := hw
  obtain ⟨hP, hD⟩ := va_join (wr := [(a0, .inr (5, [.null, .null, .null, .int 0, .int 0, .int 0, .int 0, .int 0, .int 0, .int 0, .int 0, .int 0, .int 0]))]) hP hD [1] [0] rfl rfl (by decide) (by decide) hk1 hFc hP1 hD1
  generalize H1 = H at hP hS ⊢
  refine g5_rs [(a0, .inr (5, [.null, .null, .null, .int 0, .int 0, .int 0, .int 0, .int 0, .int 0, .int 0, .int 0, .int 0, .int 0])), (q1, (oc2 q2 q3)), (q2, (arI G 8 (fun _ => 0))), (q3, (arJ G 50 (fun _ => 0)))] hP hD (fun hP hD => ?_)
  refine va_putF (D := G.1) (ci := 5) (v := .ref q1) (ty := .object "LateGlass$Judge") (C := RX5) (T := TX5) (N := 13) hx hb hts inG_X5 tyX5 tyX5_ok nmX5 hown hK hP hD hS 0 rfl rfl 1 (by decide) (hts _ fl_X5_12) (fun _ h9 => h9) rfl hin rfl (by decide +kernel) rfl rfl (Nat.le_of_ble_eq_true rfl) dX5_init_12 (fun H locs hP hD hS => ?_)
  refine g5_rs [(a0, .inr (5, [.null, .ref q1, .null, .int 0, .int 0, .int 0, .int 0, .int 0, .int 0, .int 0, .int 0, .int 0, .int 0])), (q1, (oc2 q2 q3)), (q2, (arI G 8 (fun _ => 0))), (q3, (arJ G 50 (fun _ => 0)))] hP hD (fun hP hD => ?_)
  refine lv_aload_n hx hb dX5_init_15 rfl (lv_at hl 0 rfl) ?_
  refine lv_sipush (v := 200) hx hb dX5_init_16 (by decide) ?_
  refine va_newa (D := G.1) (atype := .int) (ty := .int) hx hb (hts _ acl_I) rfl hK hP hD hS hA (n := 200) (N' := 200) (a0 := (200, .inl (fun _ => 0))) (fun _ => rfl) (by decide) (by decide) (by decide) (Nat.le_of_ble_eq_true rfl) (Nat.le_of_ble_eq_true rfl) dX5_init_19 (fun q4 cA H hKn hP hD hS => ?_)
  obtain rfl : cA = G.2 0 := g5_cI hKn
  refine g5_rs [(a0, .inr (5, [.null, .ref q1, .null, .int 0, .int 0, .int 0, .int 0, .int 0, .int 0, .int 0, .int 0, .int 0, .int 0])), (q1, (oc2 q2 q3)), (q2, (arI G 8 (fun _ => 0))), (q3, (arJ G 50 (fun _ => 0))), (q4, (arI G 200 (fun _ => 0)))] hP hD (fun hP hD => ?_)
  refine W.widen (k := 4) (n := 260) (Nat.le_of_ble_eq_true rfl) (Nat.le_of_ble_eq_true rfl) ?_
  refine va_putF (D := G.1) (ci := 5) (v := .ref q4) (ty := .array .int) (C := RX5) (T := TX5) (N := 13) hx hb hts inG_X5 tyX5 tyX5_ok nmX5 hown hK hP hD hS 0 rfl rfl 2 (by decide) (hts _ fl_X5_18) (fun _ h9 => h9) rfl hin rfl (by decide +kernel) rfl rfl (Nat.le_of_ble_eq_true rfl) dX5_init_21 (fun H locs hP hD hS => ?_)
  refine g5_rs [(a0, .inr (5, [.null, .ref q1, .ref q4, .int 0, .int 0, .int 0, .int 0, .int 0, .int 0, .int 0, .int 0, .int 0, .int 0])), (q1, (oc2 q2 q3)), (q2, (arI G 8 (fun _ => 0))), (q3, (arJ G 50 (fun _ => 0))), (q4, (arI G 200 (fun _ => 0)))] hP hD (fun hP hD => ?_)
  refine lv_aload_n hx hb dX5_init_24 rfl (lv_at hl 0 rfl) ?_
  refine lv_aload_n hx hb dX5_init_25 rfl (lv_at hl 1 rfl) ?_
  refine va_putF (D := G.1) (ci := 5) (v := .ref a1) (ty := .object "LateGlass$House") (C := RX5) (T := TX5) (N := 13) hx hb hts inG_X5 tyX5 tyX5_ok nmX5 hown hK hP hD hS 0 rfl rfl 0 (by decide) (hts _ fl_X5_22) (fun _ h9 => h9) rfl hin rfl (by decide +kernel) rfl rfl (Nat.le_of_ble_eq_true rfl) dX5_init_26 (fun H locs hP hD hS => ?_)
  refine g5_rs [(a0, (oc5 a1 q1 q4 0 0 0 0 0 0 0 0 0 0)), (q1, (oc2 q2 q3)), (q2, (arI G 8 (fun _ => 0))), (q3, (arJ G 50 (fun _ => 0))), (q4, (arI G 200 (fun _ => 0)))] hP hD (fun hP hD => ?_)
  exact W.vret hx hb hr (fun t ht hW => ⟨⟨[(a0, (oc5 a1 q1 q4 0 0 0 0 0 0 0 0 0 0)), (q1, (oc2 q2 q3)), (q2, (arI G 8 (fun _ => 0))), (q3, (arJ G 50 (fun _ => 0))), (q4, (arI G 200 (fun _ => 0)))], rfl, ⟨q1, q2, q3, q4, rfl⟩, by rw [ht]; exact hP, hD⟩, hS.F ht⟩) hS.2.2 dX5_init_29
theorem cd_X5_init : Cond.code yX5_init cX5_init 2 none ∈ tblG := tg 226 (by decide +kernel) (by decide +kernel)
theorem gW_X5_init : GoodIn tblG (wsG yX5_init cX5_init 2 none) := tgi cd_X5_init
theorem ml_X11_26 : Cond.methodLink RX11 26 yX5_init ∈ tblG := tg 224 (by decide +kernel) (by decide +kernel)
theorem im_X5_init : Cond.instanceMethod yX5_init ∈ tblG := tg 225 (by decide +kernel) (by decide +kernel)
theorem hs_X5_init : yX5_init.cls ≠ "java/lang/invoke/MethodHandle" ∧ yX5_init.cls ≠ "java/lang/invoke/VarHandle" ∧ (parseMethodDescriptor yX5_init.desc).map (fun d => d.parameters.length) = some 1 := by decide +kernel
theorem cl_X11_33 : Cond.classLink RX11 33 RX10 ∈ tblG := tg 294 (by decide +kernel) (by decide +kernel)
theorem oi_X10_3 : Cond.methodLink RX10 3 objectInit ∈ tblG := tg 299 (by decide +kernel) (by decide +kernel)
theorem dgX10_init_0 : ∀ r ∈ ([(0, (.aload_n 0, 1)), (1, (.invokespecial 3, 3)), (4, (.aload_n 0, 1)), (5, (.bipush 24, 2)), (7, (.newarray .long, 2)), (9, (.putfield 9, 3)), (12, (.aload_n 0, 1)), (13, (.aload_n 1, 1)), (14, (.putfield 15, 3)), (17, (.aload_n 0, 1)), (18, (.aload_n 2, 1)), (19, (.putfield 19, 3)), (22, (.return_, 1))] : List (Nat × (Instr × Nat))), decode cX10_init r.1 = .ok r.2 := by decide +kernel
theorem dX10_init_0 : decode cX10_init 0 = .ok (.aload_n 0, 1) := dgX10_init_0 (0, (.aload_n 0, 1)) (List.mem_of_getElem? (i := 0) rfl)
theorem dX10_init_1 : decode cX10_init 1 = .ok (.invokespecial 3, 3) := dgX10_init_0 (1, (.invokespecial 3, 3)) (List.mem_of_getElem? (i := 1) rfl)
theorem dX10_init_4 : decode cX10_init 4 = .ok (.aload_n 0, 1) := dgX10_init_0 (4, (.aload_n 0, 1)) (List.mem_of_getElem? (i := 2) rfl)
theorem dX10_init_5 : decode cX10_init 5 = .ok (.bipush 24, 2) := dgX10_init_0 (5, (.bipush 24, 2)) (List.mem_of_getElem? (i := 3) rfl)
theorem dX10_init_7 : decode cX10_init 7 = .ok (.newarray .long, 2) := dgX10_init_0 (7, (.newarray .long, 2)) (List.mem_of_getElem? (i := 4) rfl)
theorem dX10_init_9 : decode cX10_init 9 = .ok (.putfield 9, 3) := dgX10_init_0 (9, (.putfield 9, 3)) (List.mem_of_getElem? (i := 5) rfl)
theorem dX10_init_12 : decode cX10_init 12 = .ok (.aload_n 0, 1) := dgX10_init_0 (12, (.aload_n 0, 1)) (List.mem_of_getElem? (i := 6) rfl)
theorem dX10_init_13 : decode cX10_init 13 = .ok (.aload_n 1, 1) := dgX10_init_0 (13, (.aload_n 1, 1)) (List.mem_of_getElem? (i := 7) rfl)
theorem dX10_init_14 : decode cX10_init 14 = .ok (.putfield 15, 3) := dgX10_init_0 (14, (.putfield 15, 3)) (List.mem_of_getElem? (i := 8) rfl)
theorem dX10_init_17 : decode cX10_init 17 = .ok (.aload_n 0, 1) := dgX10_init_0 (17, (.aload_n 0, 1)) (List.mem_of_getElem? (i := 9) rfl)
theorem dX10_init_18 : decode cX10_init 18 = .ok (.aload_n 2, 1) := dgX10_init_0 (18, (.aload_n 2, 1)) (List.mem_of_getElem? (i := 10) rfl)
theorem dX10_init_19 : decode cX10_init 19 = .ok (.putfield 19, 3) := dgX10_init_0 (19, (.putfield 19, 3)) (List.mem_of_getElem? (i := 11) rfl)
theorem dX10_init_22 : decode cX10_init 22 = .ok (.return_, 1) := dgX10_init_0 (22, (.return_, 1)) (List.mem_of_getElem? (i := 12) rfl)
set_option maxHeartbeats 4000000 in
set_option maxRecDepth 100000 in
theorem kX10_init (l : Launch) (G : g5_G) (a0 a1 a2 : Nat) (sz : Nat) : Met l yX10_init (wsG yX10_init cX10_init 3 none) ({ frames := 1, cells := 1, slots := 24, locals := 12 }) (va_Pc [.ref a0, .ref a1, .ref a2] (g5_P G [(a0, .inr (10, [.null, .null, .null]))] sz)) (va_Qv (fun (u : va_W) => (∃ (q1 : Nat), (u = [(a0, (oc10 a1 a2 q1)), (q1, (arJ G 24 (fun _ => 0)))]))) (g5_B G (va_A [(a0, .inr (10, [.null, .null, .null]))] sz)) (va_A [(a0, .inr (10, [.null, .null, .null]))] sz)) 1 24 (va_A [(a0, .inr (10, [.null, .null, .null]))] sz) := by
  refine Met.ofW (cc := cX10_init) (maxL := 3) (ret := none) (by decide) rfl ?_
  intro p e s m args below meth c s₁ B hml hv
  obtain ⟨rfl, hsz, hP, hK, hD0, hN, hT⟩ := hv
  have hx := B.exec
  have hb := B.bytes
  have hr := B.returns
  have hts : ∀ w ∈ tblG, w.before _ s = true := fun w h => atoms_spec (ws := (wsG yX10_init cX10_init 3 none)) B.pre w (List.mem_cons_of_mem _ h)
  have hown : s.vm.findClass RX10 = some m.cls := findClass_of_methodNamed B.named
  have hlocks := B.notSynchronized
  have hin : meth.name = "<init>" := (name_of_methodNamed B.named B.method).1
  subst hsz
  have hD := hD0.self (sz := s.heap.size)
  generalize hAe : va_A [(a0, .inr (10, [.null, .null, .null]))] s.heap.size = A at hD hT ⊢
  have hA : ∀ q : Nat, s.heap.size ≤ q → A q := fun q h => by rw [← hAe]; exact Or.inr h
  have hS : va_S A s.heap s.heap [] := va_S.rf
  have hP : va_P G.1 vwCl [(a0, .inr (10, [.null, .null, .null]))] s.heap := hP
  have hl := lv_entry ([.ref a0, .ref a1, .ref a2]) (n := 3) (Nat.le_of_ble_eq_true rfl)
  rw [lg_entry_eq]
  generalize (lg_sl ([.ref a0, .ref a1, .ref a2]) ++ List.replicate (3 - (lg_sl ([.ref a0, .ref a1, .ref a2])).length) Slot.unset).toArray = ls at hl ⊢
  have hl : lv_has ls 3 [(0, .ref a0), (1, .ref a1), (2, .ref a2)] := hl
  refine lv_aload_n hx hb dX10_init_0 rfl (lv_at hl 0 rfl) ?_
  refine W.objInit hx hb hown (hts _ oi_X10_3) (hts _ oi_im) (hts _ oi_cd) rfl (by rw [hml]; exact hl.1) rfl dX10_init_1 (Nat.le_of_ble_eq_true rfl) (Nat.le_of_ble_eq_true rfl) ?_
  refine W.eq (g2 := F0 m 4 ls []) rfl ?_
  refine lv_aload_n hx hb dX10_init_4 rfl (lv_at hl 0 rfl) ?_
  refine lv_bipush (v := 24) hx hb dX10_init_5 (by decide) ?_
  refine va_newa (D := G.1) (atype := .long) (ty := .long) hx hb (hts _ acl_J) rfl hK hP hD hS hA (n := 24) (N' := 24) (a0 := (24, .inr (.inl (fun _ => 0)))) (fun _ => rfl) (by decide) (by decide) (by decide) (Nat.le_of_ble_eq_true rfl) (Nat.le_of_ble_eq_true rfl) dX10_init_7 (fun q1 cA H hKn hP hD hS => ?_)
  obtain rfl : cA = G.2 1 := g5_cJ hKn
  refine g5_rs [(a0, .inr (10, [.null, .null, .null])), (q1, (arJ G 24 (fun _ => 0)))] hP hD (fun hP hD => ?_)
  refine W.widen (k := 1) (n := 24) (Nat.le_of_ble_eq_true rfl) (Nat.le_of_ble_eq_true rfl) ?_
  refine va_putF (D := G.1) (ci := 10) (v := .ref q1) (ty := .array .long) (C := RX10) (T := TX10) (N := 3) hx hb hts inG_X10 tyX10 tyX10_ok nmX10 hown hK hP hD hS 0 rfl rfl 2 (by decide) (hts _ fl_X10_9) (fun _ h9 => h9) rfl hin rfl (by decide +kernel) rfl rfl (Nat.le_of_ble_eq_true rfl) dX10_init_9 (fun H locs hP hD hS => ?_)
  refine g5_rs [(a0, .inr (10, [.null, .null, .ref q1])), (q1, (arJ G 24 (fun _ => 0)))] hP hD (fun hP hD => ?_)
  refine lv_aload_n hx hb dX10_init_12 rfl (lv_at hl 0 rfl) ?_
  refine lv_aload_n hx hb dX10_init_13 rfl (lv_at hl 1 rfl) ?_
  refine va_putF (D := G.1) (ci := 10) (v := .ref a1) (ty := .object "LateGlass$House") (C := RX10) (T := TX10) (N := 3) hx hb hts inG_X10 tyX10 tyX10_ok nmX10 hown hK hP hD hS 0 rfl rfl 0 (by decide) (hts _ fl_X10_15) (fun _ h9 => h9) rfl hin rfl (by decide +kernel) rfl rfl (Nat.le_of_ble_eq_true rfl) dX10_init_14 (fun H locs hP hD hS => ?_)
  refine g5_rs [(a0, .inr (10, [.ref a1, .null, .ref q1])), (q1, (arJ G 24 (fun _ => 0)))] hP hD (fun hP hD => ?_)
  refine lv_aload_n hx hb dX10_init_17 rfl (lv_at hl 0 rfl) ?_
  refine lv_aload_n hx hb dX10_init_18 rfl (lv_at hl 2 rfl) ?_
  refine va_putF (D := G.1) (ci := 10) (v := .ref a2) (ty := .object "LateGlass$Look") (C := RX10) (T := TX10) (N := 3) hx hb hts inG_X10 tyX10 tyX10_ok nmX10 hown hK hP hD hS 0 rfl rfl 1 (by decide) (hts _ fl_X10_19) (fun _ h9 => h9) rfl hin rfl (by decide +kernel) rfl rfl (Nat.le_of_ble_eq_true rfl) dX10_init_19 (fun H locs hP hD hS => ?_)
  refine g5_rs [(a0, (oc10 a1 a2 q1)), (q1, (arJ G 24 (fun _ => 0)))] hP hD (fun hP hD => ?_)
  exact W.vret hx hb hr (fun t ht hW => ⟨⟨[(a0, (oc10 a1 a2 q1)), (q1, (arJ G 24 (fun _ => 0)))], rfl, ⟨q1, rfl⟩, by rw [ht]; exact hP, hD⟩, hS.F ht⟩) hS.2.2 dX10_init_22
theorem cd_X10_init : Cond.code yX10_init cX10_init 3 none ∈ tblG := tg 298 (by decide +kernel) (by decide +kernel)
theorem gW_X10_init : GoodIn tblG (wsG yX10_init cX10_init 3 none) := tgi cd_X10_init
theorem ml_X11_35 : Cond.methodLink RX11 35 yX10_init ∈ tblG := tg 296 (by decide +kernel) (by decide +kernel)
theorem im_X10_init : Cond.instanceMethod yX10_init ∈ tblG := tg 297 (by decide +kernel) (by decide +kernel)
theorem hs_X10_init : yX10_init.cls ≠ "java/lang/invoke/MethodHandle" ∧ yX10_init.cls ≠ "java/lang/invoke/VarHandle" ∧ (parseMethodDescriptor yX10_init.desc).map (fun d => d.parameters.length) = some 2 := by decide +kernel
theorem cl_X11_42 : Cond.classLink RX11 42 RX7 ∈ tblG := tg 311 (by decide +kernel) (by decide +kernel)
theorem oi_X7_3 : Cond.methodLink RX7 3 objectInit ∈ tblG := tg 316 (by decide +kernel) (by decide +kernel)
theorem dgX7_init_0 : ∀ r ∈ ([(0, (.aload_n 0, 1)), (1, (.invokespecial 3, 3)), (4, (.aload_n 0, 1)), (5, (.bipush 24, 2)), (7, (.newarray .long, 2)), (9, (.putfield 9, 3)), (12, (.aload_n 0, 1)), (13, (.sipush 1536, 3)), (16, (.newarray .int, 2)), (18, (.putfield 15, 3)), (21, (.aload_n 0, 1)), (22, (.sipush 2048, 3)), (25, (.newarray .long, 2)), (27, (.putfield 19, 3)), (30, (.aload_n 0, 1)), (31, (.sipush 2048, 3)), (34, (.newarray .long, 2)), (36, (.putfield 22, 3)), (39, (.aload_n 0, 1)), (40, (.sipush 1536, 3)), (43, (.newarray .int, 2)), (45, (.putfield 25, 3)), (48, (.aload_n 0, 1)), (49, (.bipush 64, 2)), (51, (.newarray .int, 2)), (53, (.putfield 28, 3)), (56, (.aload_n 0, 1)), (57, (.bipush 64, 2)), (59, (.newarray .int, 2)), (61, (.putfield 31, 3)), (64, (.aload_n 0, 1)), (65, (.aload_n 1, 1)), (66, (.putfield 34, 3)), (69, (.aload_n 0, 1)), (70, (.aload_n 2, 1)), (71, (.putfield 38, 3)), (74, (.return_, 1))] : List (Nat × (Instr × Nat))), decode cX7_init r.1 = .ok r.2 := by decide +kernel
theorem dX7_init_0 : decode cX7_init 0 = .ok (.aload_n 0, 1) := dgX7_init_0 (0, (.aload_n 0, 1)) (List.mem_of_getElem? (i := 0) rfl)
theorem dX7_init_1 : decode cX7_init 1 = .ok (.invokespecial 3, 3) := dgX7_init_0 (1, (.invokespecial 3, 3)) (List.mem_of_getElem? (i := 1) rfl)
theorem dX7_init_4 : decode cX7_init 4 = .ok (.aload_n 0, 1) := dgX7_init_0 (4, (.aload_n 0, 1)) (List.mem_of_getElem? (i := 2) rfl)
theorem dX7_init_5 : decode cX7_init 5 = .ok (.bipush 24, 2) := dgX7_init_0 (5, (.bipush 24, 2)) (List.mem_of_getElem? (i := 3) rfl)
theorem dX7_init_7 : decode cX7_init 7 = .ok (.newarray .long, 2) := dgX7_init_0 (7, (.newarray .long, 2)) (List.mem_of_getElem? (i := 4) rfl)
theorem dX7_init_9 : decode cX7_init 9 = .ok (.putfield 9, 3) := dgX7_init_0 (9, (.putfield 9, 3)) (List.mem_of_getElem? (i := 5) rfl)
theorem dX7_init_12 : decode cX7_init 12 = .ok (.aload_n 0, 1) := dgX7_init_0 (12, (.aload_n 0, 1)) (List.mem_of_getElem? (i := 6) rfl)
theorem dX7_init_13 : decode cX7_init 13 = .ok (.sipush 1536, 3) := dgX7_init_0 (13, (.sipush 1536, 3)) (List.mem_of_getElem? (i := 7) rfl)
theorem dX7_init_16 : decode cX7_init 16 = .ok (.newarray .int, 2) := dgX7_init_0 (16, (.newarray .int, 2)) (List.mem_of_getElem? (i := 8) rfl)
theorem dX7_init_18 : decode cX7_init 18 = .ok (.putfield 15, 3) := dgX7_init_0 (18, (.putfield 15, 3)) (List.mem_of_getElem? (i := 9) rfl)
theorem dX7_init_21 : decode cX7_init 21 = .ok (.aload_n 0, 1) := dgX7_init_0 (21, (.aload_n 0, 1)) (List.mem_of_getElem? (i := 10) rfl)
theorem dX7_init_22 : decode cX7_init 22 = .ok (.sipush 2048, 3) := dgX7_init_0 (22, (.sipush 2048, 3)) (List.mem_of_getElem? (i := 11) rfl)
theorem dX7_init_25 : decode cX7_init 25 = .ok (.newarray .long, 2) := dgX7_init_0 (25, (.newarray .long, 2)) (List.mem_of_getElem? (i := 12) rfl)
theorem dX7_init_27 : decode cX7_init 27 = .ok (.putfield 19, 3) := dgX7_init_0 (27, (.putfield 19, 3)) (List.mem_of_getElem? (i := 13) rfl)
theorem dX7_init_30 : decode cX7_init 30 = .ok (.aload_n 0, 1) := dgX7_init_0 (30, (.aload_n 0, 1)) (List.mem_of_getElem? (i := 14) rfl)
theorem dX7_init_31 : decode cX7_init 31 = .ok (.sipush 2048, 3) := dgX7_init_0 (31, (.sipush 2048, 3)) (List.mem_of_getElem? (i := 15) rfl)
theorem dX7_init_34 : decode cX7_init 34 = .ok (.newarray .long, 2) := dgX7_init_0 (34, (.newarray .long, 2)) (List.mem_of_getElem? (i := 16) rfl)
theorem dX7_init_36 : decode cX7_init 36 = .ok (.putfield 22, 3) := dgX7_init_0 (36, (.putfield 22, 3)) (List.mem_of_getElem? (i := 17) rfl)
theorem dX7_init_39 : decode cX7_init 39 = .ok (.aload_n 0, 1) := dgX7_init_0 (39, (.aload_n 0, 1)) (List.mem_of_getElem? (i := 18) rfl)
theorem dX7_init_40 : decode cX7_init 40 = .ok (.sipush 1536, 3) := dgX7_init_0 (40, (.sipush 1536, 3)) (List.mem_of_getElem? (i := 19) rfl)
theorem dX7_init_43 : decode cX7_init 43 = .ok (.newarray .int, 2) := dgX7_init_0 (43, (.newarray .int, 2)) (List.mem_of_getElem? (i := 20) rfl)
theorem dX7_init_45 : decode cX7_init 45 = .ok (.putfield 25, 3) := dgX7_init_0 (45, (.putfield 25, 3)) (List.mem_of_getElem? (i := 21) rfl)
theorem dX7_init_48 : decode cX7_init 48 = .ok (.aload_n 0, 1) := dgX7_init_0 (48, (.aload_n 0, 1)) (List.mem_of_getElem? (i := 22) rfl)
theorem dX7_init_49 : decode cX7_init 49 = .ok (.bipush 64, 2) := dgX7_init_0 (49, (.bipush 64, 2)) (List.mem_of_getElem? (i := 23) rfl)
theorem dX7_init_51 : decode cX7_init 51 = .ok (.newarray .int, 2) := dgX7_init_0 (51, (.newarray .int, 2)) (List.mem_of_getElem? (i := 24) rfl)
theorem dX7_init_53 : decode cX7_init 53 = .ok (.putfield 28, 3) := dgX7_init_0 (53, (.putfield 28, 3)) (List.mem_of_getElem? (i := 25) rfl)
theorem dX7_init_56 : decode cX7_init 56 = .ok (.aload_n 0, 1) := dgX7_init_0 (56, (.aload_n 0, 1)) (List.mem_of_getElem? (i := 26) rfl)
theorem dX7_init_57 : decode cX7_init 57 = .ok (.bipush 64, 2) := dgX7_init_0 (57, (.bipush 64, 2)) (List.mem_of_getElem? (i := 27) rfl)
theorem dX7_init_59 : decode cX7_init 59 = .ok (.newarray .int, 2) := dgX7_init_0 (59, (.newarray .int, 2)) (List.mem_of_getElem? (i := 28) rfl)
theorem dX7_init_61 : decode cX7_init 61 = .ok (.putfield 31, 3) := dgX7_init_0 (61, (.putfield 31, 3)) (List.mem_of_getElem? (i := 29) rfl)
theorem dX7_init_64 : decode cX7_init 64 = .ok (.aload_n 0, 1) := dgX7_init_0 (64, (.aload_n 0, 1)) (List.mem_of_getElem? (i := 30) rfl)
theorem dX7_init_65 : decode cX7_init 65 = .ok (.aload_n 1, 1) := dgX7_init_0 (65, (.aload_n 1, 1)) (List.mem_of_getElem? (i := 31) rfl)
theorem dX7_init_66 : decode cX7_init 66 = .ok (.putfield 34, 3) := dgX7_init_0 (66, (.putfield 34, 3)) (List.mem_of_getElem? (i := 32) rfl)
theorem dX7_init_69 : decode cX7_init 69 = .ok (.aload_n 0, 1) := dgX7_init_0 (69, (.aload_n 0, 1)) (List.mem_of_getElem? (i := 33) rfl)
theorem dX7_init_70 : decode cX7_init 70 = .ok (.aload_n 2, 1) := dgX7_init_0 (70, (.aload_n 2, 1)) (List.mem_of_getElem? (i := 34) rfl)
theorem dX7_init_71 : decode cX7_init 71 = .ok (.putfield 38, 3) := dgX7_init_0 (71, (.putfield 38, 3)) (List.mem_of_getElem? (i := 35) rfl)
theorem dX7_init_74 : decode cX7_init 74 = .ok (.return_, 1) := dgX7_init_0 (74, (.return_, 1)) (List.mem_of_getElem? (i := 36) rfl)
